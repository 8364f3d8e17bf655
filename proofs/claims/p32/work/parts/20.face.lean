theorem wn_61 : (Cond.fieldLinkNest RX11 (145 : Nat) "NineRiver$State" "gates" "LNineRiver$Rows;" "NineRiver") ∈ lw_tbl := List.mem_append_right _ (List.mem_of_getElem? (i := 61) (by decide +kernel))
theorem wn_64 : (Cond.fieldLinkNest RX11 (170 : Nat) "NineRiver$State" "mills" "LNineRiver$Rows;" "NineRiver") ∈ lw_tbl := List.mem_append_right _ (List.mem_of_getElem? (i := 64) (by decide +kernel))
theorem wn_68 : (Cond.fieldLinkNest RX11 (246 : Nat) "NineRiver$State" "boats" "LNineRiver$Rows;" "NineRiver") ∈ lw_tbl := List.mem_append_right _ (List.mem_of_getElem? (i := 68) (by decide +kernel))
theorem wn_71 : (Cond.fieldLinkNest RX11 (266 : Nat) "NineRiver$State" "pours" "LNineRiver$Rows;" "NineRiver") ∈ lw_tbl := List.mem_append_right _ (List.mem_of_getElem? (i := 71) (by decide +kernel))
theorem wn_74 : (Cond.fieldLinkNest RX11 (292 : Nat) "NineRiver$State" "sights" "LNineRiver$Rows;" "NineRiver") ∈ lw_tbl := List.mem_append_right _ (List.mem_of_getElem? (i := 74) (by decide +kernel))
theorem wd_352 : (Cond.fieldLink RX11 (51 : Nat) "NineRiver" "travel" "LNineRiver$Travel;") ∈ TB := tw 352 (by decide +kernel) (by decide +kernel)
theorem wd_355 : (Cond.fieldLink RX11 (78 : Nat) "NineRiver" "thrower" "LNineRiver$Thrower;") ∈ TB := tw 355 (by decide +kernel) (by decide +kernel)
theorem wd_481 : (Cond.methodLink RX11 (149 : Nat) yX4_isFull) ∈ TB := tw 481 (by decide +kernel) (by decide +kernel)
theorem wd_485 : (Cond.methodLink RX11 (155 : Nat) yX4_put) ∈ TB := tw 485 (by decide +kernel) (by decide +kernel)
theorem wd_486 : (Jvm.Cond.instanceMethod yX4_put) ∈ TB := tw 486 (by decide +kernel) (by decide +kernel)
theorem wd_487 : (Cond.selects RX4 yX4_put yX4_put) ∈ TB := tw 487 (by decide +kernel) (by decide +kernel)
theorem wd_488 : (Cond.code yX4_put cX4_put 6 (Option.some Jvm.ClassFile.FieldType.int)) ∈ TB := tw 488 (by decide +kernel) (by decide +kernel)
theorem wd_494 : (Cond.methodLink RX11 (159 : Nat) yX4_has) ∈ TB := tw 494 (by decide +kernel) (by decide +kernel)
theorem wd_498 : (Cond.methodLink RX11 (162 : Nat) yX4_takeOut) ∈ TB := tw 498 (by decide +kernel) (by decide +kernel)
theorem wd_499 : (Jvm.Cond.instanceMethod yX4_takeOut) ∈ TB := tw 499 (by decide +kernel) (by decide +kernel)
theorem wd_500 : (Cond.selects RX4 yX4_takeOut yX4_takeOut) ∈ TB := tw 500 (by decide +kernel) (by decide +kernel)
theorem wd_501 : (Cond.code yX4_takeOut cX4_takeOut 2 (Option.none : Option Jvm.ClassFile.FieldType)) ∈ TB := tw 501 (by decide +kernel) (by decide +kernel)
theorem wd_506 : (Cond.methodLink RX11 (166 : Nat) yX4_size) ∈ TB := tw 506 (by decide +kernel) (by decide +kernel)
theorem wd_518 : (Cond.methodLink RX11 (173 : Nat) yX4_at) ∈ TB := tw 518 (by decide +kernel) (by decide +kernel)
theorem wd_522 : (Cond.methodLink RX11 (176 : Nat) yX7_turns) ∈ TB := tw 522 (by decide +kernel) (by decide +kernel)
theorem wd_523 : (Jvm.Cond.instanceMethod yX7_turns) ∈ TB := tw 523 (by decide +kernel) (by decide +kernel)
theorem wd_524 : (Cond.selects RX7 yX7_turns yX7_turns) ∈ TB := tw 524 (by decide +kernel) (by decide +kernel)
theorem wd_525 : (Cond.code yX7_turns cX7_turns 6 (Option.some Jvm.ClassFile.FieldType.int)) ∈ TB := tw 525 (by decide +kernel) (by decide +kernel)
theorem wd_617 : (Cond.methodLink RX11 (262 : Nat) yX11_isPour) ∈ TB := tw 617 (by decide +kernel) (by decide +kernel)
theorem wd_618 : (Jvm.Cond.static yX11_isPour) ∈ TB := tw 618 (by decide +kernel) (by decide +kernel)
theorem wd_619 : (Cond.code yX11_isPour cX11_isPour 4 (Option.some Jvm.ClassFile.FieldType.boolean)) ∈ TB := tw 619 (by decide +kernel) (by decide +kernel)
theorem wd_623 : (Cond.methodLink RX11 (220 : Nat) yX7_isBarred) ∈ TB := tw 623 (by decide +kernel) (by decide +kernel)
theorem wd_805 : (Cond.methodLink RX11 (214 : Nat) yX7_flowAt) ∈ TB := tw 805 (by decide +kernel) (by decide +kernel)
theorem wd_810 : (Cond.methodLink RX11 (217 : Nat) yX7_costAt) ∈ TB := tw 810 (by decide +kernel) (by decide +kernel)
theorem wd_811 : (Jvm.Cond.instanceMethod yX7_costAt) ∈ TB := tw 811 (by decide +kernel) (by decide +kernel)
theorem wd_812 : (Cond.selects RX7 yX7_costAt yX7_costAt) ∈ TB := tw 812 (by decide +kernel) (by decide +kernel)
theorem wd_813 : (Cond.code yX7_costAt cX7_costAt 3 (Option.some Jvm.ClassFile.FieldType.int)) ∈ TB := tw 813 (by decide +kernel) (by decide +kernel)
theorem wd_814 : (Cond.methodLink RX11 (223 : Nat) yX7_tollAt) ∈ TB := tw 814 (by decide +kernel) (by decide +kernel)
theorem wd_826 : (Cond.methodLink RX11 (226 : Nat) yX11_isMoment) ∈ TB := tw 826 (by decide +kernel) (by decide +kernel)
theorem wd_829 : (Cond.methodLink RX11 (229 : Nat) yX9_drift) ∈ TB := tw 829 (by decide +kernel) (by decide +kernel)
theorem wd_838 : (Cond.methodLink RX11 (232 : Nat) Lib.Math.min.name) ∈ TB := tw 838 (by decide +kernel) (by decide +kernel)
theorem wd_839 : (Cond.methodLink RX11 (237 : Nat) yX9_downstream) ∈ TB := tw 839 (by decide +kernel) (by decide +kernel)
theorem wd_840 : (Jvm.Cond.instanceMethod yX9_downstream) ∈ TB := tw 840 (by decide +kernel) (by decide +kernel)
theorem wd_841 : (Cond.selects RX9 yX9_downstream yX9_downstream) ∈ TB := tw 841 (by decide +kernel) (by decide +kernel)
theorem wd_842 : (Cond.code yX9_downstream cX9_downstream 7 (Option.some Jvm.ClassFile.FieldType.int)) ∈ TB := tw 842 (by decide +kernel) (by decide +kernel)
theorem wd_847 : (Cond.methodLink RX11 (240 : Nat) yX11_isPlace) ∈ TB := tw 847 (by decide +kernel) (by decide +kernel)
theorem wd_850 : (Cond.methodLink RX11 (243 : Nat) yX9_traceBack) ∈ TB := tw 850 (by decide +kernel) (by decide +kernel)
theorem wd_864 : (Cond.methodLink RX11 (249 : Nat) yX4_change) ∈ TB := tw 864 (by decide +kernel) (by decide +kernel)
theorem wd_865 : (Jvm.Cond.instanceMethod yX4_change) ∈ TB := tw 865 (by decide +kernel) (by decide +kernel)
theorem wd_866 : (Cond.selects RX4 yX4_change yX4_change) ∈ TB := tw 866 (by decide +kernel) (by decide +kernel)
theorem wd_867 : (Cond.code yX4_change cX4_change 4 (Option.none : Option Jvm.ClassFile.FieldType)) ∈ TB := tw 867 (by decide +kernel) (by decide +kernel)
theorem wd_872 : (Cond.methodLink RX11 (253 : Nat) yX9_boatAt) ∈ TB := tw 872 (by decide +kernel) (by decide +kernel)
theorem wd_885 : (Cond.methodLink RX11 (256 : Nat) yX9_tollTill) ∈ TB := tw 885 (by decide +kernel) (by decide +kernel)
theorem wd_886 : (Jvm.Cond.instanceMethod yX9_tollTill) ∈ TB := tw 886 (by decide +kernel) (by decide +kernel)
theorem wd_887 : (Cond.selects RX9 yX9_tollTill yX9_tollTill) ∈ TB := tw 887 (by decide +kernel) (by decide +kernel)
theorem wd_888 : (Cond.code yX9_tollTill cX9_tollTill 6 (Option.some Jvm.ClassFile.FieldType.int)) ∈ TB := tw 888 (by decide +kernel) (by decide +kernel)
theorem wd_898 : (Cond.methodLink RX11 (259 : Nat) yX9_meeting) ∈ TB := tw 898 (by decide +kernel) (by decide +kernel)
theorem wd_899 : (Jvm.Cond.instanceMethod yX9_meeting) ∈ TB := tw 899 (by decide +kernel) (by decide +kernel)
theorem wd_900 : (Cond.selects RX9 yX9_meeting yX9_meeting) ∈ TB := tw 900 (by decide +kernel) (by decide +kernel)
theorem wd_901 : (Cond.code yX9_meeting cX9_meeting 6 (Option.some Jvm.ClassFile.FieldType.int)) ∈ TB := tw 901 (by decide +kernel) (by decide +kernel)
theorem wd_916 : (Cond.methodLink RX11 (272 : Nat) yX1_amountAt) ∈ TB := tw 916 (by decide +kernel) (by decide +kernel)
theorem wd_917 : (Jvm.Cond.instanceMethod yX1_amountAt) ∈ TB := tw 917 (by decide +kernel) (by decide +kernel)
theorem wd_918 : (Cond.selects RX1 yX1_amountAt yX1_amountAt) ∈ TB := tw 918 (by decide +kernel) (by decide +kernel)
theorem wd_919 : (Cond.code yX1_amountAt cX1_amountAt 6 (Option.some Jvm.ClassFile.FieldType.int)) ∈ TB := tw 919 (by decide +kernel) (by decide +kernel)
theorem wd_931 : (Cond.methodLink RX11 (275 : Nat) yX1_firstComing) ∈ TB := tw 931 (by decide +kernel) (by decide +kernel)
theorem wd_932 : (Jvm.Cond.instanceMethod yX1_firstComing) ∈ TB := tw 932 (by decide +kernel) (by decide +kernel)
theorem wd_933 : (Cond.selects RX1 yX1_firstComing yX1_firstComing) ∈ TB := tw 933 (by decide +kernel) (by decide +kernel)
theorem wd_934 : (Cond.code yX1_firstComing cX1_firstComing 8 (Option.some Jvm.ClassFile.FieldType.int)) ∈ TB := tw 934 (by decide +kernel) (by decide +kernel)
theorem wd_941 : (Cond.methodLink RX11 (278 : Nat) yX1_spread) ∈ TB := tw 941 (by decide +kernel) (by decide +kernel)
theorem wd_942 : (Jvm.Cond.instanceMethod yX1_spread) ∈ TB := tw 942 (by decide +kernel) (by decide +kernel)
theorem wd_943 : (Cond.selects RX1 yX1_spread yX1_spread) ∈ TB := tw 943 (by decide +kernel) (by decide +kernel)
theorem wd_944 : (Cond.code yX1_spread cX1_spread 5 (Option.none : Option Jvm.ClassFile.FieldType)) ∈ TB := tw 944 (by decide +kernel) (by decide +kernel)
theorem wd_947 : (Cond.methodLink RX11 (282 : Nat) yX1_fullest) ∈ TB := tw 947 (by decide +kernel) (by decide +kernel)
theorem wd_948 : (Jvm.Cond.instanceMethod yX1_fullest) ∈ TB := tw 948 (by decide +kernel) (by decide +kernel)
theorem wd_949 : (Cond.selects RX1 yX1_fullest yX1_fullest) ∈ TB := tw 949 (by decide +kernel) (by decide +kernel)
theorem wd_950 : (Cond.code yX1_fullest cX1_fullest 4 (Option.some Jvm.ClassFile.FieldType.int)) ∈ TB := tw 950 (by decide +kernel) (by decide +kernel)
theorem wd_951 : (Cond.methodLink RX11 (285 : Nat) yX1_coloured) ∈ TB := tw 951 (by decide +kernel) (by decide +kernel)
theorem wd_952 : (Jvm.Cond.instanceMethod yX1_coloured) ∈ TB := tw 952 (by decide +kernel) (by decide +kernel)
theorem wd_953 : (Cond.selects RX1 yX1_coloured yX1_coloured) ∈ TB := tw 953 (by decide +kernel) (by decide +kernel)
theorem wd_954 : (Cond.code yX1_coloured cX1_coloured 6 (Option.some Jvm.ClassFile.FieldType.int)) ∈ TB := tw 954 (by decide +kernel) (by decide +kernel)
theorem wd_959 : (Cond.methodLink RX11 (288 : Nat) yX8_cheapest) ∈ TB := tw 959 (by decide +kernel) (by decide +kernel)
theorem wd_960 : (Jvm.Cond.instanceMethod yX8_cheapest) ∈ TB := tw 960 (by decide +kernel) (by decide +kernel)
theorem wd_961 : (Cond.selects RX8 yX8_cheapest yX8_cheapest) ∈ TB := tw 961 (by decide +kernel) (by decide +kernel)
theorem wd_962 : (Cond.code yX8_cheapest cX8_cheapest 8 (Option.some Jvm.ClassFile.FieldType.int)) ∈ TB := tw 962 (by decide +kernel) (by decide +kernel)
theorem wd_983 : (Cond.methodLink RX11 (295 : Nat) yX4_clear) ∈ TB := tw 983 (by decide +kernel) (by decide +kernel)
theorem wd_984 : (Jvm.Cond.instanceMethod yX4_clear) ∈ TB := tw 984 (by decide +kernel) (by decide +kernel)
theorem wd_985 : (Cond.selects RX4 yX4_clear yX4_clear) ∈ TB := tw 985 (by decide +kernel) (by decide +kernel)
theorem wd_986 : (Cond.code yX4_clear cX4_clear 2 (Option.some Jvm.ClassFile.FieldType.int)) ∈ TB := tw 986 (by decide +kernel) (by decide +kernel)
theorem dX11_gate_0g : (decode cX11_gate 0 = .ok (.iload_n 1, 1)) ∧ (decode cX11_gate 1 = .ok (.invokestatic 106, 3)) ∧ (decode cX11_gate 4 = .ok (.ifCond .eq 11, 3)) ∧ (decode cX11_gate 7 = .ok (.iload_n 2, 1)) ∧ (decode cX11_gate 8 = .ok (.iload_n 3, 1)) ∧ (decode cX11_gate 9 = .ok (.invokestatic 134, 3)) ∧ (decode cX11_gate 12 = .ok (.ifCond .ne 9, 3)) ∧ (decode cX11_gate 15 = .ok (.aload_n 0, 1)) ∧ (decode cX11_gate 16 = .ok (.iconst (-1), 1)) ∧ (decode cX11_gate 17 = .ok (.invokevirtual 113, 3)) := by decide +kernel
theorem dX11_gate_0 : decode cX11_gate 0 = .ok (.iload_n 1, 1) := dX11_gate_0g.1
theorem dX11_gate_1 : decode cX11_gate 1 = .ok (.invokestatic 106, 3) := dX11_gate_0g.2.1
theorem dX11_gate_4 : decode cX11_gate 4 = .ok (.ifCond .eq 11, 3) := dX11_gate_0g.2.2.1
theorem dX11_gate_7 : decode cX11_gate 7 = .ok (.iload_n 2, 1) := dX11_gate_0g.2.2.2.1
theorem dX11_gate_8 : decode cX11_gate 8 = .ok (.iload_n 3, 1) := dX11_gate_0g.2.2.2.2.1
theorem dX11_gate_9 : decode cX11_gate 9 = .ok (.invokestatic 134, 3) := dX11_gate_0g.2.2.2.2.2.1
theorem dX11_gate_12 : decode cX11_gate 12 = .ok (.ifCond .ne 9, 3) := dX11_gate_0g.2.2.2.2.2.2.1
theorem dX11_gate_15 : decode cX11_gate 15 = .ok (.aload_n 0, 1) := dX11_gate_0g.2.2.2.2.2.2.2.1
theorem dX11_gate_16 : decode cX11_gate 16 = .ok (.iconst (-1), 1) := dX11_gate_0g.2.2.2.2.2.2.2.2.1
theorem dX11_gate_17 : decode cX11_gate 17 = .ok (.invokevirtual 113, 3) := dX11_gate_0g.2.2.2.2.2.2.2.2.2
theorem dX11_gate_20g : (decode cX11_gate 20 = .ok (.ireturn, 1)) ∧ (decode cX11_gate 21 = .ok (.aload_n 0, 1)) ∧ (decode cX11_gate 22 = .ok (.getfield 12, 3)) ∧ (decode cX11_gate 25 = .ok (.getfield 145, 3)) ∧ (decode cX11_gate 28 = .ok (.invokevirtual 149, 3)) ∧ (decode cX11_gate 31 = .ok (.ifCond .eq 10, 3)) ∧ (decode cX11_gate 34 = .ok (.aload_n 0, 1)) ∧ (decode cX11_gate 35 = .ok (.bipush (-5), 2)) ∧ (decode cX11_gate 37 = .ok (.invokevirtual 113, 3)) ∧ (decode cX11_gate 40 = .ok (.ireturn, 1)) := by decide +kernel
theorem dX11_gate_20 : decode cX11_gate 20 = .ok (.ireturn, 1) := dX11_gate_20g.1
theorem dX11_gate_21 : decode cX11_gate 21 = .ok (.aload_n 0, 1) := dX11_gate_20g.2.1
theorem dX11_gate_22 : decode cX11_gate 22 = .ok (.getfield 12, 3) := dX11_gate_20g.2.2.1
theorem dX11_gate_25 : decode cX11_gate 25 = .ok (.getfield 145, 3) := dX11_gate_20g.2.2.2.1
theorem dX11_gate_28 : decode cX11_gate 28 = .ok (.invokevirtual 149, 3) := dX11_gate_20g.2.2.2.2.1
theorem dX11_gate_31 : decode cX11_gate 31 = .ok (.ifCond .eq 10, 3) := dX11_gate_20g.2.2.2.2.2.1
theorem dX11_gate_34 : decode cX11_gate 34 = .ok (.aload_n 0, 1) := dX11_gate_20g.2.2.2.2.2.2.1
theorem dX11_gate_35 : decode cX11_gate 35 = .ok (.bipush (-5), 2) := dX11_gate_20g.2.2.2.2.2.2.2.1
theorem dX11_gate_37 : decode cX11_gate 37 = .ok (.invokevirtual 113, 3) := dX11_gate_20g.2.2.2.2.2.2.2.2.1
theorem dX11_gate_40 : decode cX11_gate 40 = .ok (.ireturn, 1) := dX11_gate_20g.2.2.2.2.2.2.2.2.2
theorem dX11_gate_41g : (decode cX11_gate 41 = .ok (.aload_n 0, 1)) ∧ (decode cX11_gate 42 = .ok (.invokevirtual 124, 3)) ∧ (decode cX11_gate 45 = .ok (.aload_n 0, 1)) ∧ (decode cX11_gate 46 = .ok (.aload_n 0, 1)) ∧ (decode cX11_gate 47 = .ok (.getfield 12, 3)) ∧ (decode cX11_gate 50 = .ok (.getfield 145, 3)) ∧ (decode cX11_gate 53 = .ok (.iload_n 1, 1)) ∧ (decode cX11_gate 54 = .ok (.iload_n 2, 1)) ∧ (decode cX11_gate 55 = .ok (.iload_n 3, 1)) ∧ (decode cX11_gate 56 = .ok (.iconst 0, 1)) := by decide +kernel
theorem dX11_gate_41 : decode cX11_gate 41 = .ok (.aload_n 0, 1) := dX11_gate_41g.1
theorem dX11_gate_42 : decode cX11_gate 42 = .ok (.invokevirtual 124, 3) := dX11_gate_41g.2.1
theorem dX11_gate_45 : decode cX11_gate 45 = .ok (.aload_n 0, 1) := dX11_gate_41g.2.2.1
theorem dX11_gate_46 : decode cX11_gate 46 = .ok (.aload_n 0, 1) := dX11_gate_41g.2.2.2.1
theorem dX11_gate_47 : decode cX11_gate 47 = .ok (.getfield 12, 3) := dX11_gate_41g.2.2.2.2.1
theorem dX11_gate_50 : decode cX11_gate 50 = .ok (.getfield 145, 3) := dX11_gate_41g.2.2.2.2.2.1
theorem dX11_gate_53 : decode cX11_gate 53 = .ok (.iload_n 1, 1) := dX11_gate_41g.2.2.2.2.2.2.1
theorem dX11_gate_54 : decode cX11_gate 54 = .ok (.iload_n 2, 1) := dX11_gate_41g.2.2.2.2.2.2.2.1
theorem dX11_gate_55 : decode cX11_gate 55 = .ok (.iload_n 3, 1) := dX11_gate_41g.2.2.2.2.2.2.2.2.1
theorem dX11_gate_56 : decode cX11_gate 56 = .ok (.iconst 0, 1) := dX11_gate_41g.2.2.2.2.2.2.2.2.2
theorem dX11_gate_57g : (decode cX11_gate 57 = .ok (.invokevirtual 155, 3)) ∧ (decode cX11_gate 60 = .ok (.invokevirtual 127, 3)) ∧ (decode cX11_gate 63 = .ok (.ireturn, 1)) := by decide +kernel
theorem dX11_gate_57 : decode cX11_gate 57 = .ok (.invokevirtual 155, 3) := dX11_gate_57g.1
theorem dX11_gate_60 : decode cX11_gate 60 = .ok (.invokevirtual 127, 3) := dX11_gate_57g.2.1
theorem dX11_gate_63 : decode cX11_gate 63 = .ok (.ireturn, 1) := dX11_gate_57g.2.2
set_option maxHeartbeats 4000000 in
set_option maxRecDepth 100000 in
theorem c_X11_gate (l : Launch) (E : Nat → Nat) (D : va_G) (G : th_G) (h0 n : Nat) (hG0 : G h0 = some (15, n)) (x1 x2 x3 : Int32) : Met l yX11_gate (tb (.code yX11_gate cX11_gate 4 (some .int))) (rm 3) (va_Pc [.ref h0, .int x1, .int x2, .int x3] (th_P E D G)) (QI E D G (fun r => True)) 0 0 (th_A G) := by
  refine Met.ofW (cc := cX11_gate) (maxL := 4) (ret := (some .int)) (by decide) rfl ?_
  intro p e s m args below meth c s₁ B hml hv
  obtain ⟨hav, hI, hN, hK⟩ := hv
  have hx := B.exec
  have hb := B.bytes
  have hr := B.returns
  have hts := atoms_spec (ws := tb (.code yX11_gate cX11_gate 4 (some .int))) B.pre
  have hown : s.vm.findClass RX11 = some m.cls := findClass_of_methodNamed B.named
  have hlocks := B.notSynchronized
  have hS : va_S (th_A G) s.heap s.heap [] := va_S.rf
  have hl := lv_entry ([.ref h0, .int x1, .int x2, .int x3]) (n := 4) (Nat.le_of_ble_eq_true rfl)
  rw [show entryFrame m args 4 = entryFrame m ([.ref h0, .int x1, .int x2, .int x3] : List Value).toArray 4 from by rw [hav], lg_entry_eq]
  generalize (lg_sl ([.ref h0, .int x1, .int x2, .int x3]) ++ List.replicate (4 - (lg_sl ([.ref h0, .int x1, .int x2, .int x3])).length) Slot.unset).toArray = ls at hl ⊢
  have hl : lv_has ls 4 [(0, .ref h0), (1, .int x1), (2, .int x2), (3, .int x3)] := hl
  generalize hR : (headSpec (tb (.code yX11_gate cX11_gate 4 (some .int))) (rm 3)).room = R
  have hR := hR.symm
  generalize hQ : MQ below (QI E D G (fun r => True)) args s 0 0 (th_A G) = QF
  have hQ := hQ.symm
  have J_15 : ∀ (H : Heap) (locs : List Loc) (ls : Array Slot) , lv_has ls 4 [(0, .ref h0), (1, .int x1), (2, .int x2), (3, .int x3)] → th_I (okC E) D G [] H → va_S (th_A G) s.heap H locs → W p l e R s m args below meth c H locs 0 0 QF (F0 m 15 ls []) := by
    intro H locs ls  hl  hI hS
    refine lv_aload_n hx hb dX11_gate_15 rfl (lv_at hl 0 rfl) ?_
    refine lv_iconst (v := (-1)) hx hb dX11_gate_16 (by decide) ?_
    refine th_cVi (As := [.int (-1)]) (rest := []) (n := 1) (d := 0) ⟨hx, hb, hml, hown, hts⟩ (c_X11_refuse l E D G h0 (n) hG0 (-1)) wd_407 wd_409 wp_0 wd_1 wd_410 (by decide +kernel) ⟨by rw [hR]; exact Nat.le_of_ble_eq_true rfl, by rw [hR]; exact Nat.le_of_ble_eq_true rfl⟩ hI hN hK hS (rc_15 hI hG0 List.not_mem_nil) rfl rfl hl.1 rfl (Nat.le_of_ble_eq_true rfl) dX11_gate_17 ⟨Nat.zero_le _, Nat.zero_le _⟩ (fun r1104 H locs hp hI hS => ?_)
    have hp := hp.symm
    subst hp
    have hpost : True := trivial
    rw [hQ]
    exact W.iret (v := (-1)) hx hb hr (fun t ht hW => ⟨⟨(-1), (), rfl, hpost, by rw [ht]; exact hI, hN.warm hW, va_K.moved hW.alike hK⟩, hS.F ht⟩) hS.2.2 dX11_gate_20
  refine lv_iload_n hx hb dX11_gate_0 rfl (lv_at hl 1 rfl) ?_
  refine th_cSs (As := [.int x1]) (rest := []) (n := 1) (d := 0) ⟨hx, hb, hml, hown, hts⟩ (c_X11_isCell l s.heap x1) wd_401 wd_402 wd_1 wd_403 (by decide +kernel) ⟨by rw [hR]; exact Nat.le_of_ble_eq_true rfl, by rw [hR]; exact Nat.le_of_ble_eq_true rfl⟩ hN hS rfl hl.1 rfl (Nat.le_of_ble_eq_true rfl) dX11_gate_1 ⟨Nat.zero_le _, Nat.zero_le _⟩ (fun r1105 locs hp hS => ?_)
  rcases hp with ⟨rfl, hp⟩ | ⟨rfl, hp⟩
  · skip
    try simp only [rg, not_and, Int.not_le] at hp
    have hp1106 := hp
    refine lv_if_eq (tgt := 15) hx hb dX11_gate_4 (by decide) (fun c => absurd c (by decide)) (fun _ => ?_)
    refine lv_iload_n hx hb dX11_gate_7 rfl (lv_at hl 2 rfl) ?_
    refine lv_iload_n hx hb dX11_gate_8 rfl (lv_at hl 3 rfl) ?_
    refine th_cSs (As := [.int x2, .int x3]) (rest := []) (n := 2) (d := 1) ⟨hx, hb, hml, hown, hts⟩ (c_X11_isSpan l s.heap x2 x3) wd_463 wd_464 wd_1 wd_465 (by decide +kernel) ⟨by rw [hR]; exact Nat.le_of_ble_eq_true rfl, by rw [hR]; exact Nat.le_of_ble_eq_true rfl⟩ hN hS rfl hl.1 rfl (Nat.le_of_ble_eq_true rfl) dX11_gate_9 ⟨Nat.zero_le _, Nat.zero_le _⟩ (fun r1107 locs hp hS => ?_)
    rcases hp with ⟨rfl, hp⟩ | ⟨rfl, hp⟩
    · skip
      try simp only [rg, not_and, Int.not_le] at hp
      have hp1108 := hp
      refine lv_if_ne (tgt := 21) hx hb dX11_gate_12 (by decide) (fun _ => ?_) (fun c => absurd c (by decide))
      refine lv_aload_n hx hb dX11_gate_21 rfl (lv_at hl 0 rfl) ?_
      obtain ⟨a1109, a1112, a1114, a1116, a1118, a1120, a1122, a1124, a1126, a1128, a1130, w1132, w1135, w1136, w1137, w1138, hO, hq1110, hq1111, hq1113, hq1115, hq1117, hq1119, hq1121, hq1123, hq1125, hq1127, hq1129, hq1131, ⟨k1133, k1134⟩, k1139⟩ := op_15 hI hG0 List.not_mem_nil
      have hI := th_I.weak (a := h0) hI
      refine th_get hx hb hts inT11 hown hK hO rfl 0 (by decide) (hts _ (tb_c wd_345)) rfl rfl dX11_gate_22 ?_
      have hI := th_I.close hI hG0 hO (ok_15 hq1110 hq1111 hq1113 hq1115 hq1117 hq1119 hq1121 hq1123 hq1125 hq1127 hq1129 hq1131 ⟨by omega, by omega⟩ k1139)
      obtain ⟨a1140, a1142, a1144, a1146, a1148, a1150, a1152, a1154, a1156, a1158, w1160, w1163, w1164, w1165, hO, hq1141, hq1143, hq1145, hq1147, hq1149, hq1151, hq1153, hq1155, hq1157, hq1159, ⟨k1161, k1162⟩, k1166⟩ := op_6 hI hq1110 List.not_mem_nil
      have hI := th_I.weak (a := a1109) hI
      refine th_getN hx hb hts inT6 hown hK hN hO rfl 2 (by decide) wn_61 rfl rfl dX11_gate_25 ?_
      have hI := th_I.close hI hq1110 hO (ok_6 hq1141 hq1143 hq1145 hq1147 hq1149 hq1151 hq1153 hq1155 hq1157 hq1159 ⟨by omega, by omega⟩ k1166)
      obtain ⟨a1168, w1170, hO, hq1169, ⟨k1171, k1172⟩, k1173⟩ := op_4 hI hq1145 List.not_mem_nil
      have hI := th_I.weak (a := a1144) hI
      have k1174 : (nI (8 % 32)).toInt = ((8 % 32 : Nat) : Int) := nI_toInt (by omega)
      have k1175 := k1173.1
      refine th_cVs (As := []) (rest := []) (n := 0) (d := 0) ⟨hx, hb, hml, hown, hts⟩ (c_X4_isFull l E D s.heap a1144 (8 % 32) a1168 w1170 hO (by omega) (by omega) (by omega)) wd_481 wd_482 wd_483 wd_3 wd_484 (by decide +kernel) ⟨by rw [hR]; exact Nat.le_of_ble_eq_true rfl, by rw [hR]; exact Nat.le_of_ble_eq_true rfl⟩ hN hK hS ⟨_, hO⟩ rfl rfl hl.1 rfl (Nat.le_of_ble_eq_true rfl) dX11_gate_28 ⟨Nat.zero_le _, Nat.zero_le _⟩ (fun r1167 locs hp hS => ?_)
      rcases hp with ⟨rfl, hp⟩ | ⟨rfl, hp⟩
      · skip
        try simp only [rg, not_and, Int.not_le] at hp
        have hp1176 := hp
        refine lv_if_eq (tgt := 41) hx hb dX11_gate_31 (by decide) (fun c => absurd c (by decide)) (fun _ => ?_)
        refine lv_aload_n hx hb dX11_gate_34 rfl (lv_at hl 0 rfl) ?_
        refine lv_bipush (v := (-5)) hx hb dX11_gate_35 (by decide) ?_
        have hI := th_I.close hI hq1145 hO (ok_4 hq1169 ⟨by omega, by omega⟩ k1173)
        refine th_cVi (As := [.int (-5)]) (rest := []) (n := 1) (d := 0) ⟨hx, hb, hml, hown, hts⟩ (c_X11_refuse l E D G h0 (n) hG0 (-5)) wd_407 wd_409 wp_0 wd_1 wd_410 (by decide +kernel) ⟨by rw [hR]; exact Nat.le_of_ble_eq_true rfl, by rw [hR]; exact Nat.le_of_ble_eq_true rfl⟩ hI hN hK hS (rc_15 hI hG0 List.not_mem_nil) rfl rfl hl.1 rfl (Nat.le_of_ble_eq_true rfl) dX11_gate_37 ⟨Nat.zero_le _, Nat.zero_le _⟩ (fun r1177 H locs hp hI hS => ?_)
        have hp := hp.symm
        subst hp
        have hpost : True := trivial
        rw [hQ]
        exact W.iret (v := (-5)) hx hb hr (fun t ht hW => ⟨⟨(-5), (), rfl, hpost, by rw [ht]; exact hI, hN.warm hW, va_K.moved hW.alike hK⟩, hS.F ht⟩) hS.2.2 dX11_gate_40
      · skip
        have hp1178 := hp
        refine lv_if_eq (tgt := 41) hx hb dX11_gate_31 (by decide) (fun _ => ?_) (fun c => absurd c (by decide))
        refine lv_aload_n hx hb dX11_gate_41 rfl (lv_at hl 0 rfl) ?_
        have hI := th_I.close hI hq1145 hO (ok_4 hq1169 ⟨by omega, by omega⟩ k1173)
        refine th_cVv (As := []) (rest := []) (n := 0) (d := 2) ⟨hx, hb, hml, hown, hts⟩ (c_X11_turnRiver l E D G h0 (n) hG0 ) wd_423 wd_425 wp_1 wd_1 wd_426 (by decide +kernel) ⟨by rw [hR]; exact Nat.le_of_ble_eq_true rfl, by rw [hR]; exact Nat.le_of_ble_eq_true rfl⟩ hI hN hK hS (rc_15 hI hG0 List.not_mem_nil) rfl rfl hl.1 rfl (Nat.le_of_ble_eq_true rfl) dX11_gate_42 ⟨Nat.zero_le _, Nat.zero_le _⟩ (fun H locs hI hS => ?_)
        refine lv_aload_n hx hb dX11_gate_45 rfl (lv_at hl 0 rfl) ?_
        refine lv_aload_n hx hb dX11_gate_46 rfl (lv_at hl 0 rfl) ?_
        obtain ⟨a1180, a1183, a1185, a1187, a1189, a1191, a1193, a1195, a1197, a1199, a1201, w1203, w1206, w1207, w1208, w1209, hO, hq1181, hq1182, hq1184, hq1186, hq1188, hq1190, hq1192, hq1194, hq1196, hq1198, hq1200, hq1202, ⟨k1204, k1205⟩, k1210⟩ := op_15 hI hG0 List.not_mem_nil
        have hI := th_I.weak (a := h0) hI
        refine th_get hx hb hts inT11 hown hK hO rfl 0 (by decide) (hts _ (tb_c wd_345)) rfl rfl dX11_gate_47 ?_
        have hI := th_I.close hI hG0 hO (ok_15 hq1181 hq1182 hq1184 hq1186 hq1188 hq1190 hq1192 hq1194 hq1196 hq1198 hq1200 hq1202 ⟨by omega, by omega⟩ k1210)
        obtain ⟨a1211, a1213, a1215, a1217, a1219, a1221, a1223, a1225, a1227, a1229, w1231, w1234, w1235, w1236, hO, hq1212, hq1214, hq1216, hq1218, hq1220, hq1222, hq1224, hq1226, hq1228, hq1230, ⟨k1232, k1233⟩, k1237⟩ := op_6 hI hq1181 List.not_mem_nil
        have hI := th_I.weak (a := a1180) hI
        refine th_getN hx hb hts inT6 hown hK hN hO rfl 2 (by decide) wn_61 rfl rfl dX11_gate_50 ?_
        refine lv_iload_n hx hb dX11_gate_53 rfl (lv_at hl 1 rfl) ?_
        refine lv_iload_n hx hb dX11_gate_54 rfl (lv_at hl 2 rfl) ?_
        refine lv_iload_n hx hb dX11_gate_55 rfl (lv_at hl 3 rfl) ?_
        refine lv_iconst (v := 0) hx hb dX11_gate_56 (by decide) ?_
        have hI := th_I.close hI hq1181 hO (ok_6 hq1212 hq1214 hq1216 hq1218 hq1220 hq1222 hq1224 hq1226 hq1228 hq1230 ⟨by omega, by omega⟩ k1237)
        refine th_cVi (As := [.int x1, .int x2, .int x3, .int 0]) (rest := [.ref h0]) (n := 4) (d := 1) ⟨hx, hb, hml, hown, hts⟩ (c_X4_put l E D G a1215 (8) hq1216 x1 x2 x3 0 (by decide)) wd_485 wd_486 wd_487 wd_3 wd_488 (by decide +kernel) ⟨by rw [hR]; exact Nat.le_of_ble_eq_true rfl, by rw [hR]; exact Nat.le_of_ble_eq_true rfl⟩ hI hN hK hS (rc_4 hI hq1216 List.not_mem_nil) rfl rfl hl.1 rfl (Nat.le_of_ble_eq_true rfl) dX11_gate_57 ⟨Nat.zero_le _, Nat.zero_le _⟩ (fun r1238 H locs hp hI hS => ?_)
        refine th_cVi (As := [.int r1238]) (rest := []) (n := 1) (d := 0) ⟨hx, hb, hml, hown, hts⟩ (c_X11_accept l E D G h0 (n) hG0 r1238) wd_447 wd_449 wp_3 wd_1 wd_450 (by decide +kernel) ⟨by rw [hR]; exact Nat.le_of_ble_eq_true rfl, by rw [hR]; exact Nat.le_of_ble_eq_true rfl⟩ hI hN hK hS (rc_15 hI hG0 List.not_mem_nil) rfl rfl hl.1 rfl (Nat.le_of_ble_eq_true rfl) dX11_gate_60 ⟨Nat.zero_le _, Nat.zero_le _⟩ (fun r1239 H locs hp hI hS => ?_)
        have hp := hp.symm
        subst hp
        have hpost : True := trivial
        rw [hQ]
        exact W.iret (v := r1238) hx hb hr (fun t ht hW => ⟨⟨r1238, (), rfl, hpost, by rw [ht]; exact hI, hN.warm hW, va_K.moved hW.alike hK⟩, hS.F ht⟩) hS.2.2 dX11_gate_63
    · skip
      try simp only [rg, not_and, Int.not_le] at hp
      have hp1240 := hp
      refine lv_if_ne (tgt := 21) hx hb dX11_gate_12 (by decide) (fun c => absurd c (by decide)) (fun _ => ?_)
      exact J_15 s.heap locs ls  (lv_sub hl [0, 1, 2, 3] rfl)  hI hS
  · skip
    try simp only [rg, not_and, Int.not_le] at hp
    have hp1241 := hp
    refine lv_if_eq (tgt := 15) hx hb dX11_gate_4 (by decide) (fun _ => ?_) (fun c => absurd c (by decide))
    exact J_15 s.heap locs ls  (lv_sub hl [0, 1, 2, 3] rfl)  hI hS
theorem dX11_open_0g : (decode cX11_open 0 = .ok (.aload_n 0, 1)) ∧ (decode cX11_open 1 = .ok (.getfield 12, 3)) ∧ (decode cX11_open 4 = .ok (.getfield 145, 3)) ∧ (decode cX11_open 7 = .ok (.iload_n 1, 1)) ∧ (decode cX11_open 8 = .ok (.invokevirtual 159, 3)) ∧ (decode cX11_open 11 = .ok (.ifCond .ne 10, 3)) ∧ (decode cX11_open 14 = .ok (.aload_n 0, 1)) ∧ (decode cX11_open 15 = .ok (.bipush (-2), 2)) ∧ (decode cX11_open 17 = .ok (.invokevirtual 113, 3)) ∧ (decode cX11_open 20 = .ok (.ireturn, 1)) := by decide +kernel
theorem dX11_open_0 : decode cX11_open 0 = .ok (.aload_n 0, 1) := dX11_open_0g.1
theorem dX11_open_1 : decode cX11_open 1 = .ok (.getfield 12, 3) := dX11_open_0g.2.1
theorem dX11_open_4 : decode cX11_open 4 = .ok (.getfield 145, 3) := dX11_open_0g.2.2.1
theorem dX11_open_7 : decode cX11_open 7 = .ok (.iload_n 1, 1) := dX11_open_0g.2.2.2.1
theorem dX11_open_8 : decode cX11_open 8 = .ok (.invokevirtual 159, 3) := dX11_open_0g.2.2.2.2.1
theorem dX11_open_11 : decode cX11_open 11 = .ok (.ifCond .ne 10, 3) := dX11_open_0g.2.2.2.2.2.1
theorem dX11_open_14 : decode cX11_open 14 = .ok (.aload_n 0, 1) := dX11_open_0g.2.2.2.2.2.2.1
theorem dX11_open_15 : decode cX11_open 15 = .ok (.bipush (-2), 2) := dX11_open_0g.2.2.2.2.2.2.2.1
theorem dX11_open_17 : decode cX11_open 17 = .ok (.invokevirtual 113, 3) := dX11_open_0g.2.2.2.2.2.2.2.2.1
theorem dX11_open_20 : decode cX11_open 20 = .ok (.ireturn, 1) := dX11_open_0g.2.2.2.2.2.2.2.2.2
theorem dX11_open_21g : (decode cX11_open 21 = .ok (.aload_n 0, 1)) ∧ (decode cX11_open 22 = .ok (.getfield 12, 3)) ∧ (decode cX11_open 25 = .ok (.getfield 145, 3)) ∧ (decode cX11_open 28 = .ok (.iload_n 1, 1)) ∧ (decode cX11_open 29 = .ok (.invokevirtual 162, 3)) ∧ (decode cX11_open 32 = .ok (.aload_n 0, 1)) ∧ (decode cX11_open 33 = .ok (.invokevirtual 124, 3)) ∧ (decode cX11_open 36 = .ok (.aload_n 0, 1)) ∧ (decode cX11_open 37 = .ok (.aload_n 0, 1)) ∧ (decode cX11_open 38 = .ok (.getfield 12, 3)) := by decide +kernel
theorem dX11_open_21 : decode cX11_open 21 = .ok (.aload_n 0, 1) := dX11_open_21g.1
theorem dX11_open_22 : decode cX11_open 22 = .ok (.getfield 12, 3) := dX11_open_21g.2.1
theorem dX11_open_25 : decode cX11_open 25 = .ok (.getfield 145, 3) := dX11_open_21g.2.2.1
theorem dX11_open_28 : decode cX11_open 28 = .ok (.iload_n 1, 1) := dX11_open_21g.2.2.2.1
theorem dX11_open_29 : decode cX11_open 29 = .ok (.invokevirtual 162, 3) := dX11_open_21g.2.2.2.2.1
theorem dX11_open_32 : decode cX11_open 32 = .ok (.aload_n 0, 1) := dX11_open_21g.2.2.2.2.2.1
theorem dX11_open_33 : decode cX11_open 33 = .ok (.invokevirtual 124, 3) := dX11_open_21g.2.2.2.2.2.2.1
theorem dX11_open_36 : decode cX11_open 36 = .ok (.aload_n 0, 1) := dX11_open_21g.2.2.2.2.2.2.2.1
theorem dX11_open_37 : decode cX11_open 37 = .ok (.aload_n 0, 1) := dX11_open_21g.2.2.2.2.2.2.2.2.1
theorem dX11_open_38 : decode cX11_open 38 = .ok (.getfield 12, 3) := dX11_open_21g.2.2.2.2.2.2.2.2.2
theorem dX11_open_41g : (decode cX11_open 41 = .ok (.getfield 145, 3)) ∧ (decode cX11_open 44 = .ok (.invokevirtual 166, 3)) ∧ (decode cX11_open 47 = .ok (.invokevirtual 127, 3)) ∧ (decode cX11_open 50 = .ok (.ireturn, 1)) := by decide +kernel
theorem dX11_open_41 : decode cX11_open 41 = .ok (.getfield 145, 3) := dX11_open_41g.1
theorem dX11_open_44 : decode cX11_open 44 = .ok (.invokevirtual 166, 3) := dX11_open_41g.2.1
theorem dX11_open_47 : decode cX11_open 47 = .ok (.invokevirtual 127, 3) := dX11_open_41g.2.2.1
theorem dX11_open_50 : decode cX11_open 50 = .ok (.ireturn, 1) := dX11_open_41g.2.2.2
set_option maxHeartbeats 4000000 in
set_option maxRecDepth 100000 in
theorem c_X11_open (l : Launch) (E : Nat → Nat) (D : va_G) (G : th_G) (h0 n : Nat) (hG0 : G h0 = some (15, n)) (x1 : Int32) : Met l yX11_open (tb (.code yX11_open cX11_open 2 (some .int))) (rm 3) (va_Pc [.ref h0, .int x1] (th_P E D G)) (QI E D G (fun r => True)) 0 0 (th_A G) := by
  refine Met.ofW (cc := cX11_open) (maxL := 2) (ret := (some .int)) (by decide) rfl ?_
  intro p e s m args below meth c s₁ B hml hv
  obtain ⟨hav, hI, hN, hK⟩ := hv
  have hx := B.exec
  have hb := B.bytes
  have hr := B.returns
  have hts := atoms_spec (ws := tb (.code yX11_open cX11_open 2 (some .int))) B.pre
  have hown : s.vm.findClass RX11 = some m.cls := findClass_of_methodNamed B.named
  have hlocks := B.notSynchronized
  have hS : va_S (th_A G) s.heap s.heap [] := va_S.rf
  have hl := lv_entry ([.ref h0, .int x1]) (n := 2) (Nat.le_of_ble_eq_true rfl)
  rw [show entryFrame m args 2 = entryFrame m ([.ref h0, .int x1] : List Value).toArray 2 from by rw [hav], lg_entry_eq]
  generalize (lg_sl ([.ref h0, .int x1]) ++ List.replicate (2 - (lg_sl ([.ref h0, .int x1])).length) Slot.unset).toArray = ls at hl ⊢
  have hl : lv_has ls 2 [(0, .ref h0), (1, .int x1)] := hl
  generalize hR : (headSpec (tb (.code yX11_open cX11_open 2 (some .int))) (rm 3)).room = R
  have hR := hR.symm
  generalize hQ : MQ below (QI E D G (fun r => True)) args s 0 0 (th_A G) = QF
  have hQ := hQ.symm
  refine lv_aload_n hx hb dX11_open_0 rfl (lv_at hl 0 rfl) ?_
  obtain ⟨a1, a4, a6, a8, a10, a12, a14, a16, a18, a20, a22, w24, w27, w28, w29, w30, hO, hq2, hq3, hq5, hq7, hq9, hq11, hq13, hq15, hq17, hq19, hq21, hq23, ⟨k25, k26⟩, k31⟩ := op_15 hI hG0 List.not_mem_nil
  have hI := th_I.weak (a := h0) hI
  refine th_get hx hb hts inT11 hown hK hO rfl 0 (by decide) (hts _ (tb_c wd_345)) rfl rfl dX11_open_1 ?_
  have hI := th_I.close hI hG0 hO (ok_15 hq2 hq3 hq5 hq7 hq9 hq11 hq13 hq15 hq17 hq19 hq21 hq23 ⟨by omega, by omega⟩ k31)
  obtain ⟨a32, a34, a36, a38, a40, a42, a44, a46, a48, a50, w52, w55, w56, w57, hO, hq33, hq35, hq37, hq39, hq41, hq43, hq45, hq47, hq49, hq51, ⟨k53, k54⟩, k58⟩ := op_6 hI hq2 List.not_mem_nil
  have hI := th_I.weak (a := a1) hI
  refine th_getN hx hb hts inT6 hown hK hN hO rfl 2 (by decide) wn_61 rfl rfl dX11_open_4 ?_
  refine lv_iload_n hx hb dX11_open_7 rfl (lv_at hl 1 rfl) ?_
  have hI := th_I.close hI hq2 hO (ok_6 hq33 hq35 hq37 hq39 hq41 hq43 hq45 hq47 hq49 hq51 ⟨by omega, by omega⟩ k58)
  obtain ⟨a60, w62, hO, hq61, ⟨k63, k64⟩, k65⟩ := op_4 hI hq37 List.not_mem_nil
  have hI := th_I.weak (a := a36) hI
  have k66 : (nI (8 % 32)).toInt = ((8 % 32 : Nat) : Int) := nI_toInt (by omega)
  have k67 := k65.1
  refine th_cVs (As := [.int x1]) (rest := []) (n := 1) (d := 0) ⟨hx, hb, hml, hown, hts⟩ (c_X4_has l E D s.heap a36 (8 % 32) a60 w62 hO (by omega) (by omega) (by omega) x1) wd_494 wd_495 wd_496 wd_3 wd_497 (by decide +kernel) ⟨by rw [hR]; exact Nat.le_of_ble_eq_true rfl, by rw [hR]; exact Nat.le_of_ble_eq_true rfl⟩ hN hK hS ⟨_, hO⟩ rfl rfl hl.1 rfl (Nat.le_of_ble_eq_true rfl) dX11_open_8 ⟨Nat.zero_le _, Nat.zero_le _⟩ (fun r59 locs hp hS => ?_)
  rcases hp with ⟨rfl, hp⟩ | ⟨rfl, hp⟩
  · skip
    try simp only [rg, not_and, Int.not_le] at hp
    have hp68 := hp
    refine lv_if_ne (tgt := 21) hx hb dX11_open_11 (by decide) (fun _ => ?_) (fun c => absurd c (by decide))
    refine lv_aload_n hx hb dX11_open_21 rfl (lv_at hl 0 rfl) ?_
    have hI := th_I.close hI hq37 hO (ok_4 hq61 ⟨by omega, by omega⟩ k65)
    obtain ⟨a69, a72, a74, a76, a78, a80, a82, a84, a86, a88, a90, w92, w95, w96, w97, w98, hO, hq70, hq71, hq73, hq75, hq77, hq79, hq81, hq83, hq85, hq87, hq89, hq91, ⟨k93, k94⟩, k99⟩ := op_15 hI hG0 List.not_mem_nil
    have hI := th_I.weak (a := h0) hI
    refine th_get hx hb hts inT11 hown hK hO rfl 0 (by decide) (hts _ (tb_c wd_345)) rfl rfl dX11_open_22 ?_
    have hI := th_I.close hI hG0 hO (ok_15 hq70 hq71 hq73 hq75 hq77 hq79 hq81 hq83 hq85 hq87 hq89 hq91 ⟨by omega, by omega⟩ k99)
    obtain ⟨a100, a102, a104, a106, a108, a110, a112, a114, a116, a118, w120, w123, w124, w125, hO, hq101, hq103, hq105, hq107, hq109, hq111, hq113, hq115, hq117, hq119, ⟨k121, k122⟩, k126⟩ := op_6 hI hq70 List.not_mem_nil
    have hI := th_I.weak (a := a69) hI
    refine th_getN hx hb hts inT6 hown hK hN hO rfl 2 (by decide) wn_61 rfl rfl dX11_open_25 ?_
    refine lv_iload_n hx hb dX11_open_28 rfl (lv_at hl 1 rfl) ?_
    have hI := th_I.close hI hq70 hO (ok_6 hq101 hq103 hq105 hq107 hq109 hq111 hq113 hq115 hq117 hq119 ⟨by omega, by omega⟩ k126)
    refine th_cVv (As := [.int x1]) (rest := []) (n := 1) (d := 1) ⟨hx, hb, hml, hown, hts⟩ (c_X4_takeOut l E D G a104 (8) hq105 x1 (by decide)) wd_498 wd_499 wd_500 wd_3 wd_501 (by decide +kernel) ⟨by rw [hR]; exact Nat.le_of_ble_eq_true rfl, by rw [hR]; exact Nat.le_of_ble_eq_true rfl⟩ hI hN hK hS (rc_4 hI hq105 List.not_mem_nil) rfl rfl hl.1 rfl (Nat.le_of_ble_eq_true rfl) dX11_open_29 ⟨Nat.zero_le _, Nat.zero_le _⟩ (fun H locs hI hS => ?_)
    refine lv_aload_n hx hb dX11_open_32 rfl (lv_at hl 0 rfl) ?_
    refine th_cVv (As := []) (rest := []) (n := 0) (d := 2) ⟨hx, hb, hml, hown, hts⟩ (c_X11_turnRiver l E D G h0 (n) hG0 ) wd_423 wd_425 wp_1 wd_1 wd_426 (by decide +kernel) ⟨by rw [hR]; exact Nat.le_of_ble_eq_true rfl, by rw [hR]; exact Nat.le_of_ble_eq_true rfl⟩ hI hN hK hS (rc_15 hI hG0 List.not_mem_nil) rfl rfl hl.1 rfl (Nat.le_of_ble_eq_true rfl) dX11_open_33 ⟨Nat.zero_le _, Nat.zero_le _⟩ (fun H locs hI hS => ?_)
    refine lv_aload_n hx hb dX11_open_36 rfl (lv_at hl 0 rfl) ?_
    refine lv_aload_n hx hb dX11_open_37 rfl (lv_at hl 0 rfl) ?_
    obtain ⟨a129, a132, a134, a136, a138, a140, a142, a144, a146, a148, a150, w152, w155, w156, w157, w158, hO, hq130, hq131, hq133, hq135, hq137, hq139, hq141, hq143, hq145, hq147, hq149, hq151, ⟨k153, k154⟩, k159⟩ := op_15 hI hG0 List.not_mem_nil
    have hI := th_I.weak (a := h0) hI
    refine th_get hx hb hts inT11 hown hK hO rfl 0 (by decide) (hts _ (tb_c wd_345)) rfl rfl dX11_open_38 ?_
    have hI := th_I.close hI hG0 hO (ok_15 hq130 hq131 hq133 hq135 hq137 hq139 hq141 hq143 hq145 hq147 hq149 hq151 ⟨by omega, by omega⟩ k159)
    obtain ⟨a160, a162, a164, a166, a168, a170, a172, a174, a176, a178, w180, w183, w184, w185, hO, hq161, hq163, hq165, hq167, hq169, hq171, hq173, hq175, hq177, hq179, ⟨k181, k182⟩, k186⟩ := op_6 hI hq130 List.not_mem_nil
    have hI := th_I.weak (a := a129) hI
    refine th_getN hx hb hts inT6 hown hK hN hO rfl 2 (by decide) wn_61 rfl rfl dX11_open_41 ?_
    have hI := th_I.close hI hq130 hO (ok_6 hq161 hq163 hq165 hq167 hq169 hq171 hq173 hq175 hq177 hq179 ⟨by omega, by omega⟩ k186)
    obtain ⟨a188, w190, hO, hq189, ⟨k191, k192⟩, k193⟩ := op_4 hI hq165 List.not_mem_nil
    have hI := th_I.weak (a := a164) hI
    have k194 : (nI (8 % 32)).toInt = ((8 % 32 : Nat) : Int) := nI_toInt (by omega)
    have k195 := k193.1
    refine th_cVs (As := []) (rest := [.ref h0]) (n := 0) (d := 0) ⟨hx, hb, hml, hown, hts⟩ (c_X4_size l E D H a164 (8 % 32) a188 w190 hO (by omega) (by omega) (by omega)) wd_506 wd_507 wd_508 wd_3 wd_509 (by decide +kernel) ⟨by rw [hR]; exact Nat.le_of_ble_eq_true rfl, by rw [hR]; exact Nat.le_of_ble_eq_true rfl⟩ hN hK hS ⟨_, hO⟩ rfl rfl hl.1 rfl (Nat.le_of_ble_eq_true rfl) dX11_open_44 ⟨Nat.zero_le _, Nat.zero_le _⟩ (fun r187 locs hp hS => ?_)
    have hp := hp.symm
    subst hp
    have hI := th_I.close hI hq165 hO (ok_4 hq189 ⟨by omega, by omega⟩ k193)
    refine th_cVi (As := [.int w190]) (rest := []) (n := 1) (d := 0) ⟨hx, hb, hml, hown, hts⟩ (c_X11_accept l E D G h0 (n) hG0 w190) wd_447 wd_449 wp_3 wd_1 wd_450 (by decide +kernel) ⟨by rw [hR]; exact Nat.le_of_ble_eq_true rfl, by rw [hR]; exact Nat.le_of_ble_eq_true rfl⟩ hI hN hK hS (rc_15 hI hG0 List.not_mem_nil) rfl rfl hl.1 rfl (Nat.le_of_ble_eq_true rfl) dX11_open_47 ⟨Nat.zero_le _, Nat.zero_le _⟩ (fun r196 H locs hp hI hS => ?_)
    have hp := hp.symm
    subst hp
    have hpost : True := trivial
    rw [hQ]
    exact W.iret (v := w190) hx hb hr (fun t ht hW => ⟨⟨w190, (), rfl, hpost, by rw [ht]; exact hI, hN.warm hW, va_K.moved hW.alike hK⟩, hS.F ht⟩) hS.2.2 dX11_open_50
  · skip
    have hp197 := hp
    refine lv_if_ne (tgt := 21) hx hb dX11_open_11 (by decide) (fun c => absurd c (by decide)) (fun _ => ?_)
    refine lv_aload_n hx hb dX11_open_14 rfl (lv_at hl 0 rfl) ?_
    refine lv_bipush (v := (-2)) hx hb dX11_open_15 (by decide) ?_
    have hI := th_I.close hI hq37 hO (ok_4 hq61 ⟨by omega, by omega⟩ k65)
    refine th_cVi (As := [.int (-2)]) (rest := []) (n := 1) (d := 0) ⟨hx, hb, hml, hown, hts⟩ (c_X11_refuse l E D G h0 (n) hG0 (-2)) wd_407 wd_409 wp_0 wd_1 wd_410 (by decide +kernel) ⟨by rw [hR]; exact Nat.le_of_ble_eq_true rfl, by rw [hR]; exact Nat.le_of_ble_eq_true rfl⟩ hI hN hK hS (rc_15 hI hG0 List.not_mem_nil) rfl rfl hl.1 rfl (Nat.le_of_ble_eq_true rfl) dX11_open_17 ⟨Nat.zero_le _, Nat.zero_le _⟩ (fun r198 H locs hp hI hS => ?_)
    have hp := hp.symm
    subst hp
    have hpost : True := trivial
    rw [hQ]
    exact W.iret (v := (-2)) hx hb hr (fun t ht hW => ⟨⟨(-2), (), rfl, hpost, by rw [ht]; exact hI, hN.warm hW, va_K.moved hW.alike hK⟩, hS.F ht⟩) hS.2.2 dX11_open_20
theorem dX11_mill_0g : (decode cX11_mill 0 = .ok (.iload_n 1, 1)) ∧ (decode cX11_mill 1 = .ok (.invokestatic 106, 3)) ∧ (decode cX11_mill 4 = .ok (.ifCond .ne 9, 3)) ∧ (decode cX11_mill 7 = .ok (.aload_n 0, 1)) ∧ (decode cX11_mill 8 = .ok (.iconst (-1), 1)) ∧ (decode cX11_mill 9 = .ok (.invokevirtual 113, 3)) ∧ (decode cX11_mill 12 = .ok (.ireturn, 1)) ∧ (decode cX11_mill 13 = .ok (.aload_n 0, 1)) ∧ (decode cX11_mill 14 = .ok (.getfield 12, 3)) ∧ (decode cX11_mill 17 = .ok (.getfield 170, 3)) := by decide +kernel
theorem dX11_mill_0 : decode cX11_mill 0 = .ok (.iload_n 1, 1) := dX11_mill_0g.1
theorem dX11_mill_1 : decode cX11_mill 1 = .ok (.invokestatic 106, 3) := dX11_mill_0g.2.1
theorem dX11_mill_4 : decode cX11_mill 4 = .ok (.ifCond .ne 9, 3) := dX11_mill_0g.2.2.1
theorem dX11_mill_7 : decode cX11_mill 7 = .ok (.aload_n 0, 1) := dX11_mill_0g.2.2.2.1
theorem dX11_mill_8 : decode cX11_mill 8 = .ok (.iconst (-1), 1) := dX11_mill_0g.2.2.2.2.1
theorem dX11_mill_9 : decode cX11_mill 9 = .ok (.invokevirtual 113, 3) := dX11_mill_0g.2.2.2.2.2.1
theorem dX11_mill_12 : decode cX11_mill 12 = .ok (.ireturn, 1) := dX11_mill_0g.2.2.2.2.2.2.1
theorem dX11_mill_13 : decode cX11_mill 13 = .ok (.aload_n 0, 1) := dX11_mill_0g.2.2.2.2.2.2.2.1
theorem dX11_mill_14 : decode cX11_mill 14 = .ok (.getfield 12, 3) := dX11_mill_0g.2.2.2.2.2.2.2.2.1
theorem dX11_mill_17 : decode cX11_mill 17 = .ok (.getfield 170, 3) := dX11_mill_0g.2.2.2.2.2.2.2.2.2
theorem dX11_mill_20g : (decode cX11_mill 20 = .ok (.invokevirtual 149, 3)) ∧ (decode cX11_mill 23 = .ok (.ifCond .eq 10, 3)) ∧ (decode cX11_mill 26 = .ok (.aload_n 0, 1)) ∧ (decode cX11_mill 27 = .ok (.bipush (-5), 2)) ∧ (decode cX11_mill 29 = .ok (.invokevirtual 113, 3)) ∧ (decode cX11_mill 32 = .ok (.ireturn, 1)) ∧ (decode cX11_mill 33 = .ok (.aload_n 0, 1)) ∧ (decode cX11_mill 34 = .ok (.invokevirtual 124, 3)) ∧ (decode cX11_mill 37 = .ok (.aload_n 0, 1)) ∧ (decode cX11_mill 38 = .ok (.aload_n 0, 1)) := by decide +kernel
theorem dX11_mill_20 : decode cX11_mill 20 = .ok (.invokevirtual 149, 3) := dX11_mill_20g.1
theorem dX11_mill_23 : decode cX11_mill 23 = .ok (.ifCond .eq 10, 3) := dX11_mill_20g.2.1
theorem dX11_mill_26 : decode cX11_mill 26 = .ok (.aload_n 0, 1) := dX11_mill_20g.2.2.1
theorem dX11_mill_27 : decode cX11_mill 27 = .ok (.bipush (-5), 2) := dX11_mill_20g.2.2.2.1
theorem dX11_mill_29 : decode cX11_mill 29 = .ok (.invokevirtual 113, 3) := dX11_mill_20g.2.2.2.2.1
theorem dX11_mill_32 : decode cX11_mill 32 = .ok (.ireturn, 1) := dX11_mill_20g.2.2.2.2.2.1
theorem dX11_mill_33 : decode cX11_mill 33 = .ok (.aload_n 0, 1) := dX11_mill_20g.2.2.2.2.2.2.1
theorem dX11_mill_34 : decode cX11_mill 34 = .ok (.invokevirtual 124, 3) := dX11_mill_20g.2.2.2.2.2.2.2.1
theorem dX11_mill_37 : decode cX11_mill 37 = .ok (.aload_n 0, 1) := dX11_mill_20g.2.2.2.2.2.2.2.2.1
theorem dX11_mill_38 : decode cX11_mill 38 = .ok (.aload_n 0, 1) := dX11_mill_20g.2.2.2.2.2.2.2.2.2
theorem dX11_mill_39g : (decode cX11_mill 39 = .ok (.getfield 12, 3)) ∧ (decode cX11_mill 42 = .ok (.getfield 170, 3)) ∧ (decode cX11_mill 45 = .ok (.iload_n 1, 1)) ∧ (decode cX11_mill 46 = .ok (.iconst 0, 1)) ∧ (decode cX11_mill 47 = .ok (.iconst 0, 1)) ∧ (decode cX11_mill 48 = .ok (.iconst 0, 1)) ∧ (decode cX11_mill 49 = .ok (.invokevirtual 155, 3)) ∧ (decode cX11_mill 52 = .ok (.invokevirtual 127, 3)) ∧ (decode cX11_mill 55 = .ok (.ireturn, 1)) := by decide +kernel
theorem dX11_mill_39 : decode cX11_mill 39 = .ok (.getfield 12, 3) := dX11_mill_39g.1
theorem dX11_mill_42 : decode cX11_mill 42 = .ok (.getfield 170, 3) := dX11_mill_39g.2.1
theorem dX11_mill_45 : decode cX11_mill 45 = .ok (.iload_n 1, 1) := dX11_mill_39g.2.2.1
theorem dX11_mill_46 : decode cX11_mill 46 = .ok (.iconst 0, 1) := dX11_mill_39g.2.2.2.1
theorem dX11_mill_47 : decode cX11_mill 47 = .ok (.iconst 0, 1) := dX11_mill_39g.2.2.2.2.1
theorem dX11_mill_48 : decode cX11_mill 48 = .ok (.iconst 0, 1) := dX11_mill_39g.2.2.2.2.2.1
theorem dX11_mill_49 : decode cX11_mill 49 = .ok (.invokevirtual 155, 3) := dX11_mill_39g.2.2.2.2.2.2.1
theorem dX11_mill_52 : decode cX11_mill 52 = .ok (.invokevirtual 127, 3) := dX11_mill_39g.2.2.2.2.2.2.2.1
theorem dX11_mill_55 : decode cX11_mill 55 = .ok (.ireturn, 1) := dX11_mill_39g.2.2.2.2.2.2.2.2
set_option maxHeartbeats 4000000 in
set_option maxRecDepth 100000 in
theorem c_X11_mill (l : Launch) (E : Nat → Nat) (D : va_G) (G : th_G) (h0 n : Nat) (hG0 : G h0 = some (15, n)) (x1 : Int32) : Met l yX11_mill (tb (.code yX11_mill cX11_mill 2 (some .int))) (rm 3) (va_Pc [.ref h0, .int x1] (th_P E D G)) (QI E D G (fun r => True)) 0 0 (th_A G) := by
  refine Met.ofW (cc := cX11_mill) (maxL := 2) (ret := (some .int)) (by decide) rfl ?_
  intro p e s m args below meth c s₁ B hml hv
  obtain ⟨hav, hI, hN, hK⟩ := hv
  have hx := B.exec
  have hb := B.bytes
  have hr := B.returns
  have hts := atoms_spec (ws := tb (.code yX11_mill cX11_mill 2 (some .int))) B.pre
  have hown : s.vm.findClass RX11 = some m.cls := findClass_of_methodNamed B.named
  have hlocks := B.notSynchronized
  have hS : va_S (th_A G) s.heap s.heap [] := va_S.rf
  have hl := lv_entry ([.ref h0, .int x1]) (n := 2) (Nat.le_of_ble_eq_true rfl)
  rw [show entryFrame m args 2 = entryFrame m ([.ref h0, .int x1] : List Value).toArray 2 from by rw [hav], lg_entry_eq]
  generalize (lg_sl ([.ref h0, .int x1]) ++ List.replicate (2 - (lg_sl ([.ref h0, .int x1])).length) Slot.unset).toArray = ls at hl ⊢
  have hl : lv_has ls 2 [(0, .ref h0), (1, .int x1)] := hl
  generalize hR : (headSpec (tb (.code yX11_mill cX11_mill 2 (some .int))) (rm 3)).room = R
  have hR := hR.symm
  generalize hQ : MQ below (QI E D G (fun r => True)) args s 0 0 (th_A G) = QF
  have hQ := hQ.symm
  refine lv_iload_n hx hb dX11_mill_0 rfl (lv_at hl 1 rfl) ?_
  refine th_cSs (As := [.int x1]) (rest := []) (n := 1) (d := 0) ⟨hx, hb, hml, hown, hts⟩ (c_X11_isCell l s.heap x1) wd_401 wd_402 wd_1 wd_403 (by decide +kernel) ⟨by rw [hR]; exact Nat.le_of_ble_eq_true rfl, by rw [hR]; exact Nat.le_of_ble_eq_true rfl⟩ hN hS rfl hl.1 rfl (Nat.le_of_ble_eq_true rfl) dX11_mill_1 ⟨Nat.zero_le _, Nat.zero_le _⟩ (fun r1 locs hp hS => ?_)
  rcases hp with ⟨rfl, hp⟩ | ⟨rfl, hp⟩
  · skip
    try simp only [rg, not_and, Int.not_le] at hp
    have hp2 := hp
    refine lv_if_ne (tgt := 13) hx hb dX11_mill_4 (by decide) (fun _ => ?_) (fun c => absurd c (by decide))
    refine lv_aload_n hx hb dX11_mill_13 rfl (lv_at hl 0 rfl) ?_
    obtain ⟨a3, a6, a8, a10, a12, a14, a16, a18, a20, a22, a24, w26, w29, w30, w31, w32, hO, hq4, hq5, hq7, hq9, hq11, hq13, hq15, hq17, hq19, hq21, hq23, hq25, ⟨k27, k28⟩, k33⟩ := op_15 hI hG0 List.not_mem_nil
    have hI := th_I.weak (a := h0) hI
    refine th_get hx hb hts inT11 hown hK hO rfl 0 (by decide) (hts _ (tb_c wd_345)) rfl rfl dX11_mill_14 ?_
    have hI := th_I.close hI hG0 hO (ok_15 hq4 hq5 hq7 hq9 hq11 hq13 hq15 hq17 hq19 hq21 hq23 hq25 ⟨by omega, by omega⟩ k33)
    obtain ⟨a34, a36, a38, a40, a42, a44, a46, a48, a50, a52, w54, w57, w58, w59, hO, hq35, hq37, hq39, hq41, hq43, hq45, hq47, hq49, hq51, hq53, ⟨k55, k56⟩, k60⟩ := op_6 hI hq4 List.not_mem_nil
    have hI := th_I.weak (a := a3) hI
    refine th_getN hx hb hts inT6 hown hK hN hO rfl 3 (by decide) wn_64 rfl rfl dX11_mill_17 ?_
    have hI := th_I.close hI hq4 hO (ok_6 hq35 hq37 hq39 hq41 hq43 hq45 hq47 hq49 hq51 hq53 ⟨by omega, by omega⟩ k60)
    obtain ⟨a62, w64, hO, hq63, ⟨k65, k66⟩, k67⟩ := op_4 hI hq41 List.not_mem_nil
    have hI := th_I.weak (a := a40) hI
    have k68 : (nI (6 % 32)).toInt = ((6 % 32 : Nat) : Int) := nI_toInt (by omega)
    have k69 := k67.1
    refine th_cVs (As := []) (rest := []) (n := 0) (d := 0) ⟨hx, hb, hml, hown, hts⟩ (c_X4_isFull l E D s.heap a40 (6 % 32) a62 w64 hO (by omega) (by omega) (by omega)) wd_481 wd_482 wd_483 wd_3 wd_484 (by decide +kernel) ⟨by rw [hR]; exact Nat.le_of_ble_eq_true rfl, by rw [hR]; exact Nat.le_of_ble_eq_true rfl⟩ hN hK hS ⟨_, hO⟩ rfl rfl hl.1 rfl (Nat.le_of_ble_eq_true rfl) dX11_mill_20 ⟨Nat.zero_le _, Nat.zero_le _⟩ (fun r61 locs hp hS => ?_)
    rcases hp with ⟨rfl, hp⟩ | ⟨rfl, hp⟩
    · skip
      try simp only [rg, not_and, Int.not_le] at hp
      have hp70 := hp
      refine lv_if_eq (tgt := 33) hx hb dX11_mill_23 (by decide) (fun c => absurd c (by decide)) (fun _ => ?_)
      refine lv_aload_n hx hb dX11_mill_26 rfl (lv_at hl 0 rfl) ?_
      refine lv_bipush (v := (-5)) hx hb dX11_mill_27 (by decide) ?_
      have hI := th_I.close hI hq41 hO (ok_4 hq63 ⟨by omega, by omega⟩ k67)
      refine th_cVi (As := [.int (-5)]) (rest := []) (n := 1) (d := 0) ⟨hx, hb, hml, hown, hts⟩ (c_X11_refuse l E D G h0 (n) hG0 (-5)) wd_407 wd_409 wp_0 wd_1 wd_410 (by decide +kernel) ⟨by rw [hR]; exact Nat.le_of_ble_eq_true rfl, by rw [hR]; exact Nat.le_of_ble_eq_true rfl⟩ hI hN hK hS (rc_15 hI hG0 List.not_mem_nil) rfl rfl hl.1 rfl (Nat.le_of_ble_eq_true rfl) dX11_mill_29 ⟨Nat.zero_le _, Nat.zero_le _⟩ (fun r71 H locs hp hI hS => ?_)
      have hp := hp.symm
      subst hp
      have hpost : True := trivial
      rw [hQ]
      exact W.iret (v := (-5)) hx hb hr (fun t ht hW => ⟨⟨(-5), (), rfl, hpost, by rw [ht]; exact hI, hN.warm hW, va_K.moved hW.alike hK⟩, hS.F ht⟩) hS.2.2 dX11_mill_32
    · skip
      have hp72 := hp
      refine lv_if_eq (tgt := 33) hx hb dX11_mill_23 (by decide) (fun _ => ?_) (fun c => absurd c (by decide))
      refine lv_aload_n hx hb dX11_mill_33 rfl (lv_at hl 0 rfl) ?_
      have hI := th_I.close hI hq41 hO (ok_4 hq63 ⟨by omega, by omega⟩ k67)
      refine th_cVv (As := []) (rest := []) (n := 0) (d := 2) ⟨hx, hb, hml, hown, hts⟩ (c_X11_turnRiver l E D G h0 (n) hG0 ) wd_423 wd_425 wp_1 wd_1 wd_426 (by decide +kernel) ⟨by rw [hR]; exact Nat.le_of_ble_eq_true rfl, by rw [hR]; exact Nat.le_of_ble_eq_true rfl⟩ hI hN hK hS (rc_15 hI hG0 List.not_mem_nil) rfl rfl hl.1 rfl (Nat.le_of_ble_eq_true rfl) dX11_mill_34 ⟨Nat.zero_le _, Nat.zero_le _⟩ (fun H locs hI hS => ?_)
      refine lv_aload_n hx hb dX11_mill_37 rfl (lv_at hl 0 rfl) ?_
      refine lv_aload_n hx hb dX11_mill_38 rfl (lv_at hl 0 rfl) ?_
      obtain ⟨a74, a77, a79, a81, a83, a85, a87, a89, a91, a93, a95, w97, w100, w101, w102, w103, hO, hq75, hq76, hq78, hq80, hq82, hq84, hq86, hq88, hq90, hq92, hq94, hq96, ⟨k98, k99⟩, k104⟩ := op_15 hI hG0 List.not_mem_nil
      have hI := th_I.weak (a := h0) hI
      refine th_get hx hb hts inT11 hown hK hO rfl 0 (by decide) (hts _ (tb_c wd_345)) rfl rfl dX11_mill_39 ?_
      have hI := th_I.close hI hG0 hO (ok_15 hq75 hq76 hq78 hq80 hq82 hq84 hq86 hq88 hq90 hq92 hq94 hq96 ⟨by omega, by omega⟩ k104)
      obtain ⟨a105, a107, a109, a111, a113, a115, a117, a119, a121, a123, w125, w128, w129, w130, hO, hq106, hq108, hq110, hq112, hq114, hq116, hq118, hq120, hq122, hq124, ⟨k126, k127⟩, k131⟩ := op_6 hI hq75 List.not_mem_nil
      have hI := th_I.weak (a := a74) hI
      refine th_getN hx hb hts inT6 hown hK hN hO rfl 3 (by decide) wn_64 rfl rfl dX11_mill_42 ?_
      refine lv_iload_n hx hb dX11_mill_45 rfl (lv_at hl 1 rfl) ?_
      refine lv_iconst (v := 0) hx hb dX11_mill_46 (by decide) ?_
      refine lv_iconst (v := 0) hx hb dX11_mill_47 (by decide) ?_
      refine lv_iconst (v := 0) hx hb dX11_mill_48 (by decide) ?_
      have hI := th_I.close hI hq75 hO (ok_6 hq106 hq108 hq110 hq112 hq114 hq116 hq118 hq120 hq122 hq124 ⟨by omega, by omega⟩ k131)
      refine th_cVi (As := [.int x1, .int 0, .int 0, .int 0]) (rest := [.ref h0]) (n := 4) (d := 1) ⟨hx, hb, hml, hown, hts⟩ (c_X4_put l E D G a111 (6) hq112 x1 0 0 0 (by decide)) wd_485 wd_486 wd_487 wd_3 wd_488 (by decide +kernel) ⟨by rw [hR]; exact Nat.le_of_ble_eq_true rfl, by rw [hR]; exact Nat.le_of_ble_eq_true rfl⟩ hI hN hK hS (rc_4 hI hq112 List.not_mem_nil) rfl rfl hl.1 rfl (Nat.le_of_ble_eq_true rfl) dX11_mill_49 ⟨Nat.zero_le _, Nat.zero_le _⟩ (fun r132 H locs hp hI hS => ?_)
      refine th_cVi (As := [.int r132]) (rest := []) (n := 1) (d := 0) ⟨hx, hb, hml, hown, hts⟩ (c_X11_accept l E D G h0 (n) hG0 r132) wd_447 wd_449 wp_3 wd_1 wd_450 (by decide +kernel) ⟨by rw [hR]; exact Nat.le_of_ble_eq_true rfl, by rw [hR]; exact Nat.le_of_ble_eq_true rfl⟩ hI hN hK hS (rc_15 hI hG0 List.not_mem_nil) rfl rfl hl.1 rfl (Nat.le_of_ble_eq_true rfl) dX11_mill_52 ⟨Nat.zero_le _, Nat.zero_le _⟩ (fun r133 H locs hp hI hS => ?_)
      have hp := hp.symm
      subst hp
      have hpost : True := trivial
      rw [hQ]
      exact W.iret (v := r132) hx hb hr (fun t ht hW => ⟨⟨r132, (), rfl, hpost, by rw [ht]; exact hI, hN.warm hW, va_K.moved hW.alike hK⟩, hS.F ht⟩) hS.2.2 dX11_mill_55
  · skip
    try simp only [rg, not_and, Int.not_le] at hp
    have hp134 := hp
    refine lv_if_ne (tgt := 13) hx hb dX11_mill_4 (by decide) (fun c => absurd c (by decide)) (fun _ => ?_)
    refine lv_aload_n hx hb dX11_mill_7 rfl (lv_at hl 0 rfl) ?_
    refine lv_iconst (v := (-1)) hx hb dX11_mill_8 (by decide) ?_
    refine th_cVi (As := [.int (-1)]) (rest := []) (n := 1) (d := 0) ⟨hx, hb, hml, hown, hts⟩ (c_X11_refuse l E D G h0 (n) hG0 (-1)) wd_407 wd_409 wp_0 wd_1 wd_410 (by decide +kernel) ⟨by rw [hR]; exact Nat.le_of_ble_eq_true rfl, by rw [hR]; exact Nat.le_of_ble_eq_true rfl⟩ hI hN hK hS (rc_15 hI hG0 List.not_mem_nil) rfl rfl hl.1 rfl (Nat.le_of_ble_eq_true rfl) dX11_mill_9 ⟨Nat.zero_le _, Nat.zero_le _⟩ (fun r135 H locs hp hI hS => ?_)
    have hp := hp.symm
    subst hp
    have hpost : True := trivial
    rw [hQ]
    exact W.iret (v := (-1)) hx hb hr (fun t ht hW => ⟨⟨(-1), (), rfl, hpost, by rw [ht]; exact hI, hN.warm hW, va_K.moved hW.alike hK⟩, hS.F ht⟩) hS.2.2 dX11_mill_12
theorem dX11_grinds_0g : (decode cX11_grinds 0 = .ok (.aload_n 0, 1)) ∧ (decode cX11_grinds 1 = .ok (.getfield 12, 3)) ∧ (decode cX11_grinds 4 = .ok (.getfield 170, 3)) ∧ (decode cX11_grinds 7 = .ok (.iload_n 1, 1)) ∧ (decode cX11_grinds 8 = .ok (.invokevirtual 159, 3)) ∧ (decode cX11_grinds 11 = .ok (.ifCond .eq 11, 3)) ∧ (decode cX11_grinds 14 = .ok (.iload_n 2, 1)) ∧ (decode cX11_grinds 15 = .ok (.iload_n 3, 1)) ∧ (decode cX11_grinds 16 = .ok (.invokestatic 134, 3)) ∧ (decode cX11_grinds 19 = .ok (.ifCond .ne 5, 3)) := by decide +kernel
theorem dX11_grinds_0 : decode cX11_grinds 0 = .ok (.aload_n 0, 1) := dX11_grinds_0g.1
theorem dX11_grinds_1 : decode cX11_grinds 1 = .ok (.getfield 12, 3) := dX11_grinds_0g.2.1
theorem dX11_grinds_4 : decode cX11_grinds 4 = .ok (.getfield 170, 3) := dX11_grinds_0g.2.2.1
theorem dX11_grinds_7 : decode cX11_grinds 7 = .ok (.iload_n 1, 1) := dX11_grinds_0g.2.2.2.1
theorem dX11_grinds_8 : decode cX11_grinds 8 = .ok (.invokevirtual 159, 3) := dX11_grinds_0g.2.2.2.2.1
theorem dX11_grinds_11 : decode cX11_grinds 11 = .ok (.ifCond .eq 11, 3) := dX11_grinds_0g.2.2.2.2.2.1
theorem dX11_grinds_14 : decode cX11_grinds 14 = .ok (.iload_n 2, 1) := dX11_grinds_0g.2.2.2.2.2.2.1
theorem dX11_grinds_15 : decode cX11_grinds 15 = .ok (.iload_n 3, 1) := dX11_grinds_0g.2.2.2.2.2.2.2.1
theorem dX11_grinds_16 : decode cX11_grinds 16 = .ok (.invokestatic 134, 3) := dX11_grinds_0g.2.2.2.2.2.2.2.2.1
theorem dX11_grinds_19 : decode cX11_grinds 19 = .ok (.ifCond .ne 5, 3) := dX11_grinds_0g.2.2.2.2.2.2.2.2.2
theorem dX11_grinds_22g : (decode cX11_grinds 22 = .ok (.iconst (-1), 1)) ∧ (decode cX11_grinds 23 = .ok (.ireturn, 1)) ∧ (decode cX11_grinds 24 = .ok (.aload_n 0, 1)) ∧ (decode cX11_grinds 25 = .ok (.getfield 42, 3)) ∧ (decode cX11_grinds 28 = .ok (.aload_n 0, 1)) ∧ (decode cX11_grinds 29 = .ok (.getfield 12, 3)) ∧ (decode cX11_grinds 32 = .ok (.getfield 170, 3)) ∧ (decode cX11_grinds 35 = .ok (.iload_n 1, 1)) ∧ (decode cX11_grinds 36 = .ok (.iconst 0, 1)) ∧ (decode cX11_grinds 37 = .ok (.invokevirtual 173, 3)) := by decide +kernel
theorem dX11_grinds_22 : decode cX11_grinds 22 = .ok (.iconst (-1), 1) := dX11_grinds_22g.1
theorem dX11_grinds_23 : decode cX11_grinds 23 = .ok (.ireturn, 1) := dX11_grinds_22g.2.1
theorem dX11_grinds_24 : decode cX11_grinds 24 = .ok (.aload_n 0, 1) := dX11_grinds_22g.2.2.1
theorem dX11_grinds_25 : decode cX11_grinds 25 = .ok (.getfield 42, 3) := dX11_grinds_22g.2.2.2.1
theorem dX11_grinds_28 : decode cX11_grinds 28 = .ok (.aload_n 0, 1) := dX11_grinds_22g.2.2.2.2.1
theorem dX11_grinds_29 : decode cX11_grinds 29 = .ok (.getfield 12, 3) := dX11_grinds_22g.2.2.2.2.2.1
theorem dX11_grinds_32 : decode cX11_grinds 32 = .ok (.getfield 170, 3) := dX11_grinds_22g.2.2.2.2.2.2.1
theorem dX11_grinds_35 : decode cX11_grinds 35 = .ok (.iload_n 1, 1) := dX11_grinds_22g.2.2.2.2.2.2.2.1
theorem dX11_grinds_36 : decode cX11_grinds 36 = .ok (.iconst 0, 1) := dX11_grinds_22g.2.2.2.2.2.2.2.2.1
theorem dX11_grinds_37 : decode cX11_grinds 37 = .ok (.invokevirtual 173, 3) := dX11_grinds_22g.2.2.2.2.2.2.2.2.2
theorem dX11_grinds_40g : (decode cX11_grinds 40 = .ok (.iload_n 2, 1)) ∧ (decode cX11_grinds 41 = .ok (.iload_n 3, 1)) ∧ (decode cX11_grinds 42 = .ok (.invokevirtual 176, 3)) ∧ (decode cX11_grinds 45 = .ok (.ireturn, 1)) := by decide +kernel
theorem dX11_grinds_40 : decode cX11_grinds 40 = .ok (.iload_n 2, 1) := dX11_grinds_40g.1
theorem dX11_grinds_41 : decode cX11_grinds 41 = .ok (.iload_n 3, 1) := dX11_grinds_40g.2.1
theorem dX11_grinds_42 : decode cX11_grinds 42 = .ok (.invokevirtual 176, 3) := dX11_grinds_40g.2.2.1
theorem dX11_grinds_45 : decode cX11_grinds 45 = .ok (.ireturn, 1) := dX11_grinds_40g.2.2.2
set_option maxHeartbeats 4000000 in
set_option maxRecDepth 100000 in
theorem c_X11_grinds (l : Launch) (E : Nat → Nat) (D : va_G) (G : th_G) (h0 n : Nat) (hG0 : G h0 = some (15, n)) (x1 x2 x3 : Int32) : Met l yX11_grinds (tb (.code yX11_grinds cX11_grinds 4 (some .int))) (rm 7) (va_Pc [.ref h0, .int x1, .int x2, .int x3] (th_P E D G)) (QI E D G (fun r => True)) 0 0 (th_A G) := by
  refine Met.ofW (cc := cX11_grinds) (maxL := 4) (ret := (some .int)) (by decide) rfl ?_
  intro p e s m args below meth c s₁ B hml hv
  obtain ⟨hav, hI, hN, hK⟩ := hv
  have hx := B.exec
  have hb := B.bytes
  have hr := B.returns
  have hts := atoms_spec (ws := tb (.code yX11_grinds cX11_grinds 4 (some .int))) B.pre
  have hown : s.vm.findClass RX11 = some m.cls := findClass_of_methodNamed B.named
  have hlocks := B.notSynchronized
  have hS : va_S (th_A G) s.heap s.heap [] := va_S.rf
  have hl := lv_entry ([.ref h0, .int x1, .int x2, .int x3]) (n := 4) (Nat.le_of_ble_eq_true rfl)
  rw [show entryFrame m args 4 = entryFrame m ([.ref h0, .int x1, .int x2, .int x3] : List Value).toArray 4 from by rw [hav], lg_entry_eq]
  generalize (lg_sl ([.ref h0, .int x1, .int x2, .int x3]) ++ List.replicate (4 - (lg_sl ([.ref h0, .int x1, .int x2, .int x3])).length) Slot.unset).toArray = ls at hl ⊢
  have hl : lv_has ls 4 [(0, .ref h0), (1, .int x1), (2, .int x2), (3, .int x3)] := hl
  generalize hR : (headSpec (tb (.code yX11_grinds cX11_grinds 4 (some .int))) (rm 7)).room = R
  have hR := hR.symm
  generalize hQ : MQ below (QI E D G (fun r => True)) args s 0 0 (th_A G) = QF
  have hQ := hQ.symm
  have J_22 : ∀ (H : Heap) (locs : List Loc) (ls : Array Slot) , lv_has ls 4 [(0, .ref h0), (1, .int x1), (2, .int x2), (3, .int x3)] → th_I (okC E) D G [] H → va_S (th_A G) s.heap H locs → W p l e R s m args below meth c H locs 0 0 QF (F0 m 22 ls []) := by
    intro H locs ls  hl  hI hS
    refine lv_iconst (v := (-1)) hx hb dX11_grinds_22 (by decide) ?_
    have hpost : True := trivial
    rw [hQ]
    exact W.iret (v := (-1)) hx hb hr (fun t ht hW => ⟨⟨(-1), (), rfl, hpost, by rw [ht]; exact hI, hN.warm hW, va_K.moved hW.alike hK⟩, hS.F ht⟩) hS.2.2 dX11_grinds_23
  refine lv_aload_n hx hb dX11_grinds_0 rfl (lv_at hl 0 rfl) ?_
  obtain ⟨a1057, a1060, a1062, a1064, a1066, a1068, a1070, a1072, a1074, a1076, a1078, w1080, w1083, w1084, w1085, w1086, hO, hq1058, hq1059, hq1061, hq1063, hq1065, hq1067, hq1069, hq1071, hq1073, hq1075, hq1077, hq1079, ⟨k1081, k1082⟩, k1087⟩ := op_15 hI hG0 List.not_mem_nil
  have hI := th_I.weak (a := h0) hI
  refine th_get hx hb hts inT11 hown hK hO rfl 0 (by decide) (hts _ (tb_c wd_345)) rfl rfl dX11_grinds_1 ?_
  have hI := th_I.close hI hG0 hO (ok_15 hq1058 hq1059 hq1061 hq1063 hq1065 hq1067 hq1069 hq1071 hq1073 hq1075 hq1077 hq1079 ⟨by omega, by omega⟩ k1087)
  obtain ⟨a1088, a1090, a1092, a1094, a1096, a1098, a1100, a1102, a1104, a1106, w1108, w1111, w1112, w1113, hO, hq1089, hq1091, hq1093, hq1095, hq1097, hq1099, hq1101, hq1103, hq1105, hq1107, ⟨k1109, k1110⟩, k1114⟩ := op_6 hI hq1058 List.not_mem_nil
  have hI := th_I.weak (a := a1057) hI
  refine th_getN hx hb hts inT6 hown hK hN hO rfl 3 (by decide) wn_64 rfl rfl dX11_grinds_4 ?_
  refine lv_iload_n hx hb dX11_grinds_7 rfl (lv_at hl 1 rfl) ?_
  have hI := th_I.close hI hq1058 hO (ok_6 hq1089 hq1091 hq1093 hq1095 hq1097 hq1099 hq1101 hq1103 hq1105 hq1107 ⟨by omega, by omega⟩ k1114)
  obtain ⟨a1116, w1118, hO, hq1117, ⟨k1119, k1120⟩, k1121⟩ := op_4 hI hq1095 List.not_mem_nil
  have hI := th_I.weak (a := a1094) hI
  have k1122 : (nI (6 % 32)).toInt = ((6 % 32 : Nat) : Int) := nI_toInt (by omega)
  have k1123 := k1121.1
  refine th_cVs (As := [.int x1]) (rest := []) (n := 1) (d := 0) ⟨hx, hb, hml, hown, hts⟩ (c_X4_has l E D s.heap a1094 (6 % 32) a1116 w1118 hO (by omega) (by omega) (by omega) x1) wd_494 wd_495 wd_496 wd_3 wd_497 (by decide +kernel) ⟨by rw [hR]; exact Nat.le_of_ble_eq_true rfl, by rw [hR]; exact Nat.le_of_ble_eq_true rfl⟩ hN hK hS ⟨_, hO⟩ rfl rfl hl.1 rfl (Nat.le_of_ble_eq_true rfl) dX11_grinds_8 ⟨Nat.zero_le _, Nat.zero_le _⟩ (fun r1115 locs hp hS => ?_)
  rcases hp with ⟨rfl, hp⟩ | ⟨rfl, hp⟩
  · skip
    try simp only [rg, not_and, Int.not_le] at hp
    have hp1124 := hp
    refine lv_if_eq (tgt := 22) hx hb dX11_grinds_11 (by decide) (fun c => absurd c (by decide)) (fun _ => ?_)
    refine lv_iload_n hx hb dX11_grinds_14 rfl (lv_at hl 2 rfl) ?_
    refine lv_iload_n hx hb dX11_grinds_15 rfl (lv_at hl 3 rfl) ?_
    refine th_cSs (As := [.int x2, .int x3]) (rest := []) (n := 2) (d := 1) ⟨hx, hb, hml, hown, hts⟩ (c_X11_isSpan l s.heap x2 x3) wd_463 wd_464 wd_1 wd_465 (by decide +kernel) ⟨by rw [hR]; exact Nat.le_of_ble_eq_true rfl, by rw [hR]; exact Nat.le_of_ble_eq_true rfl⟩ hN hS rfl hl.1 rfl (Nat.le_of_ble_eq_true rfl) dX11_grinds_16 ⟨Nat.zero_le _, Nat.zero_le _⟩ (fun r1125 locs hp hS => ?_)
    rcases hp with ⟨rfl, hp⟩ | ⟨rfl, hp⟩
    · skip
      try simp only [rg, not_and, Int.not_le] at hp
      have hp1126 := hp
      refine lv_if_ne (tgt := 24) hx hb dX11_grinds_19 (by decide) (fun _ => ?_) (fun c => absurd c (by decide))
      refine lv_aload_n hx hb dX11_grinds_24 rfl (lv_at hl 0 rfl) ?_
      have hI := th_I.close hI hq1095 hO (ok_4 hq1117 ⟨by omega, by omega⟩ k1121)
      obtain ⟨a1127, a1130, a1132, a1134, a1136, a1138, a1140, a1142, a1144, a1146, a1148, w1150, w1153, w1154, w1155, w1156, hO, hq1128, hq1129, hq1131, hq1133, hq1135, hq1137, hq1139, hq1141, hq1143, hq1145, hq1147, hq1149, ⟨k1151, k1152⟩, k1157⟩ := op_15 hI hG0 List.not_mem_nil
      have hI := th_I.weak (a := h0) hI
      refine th_get hx hb hts inT11 hown hK hO rfl 6 (by decide) (hts _ (tb_c wd_351)) rfl rfl dX11_grinds_25 ?_
      refine lv_aload_n hx hb dX11_grinds_28 rfl (lv_at hl 0 rfl) ?_
      refine th_get hx hb hts inT11 hown hK hO rfl 0 (by decide) (hts _ (tb_c wd_345)) rfl rfl dX11_grinds_29 ?_
      have hI := th_I.close hI hG0 hO (ok_15 hq1128 hq1129 hq1131 hq1133 hq1135 hq1137 hq1139 hq1141 hq1143 hq1145 hq1147 hq1149 ⟨by omega, by omega⟩ k1157)
      obtain ⟨a1158, a1160, a1162, a1164, a1166, a1168, a1170, a1172, a1174, a1176, w1178, w1181, w1182, w1183, hO, hq1159, hq1161, hq1163, hq1165, hq1167, hq1169, hq1171, hq1173, hq1175, hq1177, ⟨k1179, k1180⟩, k1184⟩ := op_6 hI hq1128 List.not_mem_nil
      have hI := th_I.weak (a := a1127) hI
      refine th_getN hx hb hts inT6 hown hK hN hO rfl 3 (by decide) wn_64 rfl rfl dX11_grinds_32 ?_
      refine lv_iload_n hx hb dX11_grinds_35 rfl (lv_at hl 1 rfl) ?_
      refine lv_iconst (v := 0) hx hb dX11_grinds_36 (by decide) ?_
      have hI := th_I.close hI hq1128 hO (ok_6 hq1159 hq1161 hq1163 hq1165 hq1167 hq1169 hq1171 hq1173 hq1175 hq1177 ⟨by omega, by omega⟩ k1184)
      refine th_cVi (As := [.int x1, .int 0]) (rest := [.ref a1138]) (n := 2) (d := 0) ⟨hx, hb, hml, hown, hts⟩ (c_X4_at l E D G a1164 (6) hq1165 x1 0) wd_518 wd_519 wd_520 wd_3 wd_521 (by decide +kernel) ⟨by rw [hR]; exact Nat.le_of_ble_eq_true rfl, by rw [hR]; exact Nat.le_of_ble_eq_true rfl⟩ hI hN hK hS (rc_4 hI hq1165 List.not_mem_nil) rfl rfl hl.1 rfl (Nat.le_of_ble_eq_true rfl) dX11_grinds_37 ⟨Nat.zero_le _, Nat.zero_le _⟩ (fun r1185 H locs hp hI hS => ?_)
      refine lv_iload_n hx hb dX11_grinds_40 rfl (lv_at hl 2 rfl) ?_
      refine lv_iload_n hx hb dX11_grinds_41 rfl (lv_at hl 3 rfl) ?_
      refine th_cVi (As := [.int r1185, .int x2, .int x3]) (rest := []) (n := 3) (d := 6) ⟨hx, hb, hml, hown, hts⟩ (c_X7_turns l E D G a1138 hq1139 r1185 x2 x3) wd_522 wd_523 wd_524 wd_6 wd_525 (by decide +kernel) ⟨by rw [hR]; exact Nat.le_of_ble_eq_true rfl, by rw [hR]; exact Nat.le_of_ble_eq_true rfl⟩ hI hN hK hS (rc_9 hI hq1139 List.not_mem_nil) rfl rfl hl.1 rfl (Nat.le_of_ble_eq_true rfl) dX11_grinds_42 ⟨Nat.zero_le _, Nat.zero_le _⟩ (fun r1186 H locs hp hI hS => ?_)
      have hpost : True := trivial
      rw [hQ]
      exact W.iret (v := r1186) hx hb hr (fun t ht hW => ⟨⟨r1186, (), rfl, hpost, by rw [ht]; exact hI, hN.warm hW, va_K.moved hW.alike hK⟩, hS.F ht⟩) hS.2.2 dX11_grinds_45
    · skip
      try simp only [rg, not_and, Int.not_le] at hp
      have hp1187 := hp
      refine lv_if_ne (tgt := 24) hx hb dX11_grinds_19 (by decide) (fun c => absurd c (by decide)) (fun _ => ?_)
      have hI := th_I.close hI hq1095 hO (ok_4 hq1117 ⟨by omega, by omega⟩ k1121)
      exact J_22 s.heap locs ls  (lv_sub hl [0, 1, 2, 3] rfl)  hI hS
  · skip
    have hp1188 := hp
    refine lv_if_eq (tgt := 22) hx hb dX11_grinds_11 (by decide) (fun _ => ?_) (fun c => absurd c (by decide))
    have hI := th_I.close hI hq1095 hO (ok_4 hq1117 ⟨by omega, by omega⟩ k1121)
    exact J_22 s.heap locs ls  (lv_sub hl [0, 1, 2, 3] rfl)  hI hS
theorem dX11_flow_0g : (decode cX11_flow 0 = .ok (.iload_n 1, 1)) ∧ (decode cX11_flow 1 = .ok (.invokestatic 106, 3)) ∧ (decode cX11_flow 4 = .ok (.ifCond .eq 22, 3)) ∧ (decode cX11_flow 7 = .ok (.iload_n 2, 1)) ∧ (decode cX11_flow 8 = .ok (.invokestatic 211, 3)) ∧ (decode cX11_flow 11 = .ok (.ifCond .eq 15, 3)) ∧ (decode cX11_flow 14 = .ok (.aload_n 0, 1)) ∧ (decode cX11_flow 15 = .ok (.getfield 42, 3)) ∧ (decode cX11_flow 18 = .ok (.iload_n 1, 1)) ∧ (decode cX11_flow 19 = .ok (.iload_n 2, 1)) := by decide +kernel
theorem dX11_flow_0 : decode cX11_flow 0 = .ok (.iload_n 1, 1) := dX11_flow_0g.1
theorem dX11_flow_1 : decode cX11_flow 1 = .ok (.invokestatic 106, 3) := dX11_flow_0g.2.1
theorem dX11_flow_4 : decode cX11_flow 4 = .ok (.ifCond .eq 22, 3) := dX11_flow_0g.2.2.1
theorem dX11_flow_7 : decode cX11_flow 7 = .ok (.iload_n 2, 1) := dX11_flow_0g.2.2.2.1
theorem dX11_flow_8 : decode cX11_flow 8 = .ok (.invokestatic 211, 3) := dX11_flow_0g.2.2.2.2.1
theorem dX11_flow_11 : decode cX11_flow 11 = .ok (.ifCond .eq 15, 3) := dX11_flow_0g.2.2.2.2.2.1
theorem dX11_flow_14 : decode cX11_flow 14 = .ok (.aload_n 0, 1) := dX11_flow_0g.2.2.2.2.2.2.1
theorem dX11_flow_15 : decode cX11_flow 15 = .ok (.getfield 42, 3) := dX11_flow_0g.2.2.2.2.2.2.2.1
theorem dX11_flow_18 : decode cX11_flow 18 = .ok (.iload_n 1, 1) := dX11_flow_0g.2.2.2.2.2.2.2.2.1
theorem dX11_flow_19 : decode cX11_flow 19 = .ok (.iload_n 2, 1) := dX11_flow_0g.2.2.2.2.2.2.2.2.2
theorem dX11_flow_20g : (decode cX11_flow 20 = .ok (.invokevirtual 214, 3)) ∧ (decode cX11_flow 23 = .ok (.goto 6, 3)) ∧ (decode cX11_flow 26 = .ok (.sipush (-1000), 3)) ∧ (decode cX11_flow 29 = .ok (.ireturn, 1)) := by decide +kernel
theorem dX11_flow_20 : decode cX11_flow 20 = .ok (.invokevirtual 214, 3) := dX11_flow_20g.1
theorem dX11_flow_23 : decode cX11_flow 23 = .ok (.goto 6, 3) := dX11_flow_20g.2.1
theorem dX11_flow_26 : decode cX11_flow 26 = .ok (.sipush (-1000), 3) := dX11_flow_20g.2.2.1
theorem dX11_flow_29 : decode cX11_flow 29 = .ok (.ireturn, 1) := dX11_flow_20g.2.2.2
set_option maxHeartbeats 4000000 in
set_option maxRecDepth 100000 in
theorem c_X11_flow (l : Launch) (E : Nat → Nat) (D : va_G) (G : th_G) (h0 n : Nat) (hG0 : G h0 = some (15, n)) (x1 x2 : Int32) : Met l yX11_flow (tb (.code yX11_flow cX11_flow 3 (some .int))) (rm 6) (va_Pc [.ref h0, .int x1, .int x2] (th_P E D G)) (QI E D G (fun r => True)) 0 0 (th_A G) := by
  refine Met.ofW (cc := cX11_flow) (maxL := 3) (ret := (some .int)) (by decide) rfl ?_
  intro p e s m args below meth c s₁ B hml hv
  obtain ⟨hav, hI, hN, hK⟩ := hv
  have hx := B.exec
  have hb := B.bytes
  have hr := B.returns
  have hts := atoms_spec (ws := tb (.code yX11_flow cX11_flow 3 (some .int))) B.pre
  have hown : s.vm.findClass RX11 = some m.cls := findClass_of_methodNamed B.named
  have hlocks := B.notSynchronized
  have hS : va_S (th_A G) s.heap s.heap [] := va_S.rf
  have hl := lv_entry ([.ref h0, .int x1, .int x2]) (n := 3) (Nat.le_of_ble_eq_true rfl)
  rw [show entryFrame m args 3 = entryFrame m ([.ref h0, .int x1, .int x2] : List Value).toArray 3 from by rw [hav], lg_entry_eq]
  generalize (lg_sl ([.ref h0, .int x1, .int x2]) ++ List.replicate (3 - (lg_sl ([.ref h0, .int x1, .int x2])).length) Slot.unset).toArray = ls at hl ⊢
  have hl : lv_has ls 3 [(0, .ref h0), (1, .int x1), (2, .int x2)] := hl
  generalize hR : (headSpec (tb (.code yX11_flow cX11_flow 3 (some .int))) (rm 6)).room = R
  have hR := hR.symm
  generalize hQ : MQ below (QI E D G (fun r => True)) args s 0 0 (th_A G) = QF
  have hQ := hQ.symm
  refine lv_iload_n hx hb dX11_flow_0 rfl (lv_at hl 1 rfl) ?_
  refine th_cSs (As := [.int x1]) (rest := []) (n := 1) (d := 0) ⟨hx, hb, hml, hown, hts⟩ (c_X11_isCell l s.heap x1) wd_401 wd_402 wd_1 wd_403 (by decide +kernel) ⟨by rw [hR]; exact Nat.le_of_ble_eq_true rfl, by rw [hR]; exact Nat.le_of_ble_eq_true rfl⟩ hN hS rfl hl.1 rfl (Nat.le_of_ble_eq_true rfl) dX11_flow_1 ⟨Nat.zero_le _, Nat.zero_le _⟩ (fun r1 locs hp hS => ?_)
  rcases hp with ⟨rfl, hp⟩ | ⟨rfl, hp⟩
  · skip
    try simp only [rg, not_and, Int.not_le] at hp
    have hp2 := hp
    refine lv_if_eq (tgt := 26) hx hb dX11_flow_4 (by decide) (fun c => absurd c (by decide)) (fun _ => ?_)
    refine lv_iload_n hx hb dX11_flow_7 rfl (lv_at hl 2 rfl) ?_
    refine th_cSs (As := [.int x2]) (rest := []) (n := 1) (d := 0) ⟨hx, hb, hml, hown, hts⟩ (c_X11_isHour l s.heap x2) wd_466 wd_467 wd_1 wd_468 (by decide +kernel) ⟨by rw [hR]; exact Nat.le_of_ble_eq_true rfl, by rw [hR]; exact Nat.le_of_ble_eq_true rfl⟩ hN hS rfl hl.1 rfl (Nat.le_of_ble_eq_true rfl) dX11_flow_8 ⟨Nat.zero_le _, Nat.zero_le _⟩ (fun r3 locs hp hS => ?_)
    rcases hp with ⟨rfl, hp⟩ | ⟨rfl, hp⟩
    · skip
      try simp only [rg, not_and, Int.not_le] at hp
      have hp4 := hp
      refine lv_if_eq (tgt := 26) hx hb dX11_flow_11 (by decide) (fun c => absurd c (by decide)) (fun _ => ?_)
      refine lv_aload_n hx hb dX11_flow_14 rfl (lv_at hl 0 rfl) ?_
      obtain ⟨a5, a8, a10, a12, a14, a16, a18, a20, a22, a24, a26, w28, w31, w32, w33, w34, hO, hq6, hq7, hq9, hq11, hq13, hq15, hq17, hq19, hq21, hq23, hq25, hq27, ⟨k29, k30⟩, k35⟩ := op_15 hI hG0 List.not_mem_nil
      have hI := th_I.weak (a := h0) hI
      refine th_get hx hb hts inT11 hown hK hO rfl 6 (by decide) (hts _ (tb_c wd_351)) rfl rfl dX11_flow_15 ?_
      refine lv_iload_n hx hb dX11_flow_18 rfl (lv_at hl 1 rfl) ?_
      refine lv_iload_n hx hb dX11_flow_19 rfl (lv_at hl 2 rfl) ?_
      have hI := th_I.close hI hG0 hO (ok_15 hq6 hq7 hq9 hq11 hq13 hq15 hq17 hq19 hq21 hq23 hq25 hq27 ⟨by omega, by omega⟩ k35)
      refine th_cVi (As := [.int x1, .int x2]) (rest := []) (n := 2) (d := 5) ⟨hx, hb, hml, hown, hts⟩ (c_X7_flowAt l E D G a16 hq17 x1 x2) wd_805 wd_527 wd_528 wd_6 wd_529 (by decide +kernel) ⟨by rw [hR]; exact Nat.le_of_ble_eq_true rfl, by rw [hR]; exact Nat.le_of_ble_eq_true rfl⟩ hI hN hK hS (rc_9 hI hq17 List.not_mem_nil) rfl rfl hl.1 rfl (Nat.le_of_ble_eq_true rfl) dX11_flow_20 ⟨Nat.zero_le _, Nat.zero_le _⟩ (fun r36 H locs hp hI hS => ?_)
      refine lv_goto (tgt := 29) hx hb dX11_flow_23 (by decide) ?_
      have hpost : True := trivial
      rw [hQ]
      exact W.iret (v := r36) hx hb hr (fun t ht hW => ⟨⟨r36, (), rfl, hpost, by rw [ht]; exact hI, hN.warm hW, va_K.moved hW.alike hK⟩, hS.F ht⟩) hS.2.2 dX11_flow_29
    · skip
      try simp only [rg, not_and, Int.not_le] at hp
      have hp37 := hp
      refine lv_if_eq (tgt := 26) hx hb dX11_flow_11 (by decide) (fun _ => ?_) (fun c => absurd c (by decide))
      refine lv_sipush (v := (-1000)) hx hb dX11_flow_26 (by decide) ?_
      have hpost : True := trivial
      rw [hQ]
      exact W.iret (v := (-1000)) hx hb hr (fun t ht hW => ⟨⟨(-1000), (), rfl, hpost, by rw [ht]; exact hI, hN.warm hW, va_K.moved hW.alike hK⟩, hS.F ht⟩) hS.2.2 dX11_flow_29
  · skip
    try simp only [rg, not_and, Int.not_le] at hp
    have hp38 := hp
    refine lv_if_eq (tgt := 26) hx hb dX11_flow_4 (by decide) (fun _ => ?_) (fun c => absurd c (by decide))
    refine lv_sipush (v := (-1000)) hx hb dX11_flow_26 (by decide) ?_
    have hpost : True := trivial
    rw [hQ]
    exact W.iret (v := (-1000)) hx hb hr (fun t ht hW => ⟨⟨(-1000), (), rfl, hpost, by rw [ht]; exact hI, hN.warm hW, va_K.moved hW.alike hK⟩, hS.F ht⟩) hS.2.2 dX11_flow_29
theorem dX11_asks_0g : (decode cX11_asks 0 = .ok (.iload_n 1, 1)) ∧ (decode cX11_asks 1 = .ok (.invokestatic 106, 3)) ∧ (decode cX11_asks 4 = .ok (.ifCond .eq 10, 3)) ∧ (decode cX11_asks 7 = .ok (.iload_n 2, 1)) ∧ (decode cX11_asks 8 = .ok (.invokestatic 211, 3)) ∧ (decode cX11_asks 11 = .ok (.ifCond .ne 5, 3)) ∧ (decode cX11_asks 14 = .ok (.iconst (-1), 1)) ∧ (decode cX11_asks 15 = .ok (.ireturn, 1)) ∧ (decode cX11_asks 16 = .ok (.iload_n 3, 1)) ∧ (decode cX11_asks 17 = .ok (.tableswitch 81 0 3 #[31, 41, 59, 70], 31)) := by decide +kernel
theorem dX11_asks_0 : decode cX11_asks 0 = .ok (.iload_n 1, 1) := dX11_asks_0g.1
theorem dX11_asks_1 : decode cX11_asks 1 = .ok (.invokestatic 106, 3) := dX11_asks_0g.2.1
theorem dX11_asks_4 : decode cX11_asks 4 = .ok (.ifCond .eq 10, 3) := dX11_asks_0g.2.2.1
theorem dX11_asks_7 : decode cX11_asks 7 = .ok (.iload_n 2, 1) := dX11_asks_0g.2.2.2.1
theorem dX11_asks_8 : decode cX11_asks 8 = .ok (.invokestatic 211, 3) := dX11_asks_0g.2.2.2.2.1
theorem dX11_asks_11 : decode cX11_asks 11 = .ok (.ifCond .ne 5, 3) := dX11_asks_0g.2.2.2.2.2.1
theorem dX11_asks_14 : decode cX11_asks 14 = .ok (.iconst (-1), 1) := dX11_asks_0g.2.2.2.2.2.2.1
theorem dX11_asks_15 : decode cX11_asks 15 = .ok (.ireturn, 1) := dX11_asks_0g.2.2.2.2.2.2.2.1
theorem dX11_asks_16 : decode cX11_asks 16 = .ok (.iload_n 3, 1) := dX11_asks_0g.2.2.2.2.2.2.2.2.1
theorem dX11_asks_17 : decode cX11_asks 17 = .ok (.tableswitch 81 0 3 #[31, 41, 59, 70], 31) := dX11_asks_0g.2.2.2.2.2.2.2.2.2
theorem dX11_asks_48g : (decode cX11_asks 48 = .ok (.aload_n 0, 1)) ∧ (decode cX11_asks 49 = .ok (.getfield 42, 3)) ∧ (decode cX11_asks 52 = .ok (.iload_n 1, 1)) ∧ (decode cX11_asks 53 = .ok (.iload_n 2, 1)) ∧ (decode cX11_asks 54 = .ok (.invokevirtual 217, 3)) ∧ (decode cX11_asks 57 = .ok (.ireturn, 1)) ∧ (decode cX11_asks 58 = .ok (.aload_n 0, 1)) ∧ (decode cX11_asks 59 = .ok (.getfield 42, 3)) ∧ (decode cX11_asks 62 = .ok (.iload_n 1, 1)) ∧ (decode cX11_asks 63 = .ok (.iload_n 2, 1)) := by decide +kernel
theorem dX11_asks_48 : decode cX11_asks 48 = .ok (.aload_n 0, 1) := dX11_asks_48g.1
theorem dX11_asks_49 : decode cX11_asks 49 = .ok (.getfield 42, 3) := dX11_asks_48g.2.1
theorem dX11_asks_52 : decode cX11_asks 52 = .ok (.iload_n 1, 1) := dX11_asks_48g.2.2.1
theorem dX11_asks_53 : decode cX11_asks 53 = .ok (.iload_n 2, 1) := dX11_asks_48g.2.2.2.1
theorem dX11_asks_54 : decode cX11_asks 54 = .ok (.invokevirtual 217, 3) := dX11_asks_48g.2.2.2.2.1
theorem dX11_asks_57 : decode cX11_asks 57 = .ok (.ireturn, 1) := dX11_asks_48g.2.2.2.2.2.1
theorem dX11_asks_58 : decode cX11_asks 58 = .ok (.aload_n 0, 1) := dX11_asks_48g.2.2.2.2.2.2.1
theorem dX11_asks_59 : decode cX11_asks 59 = .ok (.getfield 42, 3) := dX11_asks_48g.2.2.2.2.2.2.2.1
theorem dX11_asks_62 : decode cX11_asks 62 = .ok (.iload_n 1, 1) := dX11_asks_48g.2.2.2.2.2.2.2.2.1
theorem dX11_asks_63 : decode cX11_asks 63 = .ok (.iload_n 2, 1) := dX11_asks_48g.2.2.2.2.2.2.2.2.2
theorem dX11_asks_64g : (decode cX11_asks 64 = .ok (.invokevirtual 220, 3)) ∧ (decode cX11_asks 67 = .ok (.ifCond .eq 7, 3)) ∧ (decode cX11_asks 70 = .ok (.iconst 1, 1)) ∧ (decode cX11_asks 71 = .ok (.goto 4, 3)) ∧ (decode cX11_asks 74 = .ok (.iconst 0, 1)) ∧ (decode cX11_asks 75 = .ok (.ireturn, 1)) ∧ (decode cX11_asks 76 = .ok (.aload_n 0, 1)) ∧ (decode cX11_asks 77 = .ok (.getfield 42, 3)) ∧ (decode cX11_asks 80 = .ok (.iload_n 1, 1)) ∧ (decode cX11_asks 81 = .ok (.iload_n 2, 1)) := by decide +kernel
theorem dX11_asks_64 : decode cX11_asks 64 = .ok (.invokevirtual 220, 3) := dX11_asks_64g.1
theorem dX11_asks_67 : decode cX11_asks 67 = .ok (.ifCond .eq 7, 3) := dX11_asks_64g.2.1
theorem dX11_asks_70 : decode cX11_asks 70 = .ok (.iconst 1, 1) := dX11_asks_64g.2.2.1
theorem dX11_asks_71 : decode cX11_asks 71 = .ok (.goto 4, 3) := dX11_asks_64g.2.2.2.1
theorem dX11_asks_74 : decode cX11_asks 74 = .ok (.iconst 0, 1) := dX11_asks_64g.2.2.2.2.1
theorem dX11_asks_75 : decode cX11_asks 75 = .ok (.ireturn, 1) := dX11_asks_64g.2.2.2.2.2.1
theorem dX11_asks_76 : decode cX11_asks 76 = .ok (.aload_n 0, 1) := dX11_asks_64g.2.2.2.2.2.2.1
theorem dX11_asks_77 : decode cX11_asks 77 = .ok (.getfield 42, 3) := dX11_asks_64g.2.2.2.2.2.2.2.1
theorem dX11_asks_80 : decode cX11_asks 80 = .ok (.iload_n 1, 1) := dX11_asks_64g.2.2.2.2.2.2.2.2.1
theorem dX11_asks_81 : decode cX11_asks 81 = .ok (.iload_n 2, 1) := dX11_asks_64g.2.2.2.2.2.2.2.2.2
theorem dX11_asks_82g : (decode cX11_asks 82 = .ok (.iconst 1, 1)) ∧ (decode cX11_asks 83 = .ok (.invokevirtual 223, 3)) ∧ (decode cX11_asks 86 = .ok (.ireturn, 1)) ∧ (decode cX11_asks 87 = .ok (.aload_n 0, 1)) ∧ (decode cX11_asks 88 = .ok (.getfield 42, 3)) ∧ (decode cX11_asks 91 = .ok (.iload_n 1, 1)) ∧ (decode cX11_asks 92 = .ok (.iload_n 2, 1)) ∧ (decode cX11_asks 93 = .ok (.iconst 0, 1)) ∧ (decode cX11_asks 94 = .ok (.invokevirtual 223, 3)) ∧ (decode cX11_asks 97 = .ok (.ireturn, 1)) := by decide +kernel
theorem dX11_asks_82 : decode cX11_asks 82 = .ok (.iconst 1, 1) := dX11_asks_82g.1
theorem dX11_asks_83 : decode cX11_asks 83 = .ok (.invokevirtual 223, 3) := dX11_asks_82g.2.1
theorem dX11_asks_86 : decode cX11_asks 86 = .ok (.ireturn, 1) := dX11_asks_82g.2.2.1
theorem dX11_asks_87 : decode cX11_asks 87 = .ok (.aload_n 0, 1) := dX11_asks_82g.2.2.2.1
theorem dX11_asks_88 : decode cX11_asks 88 = .ok (.getfield 42, 3) := dX11_asks_82g.2.2.2.2.1
theorem dX11_asks_91 : decode cX11_asks 91 = .ok (.iload_n 1, 1) := dX11_asks_82g.2.2.2.2.2.1
theorem dX11_asks_92 : decode cX11_asks 92 = .ok (.iload_n 2, 1) := dX11_asks_82g.2.2.2.2.2.2.1
theorem dX11_asks_93 : decode cX11_asks 93 = .ok (.iconst 0, 1) := dX11_asks_82g.2.2.2.2.2.2.2.1
theorem dX11_asks_94 : decode cX11_asks 94 = .ok (.invokevirtual 223, 3) := dX11_asks_82g.2.2.2.2.2.2.2.2.1
theorem dX11_asks_97 : decode cX11_asks 97 = .ok (.ireturn, 1) := dX11_asks_82g.2.2.2.2.2.2.2.2.2
theorem dX11_asks_98g : (decode cX11_asks 98 = .ok (.iconst (-1), 1)) ∧ (decode cX11_asks 99 = .ok (.ireturn, 1)) := by decide +kernel
theorem dX11_asks_98 : decode cX11_asks 98 = .ok (.iconst (-1), 1) := dX11_asks_98g.1
theorem dX11_asks_99 : decode cX11_asks 99 = .ok (.ireturn, 1) := dX11_asks_98g.2
set_option maxHeartbeats 4000000 in
set_option maxRecDepth 100000 in
theorem c_X11_asks (l : Launch) (E : Nat → Nat) (D : va_G) (G : th_G) (h0 n : Nat) (hG0 : G h0 = some (15, n)) (x1 x2 x3 : Int32) : Met l yX11_asks (tb (.code yX11_asks cX11_asks 4 (some .int))) (rm 6) (va_Pc [.ref h0, .int x1, .int x2, .int x3] (th_P E D G)) (QI E D G (fun r => True)) 0 0 (th_A G) := by
  refine Met.ofW (cc := cX11_asks) (maxL := 4) (ret := (some .int)) (by decide) rfl ?_
  intro p e s m args below meth c s₁ B hml hv
  obtain ⟨hav, hI, hN, hK⟩ := hv
  have hx := B.exec
  have hb := B.bytes
  have hr := B.returns
  have hts := atoms_spec (ws := tb (.code yX11_asks cX11_asks 4 (some .int))) B.pre
  have hown : s.vm.findClass RX11 = some m.cls := findClass_of_methodNamed B.named
  have hlocks := B.notSynchronized
  have hS : va_S (th_A G) s.heap s.heap [] := va_S.rf
  have hl := lv_entry ([.ref h0, .int x1, .int x2, .int x3]) (n := 4) (Nat.le_of_ble_eq_true rfl)
  rw [show entryFrame m args 4 = entryFrame m ([.ref h0, .int x1, .int x2, .int x3] : List Value).toArray 4 from by rw [hav], lg_entry_eq]
  generalize (lg_sl ([.ref h0, .int x1, .int x2, .int x3]) ++ List.replicate (4 - (lg_sl ([.ref h0, .int x1, .int x2, .int x3])).length) Slot.unset).toArray = ls at hl ⊢
  have hl : lv_has ls 4 [(0, .ref h0), (1, .int x1), (2, .int x2), (3, .int x3)] := hl
  generalize hR : (headSpec (tb (.code yX11_asks cX11_asks 4 (some .int))) (rm 6)).room = R
  have hR := hR.symm
  generalize hQ : MQ below (QI E D G (fun r => True)) args s 0 0 (th_A G) = QF
  have hQ := hQ.symm
  have J_75 : ∀ (H : Heap) (locs : List Loc) (ls : Array Slot) (v1224 : Int32), lv_has ls 4 [(0, .ref h0), (1, .int x1), (2, .int x2), (3, .int x3)] → ((0 : Int) ≤ x1.toInt ∧ x1.toInt ≤ 23) → ((0 : Int) ≤ x2.toInt ∧ x2.toInt ≤ 95) → ((1 : Int) ≤ x3.toInt ∧ x3.toInt ≤ 1) → ((0 : Int) ≤ v1224.toInt ∧ v1224.toInt ≤ 1) → th_I (okC E) D G [] H → va_S (th_A G) s.heap H locs → W p l e R s m args below meth c H locs 0 0 QF (F0 m 75 ls [.int v1224]) := by
    intro H locs ls v1224 hl k1225 k1226 k1227 k1228 hI hS
    have hpost : True := trivial
    rw [hQ]
    exact W.iret (v := v1224) hx hb hr (fun t ht hW => ⟨⟨v1224, (), rfl, hpost, by rw [ht]; exact hI, hN.warm hW, va_K.moved hW.alike hK⟩, hS.F ht⟩) hS.2.2 dX11_asks_75
  have J_14 : ∀ (H : Heap) (locs : List Loc) (ls : Array Slot) , lv_has ls 4 [(0, .ref h0), (1, .int x1), (2, .int x2), (3, .int x3)] → th_I (okC E) D G [] H → va_S (th_A G) s.heap H locs → W p l e R s m args below meth c H locs 0 0 QF (F0 m 14 ls []) := by
    intro H locs ls  hl  hI hS
    refine lv_iconst (v := (-1)) hx hb dX11_asks_14 (by decide) ?_
    have hpost : True := trivial
    rw [hQ]
    exact W.iret (v := (-1)) hx hb hr (fun t ht hW => ⟨⟨(-1), (), rfl, hpost, by rw [ht]; exact hI, hN.warm hW, va_K.moved hW.alike hK⟩, hS.F ht⟩) hS.2.2 dX11_asks_15
  refine lv_iload_n hx hb dX11_asks_0 rfl (lv_at hl 1 rfl) ?_
  refine th_cSs (As := [.int x1]) (rest := []) (n := 1) (d := 0) ⟨hx, hb, hml, hown, hts⟩ (c_X11_isCell l s.heap x1) wd_401 wd_402 wd_1 wd_403 (by decide +kernel) ⟨by rw [hR]; exact Nat.le_of_ble_eq_true rfl, by rw [hR]; exact Nat.le_of_ble_eq_true rfl⟩ hN hS rfl hl.1 rfl (Nat.le_of_ble_eq_true rfl) dX11_asks_1 ⟨Nat.zero_le _, Nat.zero_le _⟩ (fun r1229 locs hp hS => ?_)
  rcases hp with ⟨rfl, hp⟩ | ⟨rfl, hp⟩
  · skip
    try simp only [rg, not_and, Int.not_le] at hp
    have hp1230 := hp
    refine lv_if_eq (tgt := 14) hx hb dX11_asks_4 (by decide) (fun c => absurd c (by decide)) (fun _ => ?_)
    refine lv_iload_n hx hb dX11_asks_7 rfl (lv_at hl 2 rfl) ?_
    refine th_cSs (As := [.int x2]) (rest := []) (n := 1) (d := 0) ⟨hx, hb, hml, hown, hts⟩ (c_X11_isHour l s.heap x2) wd_466 wd_467 wd_1 wd_468 (by decide +kernel) ⟨by rw [hR]; exact Nat.le_of_ble_eq_true rfl, by rw [hR]; exact Nat.le_of_ble_eq_true rfl⟩ hN hS rfl hl.1 rfl (Nat.le_of_ble_eq_true rfl) dX11_asks_8 ⟨Nat.zero_le _, Nat.zero_le _⟩ (fun r1231 locs hp hS => ?_)
    rcases hp with ⟨rfl, hp⟩ | ⟨rfl, hp⟩
    · skip
      try simp only [rg, not_and, Int.not_le] at hp
      have hp1232 := hp
      refine lv_if_ne (tgt := 16) hx hb dX11_asks_11 (by decide) (fun _ => ?_) (fun c => absurd c (by decide))
      refine lv_iload_n hx hb dX11_asks_16 rfl (lv_at hl 3 rfl) ?_
      have k1233 := iv_lo x3
      have k1234 := iv_hi x3
      by_cases c1235 : x3 = 0
      · skip
        have k1236 := iv_eq (X := x3.toInt) (Y := 0) rfl (by decide) c1235
        refine lv_tableIn (tgt := 48) (off := 31) hx hb dX11_asks_17 (by omega) (by omega) (by rw [k1236]; rfl) (by decide) ?_
        refine lv_aload_n hx hb dX11_asks_48 rfl (lv_at hl 0 rfl) ?_
        obtain ⟨a1237, a1240, a1242, a1244, a1246, a1248, a1250, a1252, a1254, a1256, a1258, w1260, w1263, w1264, w1265, w1266, hO, hq1238, hq1239, hq1241, hq1243, hq1245, hq1247, hq1249, hq1251, hq1253, hq1255, hq1257, hq1259, ⟨k1261, k1262⟩, k1267⟩ := op_15 hI hG0 List.not_mem_nil
        have hI := th_I.weak (a := h0) hI
        refine th_get hx hb hts inT11 hown hK hO rfl 6 (by decide) (hts _ (tb_c wd_351)) rfl rfl dX11_asks_49 ?_
        refine lv_iload_n hx hb dX11_asks_52 rfl (lv_at hl 1 rfl) ?_
        refine lv_iload_n hx hb dX11_asks_53 rfl (lv_at hl 2 rfl) ?_
        have hI := th_I.close hI hG0 hO (ok_15 hq1238 hq1239 hq1241 hq1243 hq1245 hq1247 hq1249 hq1251 hq1253 hq1255 hq1257 hq1259 ⟨by omega, by omega⟩ k1267)
        refine th_cVi (As := [.int x1, .int x2]) (rest := []) (n := 2) (d := 5) ⟨hx, hb, hml, hown, hts⟩ (c_X7_costAt l E D G a1248 hq1249 x1 x2) wd_810 wd_811 wd_812 wd_6 wd_813 (by decide +kernel) ⟨by rw [hR]; exact Nat.le_of_ble_eq_true rfl, by rw [hR]; exact Nat.le_of_ble_eq_true rfl⟩ hI hN hK hS (rc_9 hI hq1249 List.not_mem_nil) rfl rfl hl.1 rfl (Nat.le_of_ble_eq_true rfl) dX11_asks_54 ⟨Nat.zero_le _, Nat.zero_le _⟩ (fun r1268 H locs hp hI hS => ?_)
        have hpost : True := trivial
        rw [hQ]
        exact W.iret (v := r1268) hx hb hr (fun t ht hW => ⟨⟨r1268, (), rfl, hpost, by rw [ht]; exact hI, hN.warm hW, va_K.moved hW.alike hK⟩, hS.F ht⟩) hS.2.2 dX11_asks_57
      have k1269 := iv_ne (X := x3.toInt) (Y := 0) rfl (by decide) c1235
      by_cases c1270 : x3 = 1
      · skip
        have k1271 := iv_eq (X := x3.toInt) (Y := 1) rfl (by decide) c1270
        refine lv_tableIn (tgt := 58) (off := 41) hx hb dX11_asks_17 (by omega) (by omega) (by rw [k1271]; rfl) (by decide) ?_
        refine lv_aload_n hx hb dX11_asks_58 rfl (lv_at hl 0 rfl) ?_
        obtain ⟨a1272, a1275, a1277, a1279, a1281, a1283, a1285, a1287, a1289, a1291, a1293, w1295, w1298, w1299, w1300, w1301, hO, hq1273, hq1274, hq1276, hq1278, hq1280, hq1282, hq1284, hq1286, hq1288, hq1290, hq1292, hq1294, ⟨k1296, k1297⟩, k1302⟩ := op_15 hI hG0 List.not_mem_nil
        have hI := th_I.weak (a := h0) hI
        refine th_get hx hb hts inT11 hown hK hO rfl 6 (by decide) (hts _ (tb_c wd_351)) rfl rfl dX11_asks_59 ?_
        refine lv_iload_n hx hb dX11_asks_62 rfl (lv_at hl 1 rfl) ?_
        refine lv_iload_n hx hb dX11_asks_63 rfl (lv_at hl 2 rfl) ?_
        have hI := th_I.close hI hG0 hO (ok_15 hq1273 hq1274 hq1276 hq1278 hq1280 hq1282 hq1284 hq1286 hq1288 hq1290 hq1292 hq1294 ⟨by omega, by omega⟩ k1302)
        refine th_cVi (As := [.int x1, .int x2]) (rest := []) (n := 2) (d := 5) ⟨hx, hb, hml, hown, hts⟩ (c_X7_isBarred l E D G a1283 hq1284 x1 x2) wd_623 wd_624 wd_625 wd_6 wd_626 (by decide +kernel) ⟨by rw [hR]; exact Nat.le_of_ble_eq_true rfl, by rw [hR]; exact Nat.le_of_ble_eq_true rfl⟩ hI hN hK hS (rc_9 hI hq1284 List.not_mem_nil) rfl rfl hl.1 rfl (Nat.le_of_ble_eq_true rfl) dX11_asks_64 ⟨Nat.zero_le _, Nat.zero_le _⟩ (fun r1303 H locs hp hI hS => ?_)
        have hp1304 := hp
        refine lv_if_eq (tgt := 74) hx hb dX11_asks_67 (by decide) (fun c1305 => ?_) (fun c1305 => ?_)
        · skip
          have k1306 := iv_eq (X := r1303.toInt) (Y := (0)) rfl (by decide) c1305
          refine lv_iconst (v := 0) hx hb dX11_asks_74 (by decide) ?_
          exact J_75 H locs ls 0 (lv_sub hl [0, 1, 2, 3] rfl) ⟨by omega, by omega⟩ ⟨by omega, by omega⟩ ⟨by omega, by omega⟩ ⟨by decide, by decide⟩ hI hS
        · skip
          have k1307 := iv_ne (X := r1303.toInt) (Y := (0)) rfl (by decide) c1305
          refine lv_iconst (v := 1) hx hb dX11_asks_70 (by decide) ?_
          refine lv_goto (tgt := 75) hx hb dX11_asks_71 (by decide) ?_
          exact J_75 H locs ls 1 (lv_sub hl [0, 1, 2, 3] rfl) ⟨by omega, by omega⟩ ⟨by omega, by omega⟩ ⟨by omega, by omega⟩ ⟨by decide, by decide⟩ hI hS
      have k1308 := iv_ne (X := x3.toInt) (Y := 1) rfl (by decide) c1270
      by_cases c1309 : x3 = 2
      · skip
        have k1310 := iv_eq (X := x3.toInt) (Y := 2) rfl (by decide) c1309
        refine lv_tableIn (tgt := 76) (off := 59) hx hb dX11_asks_17 (by omega) (by omega) (by rw [k1310]; rfl) (by decide) ?_
        refine lv_aload_n hx hb dX11_asks_76 rfl (lv_at hl 0 rfl) ?_
        obtain ⟨a1311, a1314, a1316, a1318, a1320, a1322, a1324, a1326, a1328, a1330, a1332, w1334, w1337, w1338, w1339, w1340, hO, hq1312, hq1313, hq1315, hq1317, hq1319, hq1321, hq1323, hq1325, hq1327, hq1329, hq1331, hq1333, ⟨k1335, k1336⟩, k1341⟩ := op_15 hI hG0 List.not_mem_nil
        have hI := th_I.weak (a := h0) hI
        refine th_get hx hb hts inT11 hown hK hO rfl 6 (by decide) (hts _ (tb_c wd_351)) rfl rfl dX11_asks_77 ?_
        refine lv_iload_n hx hb dX11_asks_80 rfl (lv_at hl 1 rfl) ?_
        refine lv_iload_n hx hb dX11_asks_81 rfl (lv_at hl 2 rfl) ?_
        refine lv_iconst (v := 1) hx hb dX11_asks_82 (by decide) ?_
        have hI := th_I.close hI hG0 hO (ok_15 hq1312 hq1313 hq1315 hq1317 hq1319 hq1321 hq1323 hq1325 hq1327 hq1329 hq1331 hq1333 ⟨by omega, by omega⟩ k1341)
        refine th_cVi (As := [.int x1, .int x2, .int 1]) (rest := []) (n := 3) (d := 4) ⟨hx, hb, hml, hown, hts⟩ (c_X7_tollAt l E D G a1322 hq1323 x1 x2 1) wd_814 wd_815 wd_816 wd_6 wd_817 (by decide +kernel) ⟨by rw [hR]; exact Nat.le_of_ble_eq_true rfl, by rw [hR]; exact Nat.le_of_ble_eq_true rfl⟩ hI hN hK hS (rc_9 hI hq1323 List.not_mem_nil) rfl rfl hl.1 rfl (Nat.le_of_ble_eq_true rfl) dX11_asks_83 ⟨Nat.zero_le _, Nat.zero_le _⟩ (fun r1342 H locs hp hI hS => ?_)
        have hpost : True := trivial
        rw [hQ]
        exact W.iret (v := r1342) hx hb hr (fun t ht hW => ⟨⟨r1342, (), rfl, hpost, by rw [ht]; exact hI, hN.warm hW, va_K.moved hW.alike hK⟩, hS.F ht⟩) hS.2.2 dX11_asks_86
      have k1343 := iv_ne (X := x3.toInt) (Y := 2) rfl (by decide) c1309
      by_cases c1344 : x3 = 3
      · skip
        have k1345 := iv_eq (X := x3.toInt) (Y := 3) rfl (by decide) c1344
        refine lv_tableIn (tgt := 87) (off := 70) hx hb dX11_asks_17 (by omega) (by omega) (by rw [k1345]; rfl) (by decide) ?_
        refine lv_aload_n hx hb dX11_asks_87 rfl (lv_at hl 0 rfl) ?_
        obtain ⟨a1346, a1349, a1351, a1353, a1355, a1357, a1359, a1361, a1363, a1365, a1367, w1369, w1372, w1373, w1374, w1375, hO, hq1347, hq1348, hq1350, hq1352, hq1354, hq1356, hq1358, hq1360, hq1362, hq1364, hq1366, hq1368, ⟨k1370, k1371⟩, k1376⟩ := op_15 hI hG0 List.not_mem_nil
        have hI := th_I.weak (a := h0) hI
        refine th_get hx hb hts inT11 hown hK hO rfl 6 (by decide) (hts _ (tb_c wd_351)) rfl rfl dX11_asks_88 ?_
        refine lv_iload_n hx hb dX11_asks_91 rfl (lv_at hl 1 rfl) ?_
        refine lv_iload_n hx hb dX11_asks_92 rfl (lv_at hl 2 rfl) ?_
        refine lv_iconst (v := 0) hx hb dX11_asks_93 (by decide) ?_
        have hI := th_I.close hI hG0 hO (ok_15 hq1347 hq1348 hq1350 hq1352 hq1354 hq1356 hq1358 hq1360 hq1362 hq1364 hq1366 hq1368 ⟨by omega, by omega⟩ k1376)
        refine th_cVi (As := [.int x1, .int x2, .int 0]) (rest := []) (n := 3) (d := 4) ⟨hx, hb, hml, hown, hts⟩ (c_X7_tollAt l E D G a1357 hq1358 x1 x2 0) wd_814 wd_815 wd_816 wd_6 wd_817 (by decide +kernel) ⟨by rw [hR]; exact Nat.le_of_ble_eq_true rfl, by rw [hR]; exact Nat.le_of_ble_eq_true rfl⟩ hI hN hK hS (rc_9 hI hq1358 List.not_mem_nil) rfl rfl hl.1 rfl (Nat.le_of_ble_eq_true rfl) dX11_asks_94 ⟨Nat.zero_le _, Nat.zero_le _⟩ (fun r1377 H locs hp hI hS => ?_)
        have hpost : True := trivial
        rw [hQ]
        exact W.iret (v := r1377) hx hb hr (fun t ht hW => ⟨⟨r1377, (), rfl, hpost, by rw [ht]; exact hI, hN.warm hW, va_K.moved hW.alike hK⟩, hS.F ht⟩) hS.2.2 dX11_asks_97
      have k1378 := iv_ne (X := x3.toInt) (Y := 3) rfl (by decide) c1344
      refine lv_tableOut (tgt := 98) hx hb dX11_asks_17 (by omega) (by decide) ?_
      refine lv_iconst (v := (-1)) hx hb dX11_asks_98 (by decide) ?_
      have hpost : True := trivial
      rw [hQ]
      exact W.iret (v := (-1)) hx hb hr (fun t ht hW => ⟨⟨(-1), (), rfl, hpost, by rw [ht]; exact hI, hN.warm hW, va_K.moved hW.alike hK⟩, hS.F ht⟩) hS.2.2 dX11_asks_99
    · skip
      try simp only [rg, not_and, Int.not_le] at hp
      have hp1379 := hp
      refine lv_if_ne (tgt := 16) hx hb dX11_asks_11 (by decide) (fun c => absurd c (by decide)) (fun _ => ?_)
      exact J_14 s.heap locs ls  (lv_sub hl [0, 1, 2, 3] rfl)  hI hS
  · skip
    try simp only [rg, not_and, Int.not_le] at hp
    have hp1380 := hp
    refine lv_if_eq (tgt := 14) hx hb dX11_asks_4 (by decide) (fun _ => ?_) (fun c => absurd c (by decide))
    exact J_14 s.heap locs ls  (lv_sub hl [0, 1, 2, 3] rfl)  hI hS
theorem dX11_where_0g : (decode cX11_where 0 = .ok (.iload_n 1, 1)) ∧ (decode cX11_where 1 = .ok (.invokestatic 106, 3)) ∧ (decode cX11_where 4 = .ok (.ifCond .eq 22, 3)) ∧ (decode cX11_where 7 = .ok (.iload_n 2, 1)) ∧ (decode cX11_where 8 = .ok (.invokestatic 211, 3)) ∧ (decode cX11_where 11 = .ok (.ifCond .eq 15, 3)) ∧ (decode cX11_where 14 = .ok (.iload_n 3, 1)) ∧ (decode cX11_where 15 = .ok (.invokestatic 226, 3)) ∧ (decode cX11_where 18 = .ok (.ifCond .eq 8, 3)) ∧ (decode cX11_where 21 = .ok (.iload_n 3, 1)) := by decide +kernel
theorem dX11_where_0 : decode cX11_where 0 = .ok (.iload_n 1, 1) := dX11_where_0g.1
theorem dX11_where_1 : decode cX11_where 1 = .ok (.invokestatic 106, 3) := dX11_where_0g.2.1
theorem dX11_where_4 : decode cX11_where 4 = .ok (.ifCond .eq 22, 3) := dX11_where_0g.2.2.1
theorem dX11_where_7 : decode cX11_where 7 = .ok (.iload_n 2, 1) := dX11_where_0g.2.2.2.1
theorem dX11_where_8 : decode cX11_where 8 = .ok (.invokestatic 211, 3) := dX11_where_0g.2.2.2.2.1
theorem dX11_where_11 : decode cX11_where 11 = .ok (.ifCond .eq 15, 3) := dX11_where_0g.2.2.2.2.2.1
theorem dX11_where_14 : decode cX11_where 14 = .ok (.iload_n 3, 1) := dX11_where_0g.2.2.2.2.2.2.1
theorem dX11_where_15 : decode cX11_where 15 = .ok (.invokestatic 226, 3) := dX11_where_0g.2.2.2.2.2.2.2.1
theorem dX11_where_18 : decode cX11_where 18 = .ok (.ifCond .eq 8, 3) := dX11_where_0g.2.2.2.2.2.2.2.2.1
theorem dX11_where_21 : decode cX11_where 21 = .ok (.iload_n 3, 1) := dX11_where_0g.2.2.2.2.2.2.2.2.2
theorem dX11_where_22g : (decode cX11_where 22 = .ok (.iload_n 2, 1)) ∧ (decode cX11_where 23 = .ok (.if_icmp .ge 5, 3)) ∧ (decode cX11_where 26 = .ok (.iconst (-1), 1)) ∧ (decode cX11_where 27 = .ok (.ireturn, 1)) ∧ (decode cX11_where 28 = .ok (.aload_n 0, 1)) ∧ (decode cX11_where 29 = .ok (.getfield 51, 3)) ∧ (decode cX11_where 32 = .ok (.iload_n 1, 1)) ∧ (decode cX11_where 33 = .ok (.iload_n 2, 1)) ∧ (decode cX11_where 34 = .ok (.iload_n 3, 1)) ∧ (decode cX11_where 35 = .ok (.invokevirtual 229, 3)) := by decide +kernel
theorem dX11_where_22 : decode cX11_where 22 = .ok (.iload_n 2, 1) := dX11_where_22g.1
theorem dX11_where_23 : decode cX11_where 23 = .ok (.if_icmp .ge 5, 3) := dX11_where_22g.2.1
theorem dX11_where_26 : decode cX11_where 26 = .ok (.iconst (-1), 1) := dX11_where_22g.2.2.1
theorem dX11_where_27 : decode cX11_where 27 = .ok (.ireturn, 1) := dX11_where_22g.2.2.2.1
theorem dX11_where_28 : decode cX11_where 28 = .ok (.aload_n 0, 1) := dX11_where_22g.2.2.2.2.1
theorem dX11_where_29 : decode cX11_where 29 = .ok (.getfield 51, 3) := dX11_where_22g.2.2.2.2.2.1
theorem dX11_where_32 : decode cX11_where 32 = .ok (.iload_n 1, 1) := dX11_where_22g.2.2.2.2.2.2.1
theorem dX11_where_33 : decode cX11_where 33 = .ok (.iload_n 2, 1) := dX11_where_22g.2.2.2.2.2.2.2.1
theorem dX11_where_34 : decode cX11_where 34 = .ok (.iload_n 3, 1) := dX11_where_22g.2.2.2.2.2.2.2.2.1
theorem dX11_where_35 : decode cX11_where 35 = .ok (.invokevirtual 229, 3) := dX11_where_22g.2.2.2.2.2.2.2.2.2
theorem dX11_where_38 : decode cX11_where 38 = .ok (.ireturn, 1) := by decide +kernel
set_option maxHeartbeats 4000000 in
set_option maxRecDepth 100000 in
theorem c_X11_where (l : Launch) (E : Nat → Nat) (D : va_G) (G : th_G) (h0 n : Nat) (hG0 : G h0 = some (15, n)) (x1 x2 x3 : Int32) : Met l yX11_where (tb (.code yX11_where cX11_where 4 (some .int))) (rm 6) (va_Pc [.ref h0, .int x1, .int x2, .int x3] (th_P E D G)) (QI E D G (fun r => True)) 0 0 (th_A G) := by
  refine Met.ofW (cc := cX11_where) (maxL := 4) (ret := (some .int)) (by decide) rfl ?_
  intro p e s m args below meth c s₁ B hml hv
  obtain ⟨hav, hI, hN, hK⟩ := hv
  have hx := B.exec
  have hb := B.bytes
  have hr := B.returns
  have hts := atoms_spec (ws := tb (.code yX11_where cX11_where 4 (some .int))) B.pre
  have hown : s.vm.findClass RX11 = some m.cls := findClass_of_methodNamed B.named
  have hlocks := B.notSynchronized
  have hS : va_S (th_A G) s.heap s.heap [] := va_S.rf
  have hl := lv_entry ([.ref h0, .int x1, .int x2, .int x3]) (n := 4) (Nat.le_of_ble_eq_true rfl)
  rw [show entryFrame m args 4 = entryFrame m ([.ref h0, .int x1, .int x2, .int x3] : List Value).toArray 4 from by rw [hav], lg_entry_eq]
  generalize (lg_sl ([.ref h0, .int x1, .int x2, .int x3]) ++ List.replicate (4 - (lg_sl ([.ref h0, .int x1, .int x2, .int x3])).length) Slot.unset).toArray = ls at hl ⊢
  have hl : lv_has ls 4 [(0, .ref h0), (1, .int x1), (2, .int x2), (3, .int x3)] := hl
  generalize hR : (headSpec (tb (.code yX11_where cX11_where 4 (some .int))) (rm 6)).room = R
  have hR := hR.symm
  generalize hQ : MQ below (QI E D G (fun r => True)) args s 0 0 (th_A G) = QF
  have hQ := hQ.symm
  have J_26 : ∀ (H : Heap) (locs : List Loc) (ls : Array Slot) , lv_has ls 4 [(0, .ref h0), (1, .int x1), (2, .int x2), (3, .int x3)] → th_I (okC E) D G [] H → va_S (th_A G) s.heap H locs → W p l e R s m args below meth c H locs 0 0 QF (F0 m 26 ls []) := by
    intro H locs ls  hl  hI hS
    refine lv_iconst (v := (-1)) hx hb dX11_where_26 (by decide) ?_
    have hpost : True := trivial
    rw [hQ]
    exact W.iret (v := (-1)) hx hb hr (fun t ht hW => ⟨⟨(-1), (), rfl, hpost, by rw [ht]; exact hI, hN.warm hW, va_K.moved hW.alike hK⟩, hS.F ht⟩) hS.2.2 dX11_where_27
  refine lv_iload_n hx hb dX11_where_0 rfl (lv_at hl 1 rfl) ?_
  refine th_cSs (As := [.int x1]) (rest := []) (n := 1) (d := 0) ⟨hx, hb, hml, hown, hts⟩ (c_X11_isCell l s.heap x1) wd_401 wd_402 wd_1 wd_403 (by decide +kernel) ⟨by rw [hR]; exact Nat.le_of_ble_eq_true rfl, by rw [hR]; exact Nat.le_of_ble_eq_true rfl⟩ hN hS rfl hl.1 rfl (Nat.le_of_ble_eq_true rfl) dX11_where_1 ⟨Nat.zero_le _, Nat.zero_le _⟩ (fun r353 locs hp hS => ?_)
  rcases hp with ⟨rfl, hp⟩ | ⟨rfl, hp⟩
  · skip
    try simp only [rg, not_and, Int.not_le] at hp
    have hp354 := hp
    refine lv_if_eq (tgt := 26) hx hb dX11_where_4 (by decide) (fun c => absurd c (by decide)) (fun _ => ?_)
    refine lv_iload_n hx hb dX11_where_7 rfl (lv_at hl 2 rfl) ?_
    refine th_cSs (As := [.int x2]) (rest := []) (n := 1) (d := 0) ⟨hx, hb, hml, hown, hts⟩ (c_X11_isHour l s.heap x2) wd_466 wd_467 wd_1 wd_468 (by decide +kernel) ⟨by rw [hR]; exact Nat.le_of_ble_eq_true rfl, by rw [hR]; exact Nat.le_of_ble_eq_true rfl⟩ hN hS rfl hl.1 rfl (Nat.le_of_ble_eq_true rfl) dX11_where_8 ⟨Nat.zero_le _, Nat.zero_le _⟩ (fun r355 locs hp hS => ?_)
    rcases hp with ⟨rfl, hp⟩ | ⟨rfl, hp⟩
    · skip
      try simp only [rg, not_and, Int.not_le] at hp
      have hp356 := hp
      refine lv_if_eq (tgt := 26) hx hb dX11_where_11 (by decide) (fun c => absurd c (by decide)) (fun _ => ?_)
      refine lv_iload_n hx hb dX11_where_14 rfl (lv_at hl 3 rfl) ?_
      refine th_cSs (As := [.int x3]) (rest := []) (n := 1) (d := 0) ⟨hx, hb, hml, hown, hts⟩ (c_X11_isMoment l s.heap x3) wd_826 wd_827 wd_1 wd_828 (by decide +kernel) ⟨by rw [hR]; exact Nat.le_of_ble_eq_true rfl, by rw [hR]; exact Nat.le_of_ble_eq_true rfl⟩ hN hS rfl hl.1 rfl (Nat.le_of_ble_eq_true rfl) dX11_where_15 ⟨Nat.zero_le _, Nat.zero_le _⟩ (fun r357 locs hp hS => ?_)
      rcases hp with ⟨rfl, hp⟩ | ⟨rfl, hp⟩
      · skip
        try simp only [rg, not_and, Int.not_le] at hp
        have hp358 := hp
        refine lv_if_eq (tgt := 26) hx hb dX11_where_18 (by decide) (fun c => absurd c (by decide)) (fun _ => ?_)
        refine lv_iload_n hx hb dX11_where_21 rfl (lv_at hl 3 rfl) ?_
        refine lv_iload_n hx hb dX11_where_22 rfl (lv_at hl 2 rfl) ?_
        refine lv_icmp_ge (tgt := 28) hx hb dX11_where_23 (by decide) (fun c359 => ?_) (fun c359 => ?_)
        · skip
          have k360 := iv_le (X := x2.toInt) (Y := x3.toInt) rfl rfl c359
          refine lv_aload_n hx hb dX11_where_28 rfl (lv_at hl 0 rfl) ?_
          obtain ⟨a361, a364, a366, a368, a370, a372, a374, a376, a378, a380, a382, w384, w387, w388, w389, w390, hO, hq362, hq363, hq365, hq367, hq369, hq371, hq373, hq375, hq377, hq379, hq381, hq383, ⟨k385, k386⟩, k391⟩ := op_15 hI hG0 List.not_mem_nil
          have hI := th_I.weak (a := h0) hI
          refine th_get hx hb hts inT11 hown hK hO rfl 7 (by decide) (hts _ (tb_c wd_352)) rfl rfl dX11_where_29 ?_
          refine lv_iload_n hx hb dX11_where_32 rfl (lv_at hl 1 rfl) ?_
          refine lv_iload_n hx hb dX11_where_33 rfl (lv_at hl 2 rfl) ?_
          refine lv_iload_n hx hb dX11_where_34 rfl (lv_at hl 3 rfl) ?_
          have hI := th_I.close hI hG0 hO (ok_15 hq362 hq363 hq365 hq367 hq369 hq371 hq373 hq375 hq377 hq379 hq381 hq383 ⟨by omega, by omega⟩ k391)
          refine th_cVi (As := [.int x1, .int x2, .int x3]) (rest := []) (n := 3) (d := 5) ⟨hx, hb, hml, hown, hts⟩ (c_X9_drift l E D G a374 hq375 x1 x2 x3) wd_829 wd_830 wd_831 wd_8 wd_832 (by decide +kernel) ⟨by rw [hR]; exact Nat.le_of_ble_eq_true rfl, by rw [hR]; exact Nat.le_of_ble_eq_true rfl⟩ hI hN hK hS (rc_10 hI hq375 List.not_mem_nil) rfl rfl hl.1 rfl (Nat.le_of_ble_eq_true rfl) dX11_where_35 ⟨Nat.zero_le _, Nat.zero_le _⟩ (fun r392 H locs hp hI hS => ?_)
          have hpost : True := trivial
          rw [hQ]
          exact W.iret (v := r392) hx hb hr (fun t ht hW => ⟨⟨r392, (), rfl, hpost, by rw [ht]; exact hI, hN.warm hW, va_K.moved hW.alike hK⟩, hS.F ht⟩) hS.2.2 dX11_where_38
        · skip
          have k393 := iv_nle (X := x2.toInt) (Y := x3.toInt) rfl rfl c359
          exact J_26 s.heap locs ls  (lv_sub hl [0, 1, 2, 3] rfl)  hI hS
      · skip
        try simp only [rg, not_and, Int.not_le] at hp
        have hp394 := hp
        refine lv_if_eq (tgt := 26) hx hb dX11_where_18 (by decide) (fun _ => ?_) (fun c => absurd c (by decide))
        exact J_26 s.heap locs ls  (lv_sub hl [0, 1, 2, 3] rfl)  hI hS
    · skip
      try simp only [rg, not_and, Int.not_le] at hp
      have hp395 := hp
      refine lv_if_eq (tgt := 26) hx hb dX11_where_11 (by decide) (fun _ => ?_) (fun c => absurd c (by decide))
      exact J_26 s.heap locs ls  (lv_sub hl [0, 1, 2, 3] rfl)  hI hS
  · skip
    try simp only [rg, not_and, Int.not_le] at hp
    have hp396 := hp
    refine lv_if_eq (tgt := 26) hx hb dX11_where_4 (by decide) (fun _ => ?_) (fun c => absurd c (by decide))
    exact J_26 s.heap locs ls  (lv_sub hl [0, 1, 2, 3] rfl)  hI hS
theorem dX11_below_0g : (decode cX11_below 0 = .ok (.iload_n 1, 1)) ∧ (decode cX11_below 1 = .ok (.invokestatic 106, 3)) ∧ (decode cX11_below 4 = .ok (.ifCond .eq 17, 3)) ∧ (decode cX11_below 7 = .ok (.iload_n 2, 1)) ∧ (decode cX11_below 8 = .ok (.invokestatic 211, 3)) ∧ (decode cX11_below 11 = .ok (.ifCond .eq 10, 3)) ∧ (decode cX11_below 14 = .ok (.iload_n 3, 1)) ∧ (decode cX11_below 15 = .ok (.invokestatic 226, 3)) ∧ (decode cX11_below 18 = .ok (.ifCond .ne 5, 3)) ∧ (decode cX11_below 21 = .ok (.iconst (-1), 1)) := by decide +kernel
theorem dX11_below_0 : decode cX11_below 0 = .ok (.iload_n 1, 1) := dX11_below_0g.1
theorem dX11_below_1 : decode cX11_below 1 = .ok (.invokestatic 106, 3) := dX11_below_0g.2.1
theorem dX11_below_4 : decode cX11_below 4 = .ok (.ifCond .eq 17, 3) := dX11_below_0g.2.2.1
theorem dX11_below_7 : decode cX11_below 7 = .ok (.iload_n 2, 1) := dX11_below_0g.2.2.2.1
theorem dX11_below_8 : decode cX11_below 8 = .ok (.invokestatic 211, 3) := dX11_below_0g.2.2.2.2.1
theorem dX11_below_11 : decode cX11_below 11 = .ok (.ifCond .eq 10, 3) := dX11_below_0g.2.2.2.2.2.1
theorem dX11_below_14 : decode cX11_below 14 = .ok (.iload_n 3, 1) := dX11_below_0g.2.2.2.2.2.2.1
theorem dX11_below_15 : decode cX11_below 15 = .ok (.invokestatic 226, 3) := dX11_below_0g.2.2.2.2.2.2.2.1
theorem dX11_below_18 : decode cX11_below 18 = .ok (.ifCond .ne 5, 3) := dX11_below_0g.2.2.2.2.2.2.2.2.1
theorem dX11_below_21 : decode cX11_below 21 = .ok (.iconst (-1), 1) := dX11_below_0g.2.2.2.2.2.2.2.2.2
theorem dX11_below_22g : (decode cX11_below 22 = .ok (.ireturn, 1)) ∧ (decode cX11_below 23 = .ok (.aload_n 0, 1)) ∧ (decode cX11_below 24 = .ok (.getfield 51, 3)) ∧ (decode cX11_below 27 = .ok (.iload_n 1, 1)) ∧ (decode cX11_below 28 = .ok (.iload_n 2, 1)) ∧ (decode cX11_below 29 = .ok (.iload_n 2, 1)) ∧ (decode cX11_below 30 = .ok (.iload_n 3, 1)) ∧ (decode cX11_below 31 = .ok (.iadd, 1)) ∧ (decode cX11_below 32 = .ok (.bipush 96, 2)) ∧ (decode cX11_below 34 = .ok (.invokestatic 232, 3)) := by decide +kernel
theorem dX11_below_22 : decode cX11_below 22 = .ok (.ireturn, 1) := dX11_below_22g.1
theorem dX11_below_23 : decode cX11_below 23 = .ok (.aload_n 0, 1) := dX11_below_22g.2.1
theorem dX11_below_24 : decode cX11_below 24 = .ok (.getfield 51, 3) := dX11_below_22g.2.2.1
theorem dX11_below_27 : decode cX11_below 27 = .ok (.iload_n 1, 1) := dX11_below_22g.2.2.2.1
theorem dX11_below_28 : decode cX11_below 28 = .ok (.iload_n 2, 1) := dX11_below_22g.2.2.2.2.1
theorem dX11_below_29 : decode cX11_below 29 = .ok (.iload_n 2, 1) := dX11_below_22g.2.2.2.2.2.1
theorem dX11_below_30 : decode cX11_below 30 = .ok (.iload_n 3, 1) := dX11_below_22g.2.2.2.2.2.2.1
theorem dX11_below_31 : decode cX11_below 31 = .ok (.iadd, 1) := dX11_below_22g.2.2.2.2.2.2.2.1
theorem dX11_below_32 : decode cX11_below 32 = .ok (.bipush 96, 2) := dX11_below_22g.2.2.2.2.2.2.2.2.1
theorem dX11_below_34 : decode cX11_below 34 = .ok (.invokestatic 232, 3) := dX11_below_22g.2.2.2.2.2.2.2.2.2
theorem dX11_below_37g : (decode cX11_below 37 = .ok (.invokevirtual 237, 3)) ∧ (decode cX11_below 40 = .ok (.ireturn, 1)) := by decide +kernel
theorem dX11_below_37 : decode cX11_below 37 = .ok (.invokevirtual 237, 3) := dX11_below_37g.1
theorem dX11_below_40 : decode cX11_below 40 = .ok (.ireturn, 1) := dX11_below_37g.2
set_option maxHeartbeats 4000000 in
set_option maxRecDepth 100000 in
theorem c_X11_below (l : Launch) (E : Nat → Nat) (D : va_G) (G : th_G) (h0 n : Nat) (hG0 : G h0 = some (15, n)) (x1 x2 x3 : Int32) : Met l yX11_below (tb (.code yX11_below cX11_below 4 (some .int))) (rm 6) (va_Pc [.ref h0, .int x1, .int x2, .int x3] (th_P E D G)) (QI E D G (fun r => True)) 0 0 (th_A G) := by
  refine Met.ofW (cc := cX11_below) (maxL := 4) (ret := (some .int)) (by decide) rfl ?_
  intro p e s m args below meth c s₁ B hml hv
  obtain ⟨hav, hI, hN, hK⟩ := hv
  have hx := B.exec
  have hb := B.bytes
  have hr := B.returns
  have hts := atoms_spec (ws := tb (.code yX11_below cX11_below 4 (some .int))) B.pre
  have hown : s.vm.findClass RX11 = some m.cls := findClass_of_methodNamed B.named
  have hlocks := B.notSynchronized
  have hS : va_S (th_A G) s.heap s.heap [] := va_S.rf
  have hl := lv_entry ([.ref h0, .int x1, .int x2, .int x3]) (n := 4) (Nat.le_of_ble_eq_true rfl)
  rw [show entryFrame m args 4 = entryFrame m ([.ref h0, .int x1, .int x2, .int x3] : List Value).toArray 4 from by rw [hav], lg_entry_eq]
  generalize (lg_sl ([.ref h0, .int x1, .int x2, .int x3]) ++ List.replicate (4 - (lg_sl ([.ref h0, .int x1, .int x2, .int x3])).length) Slot.unset).toArray = ls at hl ⊢
  have hl : lv_has ls 4 [(0, .ref h0), (1, .int x1), (2, .int x2), (3, .int x3)] := hl
  generalize hR : (headSpec (tb (.code yX11_below cX11_below 4 (some .int))) (rm 6)).room = R
  have hR := hR.symm
  generalize hQ : MQ below (QI E D G (fun r => True)) args s 0 0 (th_A G) = QF
  have hQ := hQ.symm
  have J_21 : ∀ (H : Heap) (locs : List Loc) (ls : Array Slot) , lv_has ls 4 [(0, .ref h0), (1, .int x1), (2, .int x2), (3, .int x3)] → th_I (okC E) D G [] H → va_S (th_A G) s.heap H locs → W p l e R s m args below meth c H locs 0 0 QF (F0 m 21 ls []) := by
    intro H locs ls  hl  hI hS
    refine lv_iconst (v := (-1)) hx hb dX11_below_21 (by decide) ?_
    have hpost : True := trivial
    rw [hQ]
    exact W.iret (v := (-1)) hx hb hr (fun t ht hW => ⟨⟨(-1), (), rfl, hpost, by rw [ht]; exact hI, hN.warm hW, va_K.moved hW.alike hK⟩, hS.F ht⟩) hS.2.2 dX11_below_22
  refine lv_iload_n hx hb dX11_below_0 rfl (lv_at hl 1 rfl) ?_
  refine th_cSs (As := [.int x1]) (rest := []) (n := 1) (d := 0) ⟨hx, hb, hml, hown, hts⟩ (c_X11_isCell l s.heap x1) wd_401 wd_402 wd_1 wd_403 (by decide +kernel) ⟨by rw [hR]; exact Nat.le_of_ble_eq_true rfl, by rw [hR]; exact Nat.le_of_ble_eq_true rfl⟩ hN hS rfl hl.1 rfl (Nat.le_of_ble_eq_true rfl) dX11_below_1 ⟨Nat.zero_le _, Nat.zero_le _⟩ (fun r361 locs hp hS => ?_)
  rcases hp with ⟨rfl, hp⟩ | ⟨rfl, hp⟩
  · skip
    try simp only [rg, not_and, Int.not_le] at hp
    have hp362 := hp
    refine lv_if_eq (tgt := 21) hx hb dX11_below_4 (by decide) (fun c => absurd c (by decide)) (fun _ => ?_)
    refine lv_iload_n hx hb dX11_below_7 rfl (lv_at hl 2 rfl) ?_
    refine th_cSs (As := [.int x2]) (rest := []) (n := 1) (d := 0) ⟨hx, hb, hml, hown, hts⟩ (c_X11_isHour l s.heap x2) wd_466 wd_467 wd_1 wd_468 (by decide +kernel) ⟨by rw [hR]; exact Nat.le_of_ble_eq_true rfl, by rw [hR]; exact Nat.le_of_ble_eq_true rfl⟩ hN hS rfl hl.1 rfl (Nat.le_of_ble_eq_true rfl) dX11_below_8 ⟨Nat.zero_le _, Nat.zero_le _⟩ (fun r363 locs hp hS => ?_)
    rcases hp with ⟨rfl, hp⟩ | ⟨rfl, hp⟩
    · skip
      try simp only [rg, not_and, Int.not_le] at hp
      have hp364 := hp
      refine lv_if_eq (tgt := 21) hx hb dX11_below_11 (by decide) (fun c => absurd c (by decide)) (fun _ => ?_)
      refine lv_iload_n hx hb dX11_below_14 rfl (lv_at hl 3 rfl) ?_
      refine th_cSs (As := [.int x3]) (rest := []) (n := 1) (d := 0) ⟨hx, hb, hml, hown, hts⟩ (c_X11_isMoment l s.heap x3) wd_826 wd_827 wd_1 wd_828 (by decide +kernel) ⟨by rw [hR]; exact Nat.le_of_ble_eq_true rfl, by rw [hR]; exact Nat.le_of_ble_eq_true rfl⟩ hN hS rfl hl.1 rfl (Nat.le_of_ble_eq_true rfl) dX11_below_15 ⟨Nat.zero_le _, Nat.zero_le _⟩ (fun r365 locs hp hS => ?_)
      rcases hp with ⟨rfl, hp⟩ | ⟨rfl, hp⟩
      · skip
        try simp only [rg, not_and, Int.not_le] at hp
        have hp366 := hp
        refine lv_if_ne (tgt := 23) hx hb dX11_below_18 (by decide) (fun _ => ?_) (fun c => absurd c (by decide))
        refine lv_aload_n hx hb dX11_below_23 rfl (lv_at hl 0 rfl) ?_
        obtain ⟨a367, a370, a372, a374, a376, a378, a380, a382, a384, a386, a388, w390, w393, w394, w395, w396, hO, hq368, hq369, hq371, hq373, hq375, hq377, hq379, hq381, hq383, hq385, hq387, hq389, ⟨k391, k392⟩, k397⟩ := op_15 hI hG0 List.not_mem_nil
        have hI := th_I.weak (a := h0) hI
        refine th_get hx hb hts inT11 hown hK hO rfl 7 (by decide) (hts _ (tb_c wd_352)) rfl rfl dX11_below_24 ?_
        refine lv_iload_n hx hb dX11_below_27 rfl (lv_at hl 1 rfl) ?_
        refine lv_iload_n hx hb dX11_below_28 rfl (lv_at hl 2 rfl) ?_
        refine lv_iload_n hx hb dX11_below_29 rfl (lv_at hl 2 rfl) ?_
        refine lv_iload_n hx hb dX11_below_30 rfl (lv_at hl 3 rfl) ?_
        refine lv_iadd hx hb dX11_below_31 ?_
        refine lv_topi (fun v398 e399 => ?_)
        have tv398 : v398.toInt = x2.toInt + x3.toInt := iv_add rfl rfl e399 (by omega) (by omega)
        refine lv_bipush (v := 96) hx hb dX11_below_32 (by decide) ?_
        refine va_mmin hx hb (hml.trans hl.1.symm) hown (hts _ (tb_c wd_838)) (hts _ (tb_c wd_583)) (hts _ (tb_c wd_4)) (hts _ (tb_c wd_584)) (by rw [hR]; exact Nat.le_of_ble_eq_true rfl) (by rw [hR]; exact Nat.le_of_ble_eq_true rfl) (Nat.zero_le _) (Nat.zero_le _) dX11_below_34 ?_
        refine lv_topi (fun v400 e401 => ?_)
        have tv400 := iv_min e401
        rw [show (96 : Int32).toInt = 96 from by decide] at tv400
        have hI := th_I.close hI hG0 hO (ok_15 hq368 hq369 hq371 hq373 hq375 hq377 hq379 hq381 hq383 hq385 hq387 hq389 ⟨by omega, by omega⟩ k397)
        refine th_cVi (As := [.int x1, .int x2, .int v400]) (rest := []) (n := 3) (d := 5) ⟨hx, hb, hml, hown, hts⟩ (c_X9_downstream l E D G a380 hq381 x1 x2 v400) wd_839 wd_840 wd_841 wd_8 wd_842 (by decide +kernel) ⟨by rw [hR]; exact Nat.le_of_ble_eq_true rfl, by rw [hR]; exact Nat.le_of_ble_eq_true rfl⟩ hI hN hK hS (rc_10 hI hq381 List.not_mem_nil) rfl rfl hl.1 rfl (Nat.le_of_ble_eq_true rfl) dX11_below_37 ⟨Nat.zero_le _, Nat.zero_le _⟩ (fun r402 H locs hp hI hS => ?_)
        have hpost : True := trivial
        rw [hQ]
        exact W.iret (v := r402) hx hb hr (fun t ht hW => ⟨⟨r402, (), rfl, hpost, by rw [ht]; exact hI, hN.warm hW, va_K.moved hW.alike hK⟩, hS.F ht⟩) hS.2.2 dX11_below_40
      · skip
        try simp only [rg, not_and, Int.not_le] at hp
        have hp403 := hp
        refine lv_if_ne (tgt := 23) hx hb dX11_below_18 (by decide) (fun c => absurd c (by decide)) (fun _ => ?_)
        exact J_21 s.heap locs ls  (lv_sub hl [0, 1, 2, 3] rfl)  hI hS
    · skip
      try simp only [rg, not_and, Int.not_le] at hp
      have hp404 := hp
      refine lv_if_eq (tgt := 21) hx hb dX11_below_11 (by decide) (fun _ => ?_) (fun c => absurd c (by decide))
      exact J_21 s.heap locs ls  (lv_sub hl [0, 1, 2, 3] rfl)  hI hS
  · skip
    try simp only [rg, not_and, Int.not_le] at hp
    have hp405 := hp
    refine lv_if_eq (tgt := 21) hx hb dX11_below_4 (by decide) (fun _ => ?_) (fun c => absurd c (by decide))
    exact J_21 s.heap locs ls  (lv_sub hl [0, 1, 2, 3] rfl)  hI hS
theorem dX11_sources_0g : (decode cX11_sources 0 = .ok (.iload_n 1, 1)) ∧ (decode cX11_sources 1 = .ok (.invokestatic 240, 3)) ∧ (decode cX11_sources 4 = .ok (.ifCond .eq 22, 3)) ∧ (decode cX11_sources 7 = .ok (.iload_n 2, 1)) ∧ (decode cX11_sources 8 = .ok (.invokestatic 211, 3)) ∧ (decode cX11_sources 11 = .ok (.ifCond .eq 15, 3)) ∧ (decode cX11_sources 14 = .ok (.iload_n 3, 1)) ∧ (decode cX11_sources 15 = .ok (.invokestatic 211, 3)) ∧ (decode cX11_sources 18 = .ok (.ifCond .eq 8, 3)) ∧ (decode cX11_sources 21 = .ok (.iload_n 3, 1)) := by decide +kernel
theorem dX11_sources_0 : decode cX11_sources 0 = .ok (.iload_n 1, 1) := dX11_sources_0g.1
theorem dX11_sources_1 : decode cX11_sources 1 = .ok (.invokestatic 240, 3) := dX11_sources_0g.2.1
theorem dX11_sources_4 : decode cX11_sources 4 = .ok (.ifCond .eq 22, 3) := dX11_sources_0g.2.2.1
theorem dX11_sources_7 : decode cX11_sources 7 = .ok (.iload_n 2, 1) := dX11_sources_0g.2.2.2.1
theorem dX11_sources_8 : decode cX11_sources 8 = .ok (.invokestatic 211, 3) := dX11_sources_0g.2.2.2.2.1
theorem dX11_sources_11 : decode cX11_sources 11 = .ok (.ifCond .eq 15, 3) := dX11_sources_0g.2.2.2.2.2.1
theorem dX11_sources_14 : decode cX11_sources 14 = .ok (.iload_n 3, 1) := dX11_sources_0g.2.2.2.2.2.2.1
theorem dX11_sources_15 : decode cX11_sources 15 = .ok (.invokestatic 211, 3) := dX11_sources_0g.2.2.2.2.2.2.2.1
theorem dX11_sources_18 : decode cX11_sources 18 = .ok (.ifCond .eq 8, 3) := dX11_sources_0g.2.2.2.2.2.2.2.2.1
theorem dX11_sources_21 : decode cX11_sources 21 = .ok (.iload_n 3, 1) := dX11_sources_0g.2.2.2.2.2.2.2.2.2
theorem dX11_sources_22g : (decode cX11_sources 22 = .ok (.iload_n 2, 1)) ∧ (decode cX11_sources 23 = .ok (.if_icmp .le 5, 3)) ∧ (decode cX11_sources 26 = .ok (.iconst (-1), 1)) ∧ (decode cX11_sources 27 = .ok (.ireturn, 1)) ∧ (decode cX11_sources 28 = .ok (.aload_n 0, 1)) ∧ (decode cX11_sources 29 = .ok (.getfield 51, 3)) ∧ (decode cX11_sources 32 = .ok (.iload_n 1, 1)) ∧ (decode cX11_sources 33 = .ok (.iload_n 2, 1)) ∧ (decode cX11_sources 34 = .ok (.iload_n 3, 1)) ∧ (decode cX11_sources 35 = .ok (.invokevirtual 243, 3)) := by decide +kernel
theorem dX11_sources_22 : decode cX11_sources 22 = .ok (.iload_n 2, 1) := dX11_sources_22g.1
theorem dX11_sources_23 : decode cX11_sources 23 = .ok (.if_icmp .le 5, 3) := dX11_sources_22g.2.1
theorem dX11_sources_26 : decode cX11_sources 26 = .ok (.iconst (-1), 1) := dX11_sources_22g.2.2.1
theorem dX11_sources_27 : decode cX11_sources 27 = .ok (.ireturn, 1) := dX11_sources_22g.2.2.2.1
theorem dX11_sources_28 : decode cX11_sources 28 = .ok (.aload_n 0, 1) := dX11_sources_22g.2.2.2.2.1
theorem dX11_sources_29 : decode cX11_sources 29 = .ok (.getfield 51, 3) := dX11_sources_22g.2.2.2.2.2.1
theorem dX11_sources_32 : decode cX11_sources 32 = .ok (.iload_n 1, 1) := dX11_sources_22g.2.2.2.2.2.2.1
theorem dX11_sources_33 : decode cX11_sources 33 = .ok (.iload_n 2, 1) := dX11_sources_22g.2.2.2.2.2.2.2.1
theorem dX11_sources_34 : decode cX11_sources 34 = .ok (.iload_n 3, 1) := dX11_sources_22g.2.2.2.2.2.2.2.2.1
theorem dX11_sources_35 : decode cX11_sources 35 = .ok (.invokevirtual 243, 3) := dX11_sources_22g.2.2.2.2.2.2.2.2.2
theorem dX11_sources_38 : decode cX11_sources 38 = .ok (.ireturn, 1) := by decide +kernel
set_option maxHeartbeats 4000000 in
set_option maxRecDepth 100000 in
theorem c_X11_sources (l : Launch) (E : Nat → Nat) (D : va_G) (G : th_G) (h0 n : Nat) (hG0 : G h0 = some (15, n)) (x1 x2 x3 : Int32) : Met l yX11_sources (tb (.code yX11_sources cX11_sources 4 (some .int))) (rm 6) (va_Pc [.ref h0, .int x1, .int x2, .int x3] (th_P E D G)) (QI E D G (fun r => True)) 0 0 (th_A G) := by
  refine Met.ofW (cc := cX11_sources) (maxL := 4) (ret := (some .int)) (by decide) rfl ?_
  intro p e s m args below meth c s₁ B hml hv
  obtain ⟨hav, hI, hN, hK⟩ := hv
  have hx := B.exec
  have hb := B.bytes
  have hr := B.returns
  have hts := atoms_spec (ws := tb (.code yX11_sources cX11_sources 4 (some .int))) B.pre
  have hown : s.vm.findClass RX11 = some m.cls := findClass_of_methodNamed B.named
  have hlocks := B.notSynchronized
  have hS : va_S (th_A G) s.heap s.heap [] := va_S.rf
  have hl := lv_entry ([.ref h0, .int x1, .int x2, .int x3]) (n := 4) (Nat.le_of_ble_eq_true rfl)
  rw [show entryFrame m args 4 = entryFrame m ([.ref h0, .int x1, .int x2, .int x3] : List Value).toArray 4 from by rw [hav], lg_entry_eq]
  generalize (lg_sl ([.ref h0, .int x1, .int x2, .int x3]) ++ List.replicate (4 - (lg_sl ([.ref h0, .int x1, .int x2, .int x3])).length) Slot.unset).toArray = ls at hl ⊢
  have hl : lv_has ls 4 [(0, .ref h0), (1, .int x1), (2, .int x2), (3, .int x3)] := hl
  generalize hR : (headSpec (tb (.code yX11_sources cX11_sources 4 (some .int))) (rm 6)).room = R
  have hR := hR.symm
  generalize hQ : MQ below (QI E D G (fun r => True)) args s 0 0 (th_A G) = QF
  have hQ := hQ.symm
  have J_26 : ∀ (H : Heap) (locs : List Loc) (ls : Array Slot) , lv_has ls 4 [(0, .ref h0), (1, .int x1), (2, .int x2), (3, .int x3)] → th_I (okC E) D G [] H → va_S (th_A G) s.heap H locs → W p l e R s m args below meth c H locs 0 0 QF (F0 m 26 ls []) := by
    intro H locs ls  hl  hI hS
    refine lv_iconst (v := (-1)) hx hb dX11_sources_26 (by decide) ?_
    have hpost : True := trivial
    rw [hQ]
    exact W.iret (v := (-1)) hx hb hr (fun t ht hW => ⟨⟨(-1), (), rfl, hpost, by rw [ht]; exact hI, hN.warm hW, va_K.moved hW.alike hK⟩, hS.F ht⟩) hS.2.2 dX11_sources_27
  refine lv_iload_n hx hb dX11_sources_0 rfl (lv_at hl 1 rfl) ?_
  refine th_cSs (As := [.int x1]) (rest := []) (n := 1) (d := 0) ⟨hx, hb, hml, hown, hts⟩ (c_X11_isPlace l s.heap x1) wd_847 wd_848 wd_1 wd_849 (by decide +kernel) ⟨by rw [hR]; exact Nat.le_of_ble_eq_true rfl, by rw [hR]; exact Nat.le_of_ble_eq_true rfl⟩ hN hS rfl hl.1 rfl (Nat.le_of_ble_eq_true rfl) dX11_sources_1 ⟨Nat.zero_le _, Nat.zero_le _⟩ (fun r353 locs hp hS => ?_)
  rcases hp with ⟨rfl, hp⟩ | ⟨rfl, hp⟩
  · skip
    try simp only [rg, not_and, Int.not_le] at hp
    have hp354 := hp
    refine lv_if_eq (tgt := 26) hx hb dX11_sources_4 (by decide) (fun c => absurd c (by decide)) (fun _ => ?_)
    refine lv_iload_n hx hb dX11_sources_7 rfl (lv_at hl 2 rfl) ?_
    refine th_cSs (As := [.int x2]) (rest := []) (n := 1) (d := 0) ⟨hx, hb, hml, hown, hts⟩ (c_X11_isHour l s.heap x2) wd_466 wd_467 wd_1 wd_468 (by decide +kernel) ⟨by rw [hR]; exact Nat.le_of_ble_eq_true rfl, by rw [hR]; exact Nat.le_of_ble_eq_true rfl⟩ hN hS rfl hl.1 rfl (Nat.le_of_ble_eq_true rfl) dX11_sources_8 ⟨Nat.zero_le _, Nat.zero_le _⟩ (fun r355 locs hp hS => ?_)
    rcases hp with ⟨rfl, hp⟩ | ⟨rfl, hp⟩
    · skip
      try simp only [rg, not_and, Int.not_le] at hp
      have hp356 := hp
      refine lv_if_eq (tgt := 26) hx hb dX11_sources_11 (by decide) (fun c => absurd c (by decide)) (fun _ => ?_)
      refine lv_iload_n hx hb dX11_sources_14 rfl (lv_at hl 3 rfl) ?_
      refine th_cSs (As := [.int x3]) (rest := []) (n := 1) (d := 0) ⟨hx, hb, hml, hown, hts⟩ (c_X11_isHour l s.heap x3) wd_466 wd_467 wd_1 wd_468 (by decide +kernel) ⟨by rw [hR]; exact Nat.le_of_ble_eq_true rfl, by rw [hR]; exact Nat.le_of_ble_eq_true rfl⟩ hN hS rfl hl.1 rfl (Nat.le_of_ble_eq_true rfl) dX11_sources_15 ⟨Nat.zero_le _, Nat.zero_le _⟩ (fun r357 locs hp hS => ?_)
      rcases hp with ⟨rfl, hp⟩ | ⟨rfl, hp⟩
      · skip
        try simp only [rg, not_and, Int.not_le] at hp
        have hp358 := hp
        refine lv_if_eq (tgt := 26) hx hb dX11_sources_18 (by decide) (fun c => absurd c (by decide)) (fun _ => ?_)
        refine lv_iload_n hx hb dX11_sources_21 rfl (lv_at hl 3 rfl) ?_
        refine lv_iload_n hx hb dX11_sources_22 rfl (lv_at hl 2 rfl) ?_
        refine lv_icmp_le (tgt := 28) hx hb dX11_sources_23 (by decide) (fun c359 => ?_) (fun c359 => ?_)
        · skip
          have k360 := iv_le (X := x3.toInt) (Y := x2.toInt) rfl rfl c359
          refine lv_aload_n hx hb dX11_sources_28 rfl (lv_at hl 0 rfl) ?_
          obtain ⟨a361, a364, a366, a368, a370, a372, a374, a376, a378, a380, a382, w384, w387, w388, w389, w390, hO, hq362, hq363, hq365, hq367, hq369, hq371, hq373, hq375, hq377, hq379, hq381, hq383, ⟨k385, k386⟩, k391⟩ := op_15 hI hG0 List.not_mem_nil
          have hI := th_I.weak (a := h0) hI
          refine th_get hx hb hts inT11 hown hK hO rfl 7 (by decide) (hts _ (tb_c wd_352)) rfl rfl dX11_sources_29 ?_
          refine lv_iload_n hx hb dX11_sources_32 rfl (lv_at hl 1 rfl) ?_
          refine lv_iload_n hx hb dX11_sources_33 rfl (lv_at hl 2 rfl) ?_
          refine lv_iload_n hx hb dX11_sources_34 rfl (lv_at hl 3 rfl) ?_
          have hI := th_I.close hI hG0 hO (ok_15 hq362 hq363 hq365 hq367 hq369 hq371 hq373 hq375 hq377 hq379 hq381 hq383 ⟨by omega, by omega⟩ k391)
          refine th_cVi (As := [.int x1, .int x2, .int x3]) (rest := []) (n := 3) (d := 5) ⟨hx, hb, hml, hown, hts⟩ (c_X9_traceBack l E D G a374 hq375 x1 x2 x3) wd_850 wd_851 wd_852 wd_8 wd_853 (by decide +kernel) ⟨by rw [hR]; exact Nat.le_of_ble_eq_true rfl, by rw [hR]; exact Nat.le_of_ble_eq_true rfl⟩ hI hN hK hS (rc_10 hI hq375 List.not_mem_nil) rfl rfl hl.1 rfl (Nat.le_of_ble_eq_true rfl) dX11_sources_35 ⟨Nat.zero_le _, Nat.zero_le _⟩ (fun r392 H locs hp hI hS => ?_)
          have hpost : True := trivial
          rw [hQ]
          exact W.iret (v := r392) hx hb hr (fun t ht hW => ⟨⟨r392, (), rfl, hpost, by rw [ht]; exact hI, hN.warm hW, va_K.moved hW.alike hK⟩, hS.F ht⟩) hS.2.2 dX11_sources_38
        · skip
          have k393 := iv_nle (X := x3.toInt) (Y := x2.toInt) rfl rfl c359
          exact J_26 s.heap locs ls  (lv_sub hl [0, 1, 2, 3] rfl)  hI hS
      · skip
        try simp only [rg, not_and, Int.not_le] at hp
        have hp394 := hp
        refine lv_if_eq (tgt := 26) hx hb dX11_sources_18 (by decide) (fun _ => ?_) (fun c => absurd c (by decide))
        exact J_26 s.heap locs ls  (lv_sub hl [0, 1, 2, 3] rfl)  hI hS
    · skip
      try simp only [rg, not_and, Int.not_le] at hp
      have hp395 := hp
      refine lv_if_eq (tgt := 26) hx hb dX11_sources_11 (by decide) (fun _ => ?_) (fun c => absurd c (by decide))
      exact J_26 s.heap locs ls  (lv_sub hl [0, 1, 2, 3] rfl)  hI hS
  · skip
    try simp only [rg, not_and, Int.not_le] at hp
    have hp396 := hp
    refine lv_if_eq (tgt := 26) hx hb dX11_sources_4 (by decide) (fun _ => ?_) (fun c => absurd c (by decide))
    exact J_26 s.heap locs ls  (lv_sub hl [0, 1, 2, 3] rfl)  hI hS
theorem dX11_boat_0g : (decode cX11_boat 0 = .ok (.iload_n 1, 1)) ∧ (decode cX11_boat 1 = .ok (.invokestatic 106, 3)) ∧ (decode cX11_boat 4 = .ok (.ifCond .eq 10, 3)) ∧ (decode cX11_boat 7 = .ok (.iload_n 2, 1)) ∧ (decode cX11_boat 8 = .ok (.invokestatic 211, 3)) ∧ (decode cX11_boat 11 = .ok (.ifCond .ne 9, 3)) ∧ (decode cX11_boat 14 = .ok (.aload_n 0, 1)) ∧ (decode cX11_boat 15 = .ok (.iconst (-1), 1)) ∧ (decode cX11_boat 16 = .ok (.invokevirtual 113, 3)) ∧ (decode cX11_boat 19 = .ok (.ireturn, 1)) := by decide +kernel
theorem dX11_boat_0 : decode cX11_boat 0 = .ok (.iload_n 1, 1) := dX11_boat_0g.1
theorem dX11_boat_1 : decode cX11_boat 1 = .ok (.invokestatic 106, 3) := dX11_boat_0g.2.1
theorem dX11_boat_4 : decode cX11_boat 4 = .ok (.ifCond .eq 10, 3) := dX11_boat_0g.2.2.1
theorem dX11_boat_7 : decode cX11_boat 7 = .ok (.iload_n 2, 1) := dX11_boat_0g.2.2.2.1
theorem dX11_boat_8 : decode cX11_boat 8 = .ok (.invokestatic 211, 3) := dX11_boat_0g.2.2.2.2.1
theorem dX11_boat_11 : decode cX11_boat 11 = .ok (.ifCond .ne 9, 3) := dX11_boat_0g.2.2.2.2.2.1
theorem dX11_boat_14 : decode cX11_boat 14 = .ok (.aload_n 0, 1) := dX11_boat_0g.2.2.2.2.2.2.1
theorem dX11_boat_15 : decode cX11_boat 15 = .ok (.iconst (-1), 1) := dX11_boat_0g.2.2.2.2.2.2.2.1
theorem dX11_boat_16 : decode cX11_boat 16 = .ok (.invokevirtual 113, 3) := dX11_boat_0g.2.2.2.2.2.2.2.2.1
theorem dX11_boat_19 : decode cX11_boat 19 = .ok (.ireturn, 1) := dX11_boat_0g.2.2.2.2.2.2.2.2.2
theorem dX11_boat_20g : (decode cX11_boat 20 = .ok (.aload_n 0, 1)) ∧ (decode cX11_boat 21 = .ok (.getfield 12, 3)) ∧ (decode cX11_boat 24 = .ok (.getfield 246, 3)) ∧ (decode cX11_boat 27 = .ok (.invokevirtual 149, 3)) ∧ (decode cX11_boat 30 = .ok (.ifCond .eq 10, 3)) ∧ (decode cX11_boat 33 = .ok (.aload_n 0, 1)) ∧ (decode cX11_boat 34 = .ok (.bipush (-5), 2)) ∧ (decode cX11_boat 36 = .ok (.invokevirtual 113, 3)) ∧ (decode cX11_boat 39 = .ok (.ireturn, 1)) ∧ (decode cX11_boat 40 = .ok (.aload_n 0, 1)) := by decide +kernel
theorem dX11_boat_20 : decode cX11_boat 20 = .ok (.aload_n 0, 1) := dX11_boat_20g.1
theorem dX11_boat_21 : decode cX11_boat 21 = .ok (.getfield 12, 3) := dX11_boat_20g.2.1
theorem dX11_boat_24 : decode cX11_boat 24 = .ok (.getfield 246, 3) := dX11_boat_20g.2.2.1
theorem dX11_boat_27 : decode cX11_boat 27 = .ok (.invokevirtual 149, 3) := dX11_boat_20g.2.2.2.1
theorem dX11_boat_30 : decode cX11_boat 30 = .ok (.ifCond .eq 10, 3) := dX11_boat_20g.2.2.2.2.1
theorem dX11_boat_33 : decode cX11_boat 33 = .ok (.aload_n 0, 1) := dX11_boat_20g.2.2.2.2.2.1
theorem dX11_boat_34 : decode cX11_boat 34 = .ok (.bipush (-5), 2) := dX11_boat_20g.2.2.2.2.2.2.1
theorem dX11_boat_36 : decode cX11_boat 36 = .ok (.invokevirtual 113, 3) := dX11_boat_20g.2.2.2.2.2.2.2.1
theorem dX11_boat_39 : decode cX11_boat 39 = .ok (.ireturn, 1) := dX11_boat_20g.2.2.2.2.2.2.2.2.1
theorem dX11_boat_40 : decode cX11_boat 40 = .ok (.aload_n 0, 1) := dX11_boat_20g.2.2.2.2.2.2.2.2.2
theorem dX11_boat_41g : (decode cX11_boat 41 = .ok (.aload_n 0, 1)) ∧ (decode cX11_boat 42 = .ok (.getfield 12, 3)) ∧ (decode cX11_boat 45 = .ok (.getfield 246, 3)) ∧ (decode cX11_boat 48 = .ok (.iload_n 1, 1)) ∧ (decode cX11_boat 49 = .ok (.iload_n 2, 1)) ∧ (decode cX11_boat 50 = .ok (.iconst 0, 1)) ∧ (decode cX11_boat 51 = .ok (.iconst (-1), 1)) ∧ (decode cX11_boat 52 = .ok (.invokevirtual 155, 3)) ∧ (decode cX11_boat 55 = .ok (.invokevirtual 127, 3)) ∧ (decode cX11_boat 58 = .ok (.ireturn, 1)) := by decide +kernel
theorem dX11_boat_41 : decode cX11_boat 41 = .ok (.aload_n 0, 1) := dX11_boat_41g.1
theorem dX11_boat_42 : decode cX11_boat 42 = .ok (.getfield 12, 3) := dX11_boat_41g.2.1
theorem dX11_boat_45 : decode cX11_boat 45 = .ok (.getfield 246, 3) := dX11_boat_41g.2.2.1
theorem dX11_boat_48 : decode cX11_boat 48 = .ok (.iload_n 1, 1) := dX11_boat_41g.2.2.2.1
theorem dX11_boat_49 : decode cX11_boat 49 = .ok (.iload_n 2, 1) := dX11_boat_41g.2.2.2.2.1
theorem dX11_boat_50 : decode cX11_boat 50 = .ok (.iconst 0, 1) := dX11_boat_41g.2.2.2.2.2.1
theorem dX11_boat_51 : decode cX11_boat 51 = .ok (.iconst (-1), 1) := dX11_boat_41g.2.2.2.2.2.2.1
theorem dX11_boat_52 : decode cX11_boat 52 = .ok (.invokevirtual 155, 3) := dX11_boat_41g.2.2.2.2.2.2.2.1
theorem dX11_boat_55 : decode cX11_boat 55 = .ok (.invokevirtual 127, 3) := dX11_boat_41g.2.2.2.2.2.2.2.2.1
theorem dX11_boat_58 : decode cX11_boat 58 = .ok (.ireturn, 1) := dX11_boat_41g.2.2.2.2.2.2.2.2.2
set_option maxHeartbeats 4000000 in
set_option maxRecDepth 100000 in
theorem c_X11_boat (l : Launch) (E : Nat → Nat) (D : va_G) (G : th_G) (h0 n : Nat) (hG0 : G h0 = some (15, n)) (x1 x2 : Int32) : Met l yX11_boat (tb (.code yX11_boat cX11_boat 3 (some .int))) (rm 2) (va_Pc [.ref h0, .int x1, .int x2] (th_P E D G)) (QI E D G (fun r => True)) 0 0 (th_A G) := by
  refine Met.ofW (cc := cX11_boat) (maxL := 3) (ret := (some .int)) (by decide) rfl ?_
  intro p e s m args below meth c s₁ B hml hv
  obtain ⟨hav, hI, hN, hK⟩ := hv
  have hx := B.exec
  have hb := B.bytes
  have hr := B.returns
  have hts := atoms_spec (ws := tb (.code yX11_boat cX11_boat 3 (some .int))) B.pre
  have hown : s.vm.findClass RX11 = some m.cls := findClass_of_methodNamed B.named
  have hlocks := B.notSynchronized
  have hS : va_S (th_A G) s.heap s.heap [] := va_S.rf
  have hl := lv_entry ([.ref h0, .int x1, .int x2]) (n := 3) (Nat.le_of_ble_eq_true rfl)
  rw [show entryFrame m args 3 = entryFrame m ([.ref h0, .int x1, .int x2] : List Value).toArray 3 from by rw [hav], lg_entry_eq]
  generalize (lg_sl ([.ref h0, .int x1, .int x2]) ++ List.replicate (3 - (lg_sl ([.ref h0, .int x1, .int x2])).length) Slot.unset).toArray = ls at hl ⊢
  have hl : lv_has ls 3 [(0, .ref h0), (1, .int x1), (2, .int x2)] := hl
  generalize hR : (headSpec (tb (.code yX11_boat cX11_boat 3 (some .int))) (rm 2)).room = R
  have hR := hR.symm
  generalize hQ : MQ below (QI E D G (fun r => True)) args s 0 0 (th_A G) = QF
  have hQ := hQ.symm
  have J_14 : ∀ (H : Heap) (locs : List Loc) (ls : Array Slot) , lv_has ls 3 [(0, .ref h0), (1, .int x1), (2, .int x2)] → th_I (okC E) D G [] H → va_S (th_A G) s.heap H locs → W p l e R s m args below meth c H locs 0 0 QF (F0 m 14 ls []) := by
    intro H locs ls  hl  hI hS
    refine lv_aload_n hx hb dX11_boat_14 rfl (lv_at hl 0 rfl) ?_
    refine lv_iconst (v := (-1)) hx hb dX11_boat_15 (by decide) ?_
    refine th_cVi (As := [.int (-1)]) (rest := []) (n := 1) (d := 0) ⟨hx, hb, hml, hown, hts⟩ (c_X11_refuse l E D G h0 (n) hG0 (-1)) wd_407 wd_409 wp_0 wd_1 wd_410 (by decide +kernel) ⟨by rw [hR]; exact Nat.le_of_ble_eq_true rfl, by rw [hR]; exact Nat.le_of_ble_eq_true rfl⟩ hI hN hK hS (rc_15 hI hG0 List.not_mem_nil) rfl rfl hl.1 rfl (Nat.le_of_ble_eq_true rfl) dX11_boat_16 ⟨Nat.zero_le _, Nat.zero_le _⟩ (fun r1096 H locs hp hI hS => ?_)
    have hp := hp.symm
    subst hp
    have hpost : True := trivial
    rw [hQ]
    exact W.iret (v := (-1)) hx hb hr (fun t ht hW => ⟨⟨(-1), (), rfl, hpost, by rw [ht]; exact hI, hN.warm hW, va_K.moved hW.alike hK⟩, hS.F ht⟩) hS.2.2 dX11_boat_19
  refine lv_iload_n hx hb dX11_boat_0 rfl (lv_at hl 1 rfl) ?_
  refine th_cSs (As := [.int x1]) (rest := []) (n := 1) (d := 0) ⟨hx, hb, hml, hown, hts⟩ (c_X11_isCell l s.heap x1) wd_401 wd_402 wd_1 wd_403 (by decide +kernel) ⟨by rw [hR]; exact Nat.le_of_ble_eq_true rfl, by rw [hR]; exact Nat.le_of_ble_eq_true rfl⟩ hN hS rfl hl.1 rfl (Nat.le_of_ble_eq_true rfl) dX11_boat_1 ⟨Nat.zero_le _, Nat.zero_le _⟩ (fun r1097 locs hp hS => ?_)
  rcases hp with ⟨rfl, hp⟩ | ⟨rfl, hp⟩
  · skip
    try simp only [rg, not_and, Int.not_le] at hp
    have hp1098 := hp
    refine lv_if_eq (tgt := 14) hx hb dX11_boat_4 (by decide) (fun c => absurd c (by decide)) (fun _ => ?_)
    refine lv_iload_n hx hb dX11_boat_7 rfl (lv_at hl 2 rfl) ?_
    refine th_cSs (As := [.int x2]) (rest := []) (n := 1) (d := 0) ⟨hx, hb, hml, hown, hts⟩ (c_X11_isHour l s.heap x2) wd_466 wd_467 wd_1 wd_468 (by decide +kernel) ⟨by rw [hR]; exact Nat.le_of_ble_eq_true rfl, by rw [hR]; exact Nat.le_of_ble_eq_true rfl⟩ hN hS rfl hl.1 rfl (Nat.le_of_ble_eq_true rfl) dX11_boat_8 ⟨Nat.zero_le _, Nat.zero_le _⟩ (fun r1099 locs hp hS => ?_)
    rcases hp with ⟨rfl, hp⟩ | ⟨rfl, hp⟩
    · skip
      try simp only [rg, not_and, Int.not_le] at hp
      have hp1100 := hp
      refine lv_if_ne (tgt := 20) hx hb dX11_boat_11 (by decide) (fun _ => ?_) (fun c => absurd c (by decide))
      refine lv_aload_n hx hb dX11_boat_20 rfl (lv_at hl 0 rfl) ?_
      obtain ⟨a1101, a1104, a1106, a1108, a1110, a1112, a1114, a1116, a1118, a1120, a1122, w1124, w1127, w1128, w1129, w1130, hO, hq1102, hq1103, hq1105, hq1107, hq1109, hq1111, hq1113, hq1115, hq1117, hq1119, hq1121, hq1123, ⟨k1125, k1126⟩, k1131⟩ := op_15 hI hG0 List.not_mem_nil
      have hI := th_I.weak (a := h0) hI
      refine th_get hx hb hts inT11 hown hK hO rfl 0 (by decide) (hts _ (tb_c wd_345)) rfl rfl dX11_boat_21 ?_
      have hI := th_I.close hI hG0 hO (ok_15 hq1102 hq1103 hq1105 hq1107 hq1109 hq1111 hq1113 hq1115 hq1117 hq1119 hq1121 hq1123 ⟨by omega, by omega⟩ k1131)
      obtain ⟨a1132, a1134, a1136, a1138, a1140, a1142, a1144, a1146, a1148, a1150, w1152, w1155, w1156, w1157, hO, hq1133, hq1135, hq1137, hq1139, hq1141, hq1143, hq1145, hq1147, hq1149, hq1151, ⟨k1153, k1154⟩, k1158⟩ := op_6 hI hq1102 List.not_mem_nil
      have hI := th_I.weak (a := a1101) hI
      refine th_getN hx hb hts inT6 hown hK hN hO rfl 4 (by decide) wn_68 rfl rfl dX11_boat_24 ?_
      have hI := th_I.close hI hq1102 hO (ok_6 hq1133 hq1135 hq1137 hq1139 hq1141 hq1143 hq1145 hq1147 hq1149 hq1151 ⟨by omega, by omega⟩ k1158)
      obtain ⟨a1160, w1162, hO, hq1161, ⟨k1163, k1164⟩, k1165⟩ := op_4 hI hq1141 List.not_mem_nil
      have hI := th_I.weak (a := a1140) hI
      have k1166 : (nI (6 % 32)).toInt = ((6 % 32 : Nat) : Int) := nI_toInt (by omega)
      have k1167 := k1165.1
      refine th_cVs (As := []) (rest := []) (n := 0) (d := 0) ⟨hx, hb, hml, hown, hts⟩ (c_X4_isFull l E D s.heap a1140 (6 % 32) a1160 w1162 hO (by omega) (by omega) (by omega)) wd_481 wd_482 wd_483 wd_3 wd_484 (by decide +kernel) ⟨by rw [hR]; exact Nat.le_of_ble_eq_true rfl, by rw [hR]; exact Nat.le_of_ble_eq_true rfl⟩ hN hK hS ⟨_, hO⟩ rfl rfl hl.1 rfl (Nat.le_of_ble_eq_true rfl) dX11_boat_27 ⟨Nat.zero_le _, Nat.zero_le _⟩ (fun r1159 locs hp hS => ?_)
      rcases hp with ⟨rfl, hp⟩ | ⟨rfl, hp⟩
      · skip
        try simp only [rg, not_and, Int.not_le] at hp
        have hp1168 := hp
        refine lv_if_eq (tgt := 40) hx hb dX11_boat_30 (by decide) (fun c => absurd c (by decide)) (fun _ => ?_)
        refine lv_aload_n hx hb dX11_boat_33 rfl (lv_at hl 0 rfl) ?_
        refine lv_bipush (v := (-5)) hx hb dX11_boat_34 (by decide) ?_
        have hI := th_I.close hI hq1141 hO (ok_4 hq1161 ⟨by omega, by omega⟩ k1165)
        refine th_cVi (As := [.int (-5)]) (rest := []) (n := 1) (d := 0) ⟨hx, hb, hml, hown, hts⟩ (c_X11_refuse l E D G h0 (n) hG0 (-5)) wd_407 wd_409 wp_0 wd_1 wd_410 (by decide +kernel) ⟨by rw [hR]; exact Nat.le_of_ble_eq_true rfl, by rw [hR]; exact Nat.le_of_ble_eq_true rfl⟩ hI hN hK hS (rc_15 hI hG0 List.not_mem_nil) rfl rfl hl.1 rfl (Nat.le_of_ble_eq_true rfl) dX11_boat_36 ⟨Nat.zero_le _, Nat.zero_le _⟩ (fun r1169 H locs hp hI hS => ?_)
        have hp := hp.symm
        subst hp
        have hpost : True := trivial
        rw [hQ]
        exact W.iret (v := (-5)) hx hb hr (fun t ht hW => ⟨⟨(-5), (), rfl, hpost, by rw [ht]; exact hI, hN.warm hW, va_K.moved hW.alike hK⟩, hS.F ht⟩) hS.2.2 dX11_boat_39
      · skip
        have hp1170 := hp
        refine lv_if_eq (tgt := 40) hx hb dX11_boat_30 (by decide) (fun _ => ?_) (fun c => absurd c (by decide))
        refine lv_aload_n hx hb dX11_boat_40 rfl (lv_at hl 0 rfl) ?_
        refine lv_aload_n hx hb dX11_boat_41 rfl (lv_at hl 0 rfl) ?_
        have hI := th_I.close hI hq1141 hO (ok_4 hq1161 ⟨by omega, by omega⟩ k1165)
        obtain ⟨a1171, a1174, a1176, a1178, a1180, a1182, a1184, a1186, a1188, a1190, a1192, w1194, w1197, w1198, w1199, w1200, hO, hq1172, hq1173, hq1175, hq1177, hq1179, hq1181, hq1183, hq1185, hq1187, hq1189, hq1191, hq1193, ⟨k1195, k1196⟩, k1201⟩ := op_15 hI hG0 List.not_mem_nil
        have hI := th_I.weak (a := h0) hI
        refine th_get hx hb hts inT11 hown hK hO rfl 0 (by decide) (hts _ (tb_c wd_345)) rfl rfl dX11_boat_42 ?_
        have hI := th_I.close hI hG0 hO (ok_15 hq1172 hq1173 hq1175 hq1177 hq1179 hq1181 hq1183 hq1185 hq1187 hq1189 hq1191 hq1193 ⟨by omega, by omega⟩ k1201)
        obtain ⟨a1202, a1204, a1206, a1208, a1210, a1212, a1214, a1216, a1218, a1220, w1222, w1225, w1226, w1227, hO, hq1203, hq1205, hq1207, hq1209, hq1211, hq1213, hq1215, hq1217, hq1219, hq1221, ⟨k1223, k1224⟩, k1228⟩ := op_6 hI hq1172 List.not_mem_nil
        have hI := th_I.weak (a := a1171) hI
        refine th_getN hx hb hts inT6 hown hK hN hO rfl 4 (by decide) wn_68 rfl rfl dX11_boat_45 ?_
        refine lv_iload_n hx hb dX11_boat_48 rfl (lv_at hl 1 rfl) ?_
        refine lv_iload_n hx hb dX11_boat_49 rfl (lv_at hl 2 rfl) ?_
        refine lv_iconst (v := 0) hx hb dX11_boat_50 (by decide) ?_
        refine lv_iconst (v := (-1)) hx hb dX11_boat_51 (by decide) ?_
        have hI := th_I.close hI hq1172 hO (ok_6 hq1203 hq1205 hq1207 hq1209 hq1211 hq1213 hq1215 hq1217 hq1219 hq1221 ⟨by omega, by omega⟩ k1228)
        refine th_cVi (As := [.int x1, .int x2, .int 0, .int (-1)]) (rest := [.ref h0]) (n := 4) (d := 1) ⟨hx, hb, hml, hown, hts⟩ (c_X4_put l E D G a1210 (6) hq1211 x1 x2 0 (-1) (by decide)) wd_485 wd_486 wd_487 wd_3 wd_488 (by decide +kernel) ⟨by rw [hR]; exact Nat.le_of_ble_eq_true rfl, by rw [hR]; exact Nat.le_of_ble_eq_true rfl⟩ hI hN hK hS (rc_4 hI hq1211 List.not_mem_nil) rfl rfl hl.1 rfl (Nat.le_of_ble_eq_true rfl) dX11_boat_52 ⟨Nat.zero_le _, Nat.zero_le _⟩ (fun r1229 H locs hp hI hS => ?_)
        refine th_cVi (As := [.int r1229]) (rest := []) (n := 1) (d := 0) ⟨hx, hb, hml, hown, hts⟩ (c_X11_accept l E D G h0 (n) hG0 r1229) wd_447 wd_449 wp_3 wd_1 wd_450 (by decide +kernel) ⟨by rw [hR]; exact Nat.le_of_ble_eq_true rfl, by rw [hR]; exact Nat.le_of_ble_eq_true rfl⟩ hI hN hK hS (rc_15 hI hG0 List.not_mem_nil) rfl rfl hl.1 rfl (Nat.le_of_ble_eq_true rfl) dX11_boat_55 ⟨Nat.zero_le _, Nat.zero_le _⟩ (fun r1230 H locs hp hI hS => ?_)
        have hp := hp.symm
        subst hp
        have hpost : True := trivial
        rw [hQ]
        exact W.iret (v := r1229) hx hb hr (fun t ht hW => ⟨⟨r1229, (), rfl, hpost, by rw [ht]; exact hI, hN.warm hW, va_K.moved hW.alike hK⟩, hS.F ht⟩) hS.2.2 dX11_boat_58
    · skip
      try simp only [rg, not_and, Int.not_le] at hp
      have hp1231 := hp
      refine lv_if_ne (tgt := 20) hx hb dX11_boat_11 (by decide) (fun c => absurd c (by decide)) (fun _ => ?_)
      exact J_14 s.heap locs ls  (lv_sub hl [0, 1, 2] rfl)  hI hS
  · skip
    try simp only [rg, not_and, Int.not_le] at hp
    have hp1232 := hp
    refine lv_if_eq (tgt := 14) hx hb dX11_boat_4 (by decide) (fun _ => ?_) (fun c => absurd c (by decide))
    exact J_14 s.heap locs ls  (lv_sub hl [0, 1, 2] rfl)  hI hS
theorem dX11_moor_0g : (decode cX11_moor 0 = .ok (.iload_n 2, 1)) ∧ (decode cX11_moor 1 = .ok (.iload_n 3, 1)) ∧ (decode cX11_moor 2 = .ok (.invokestatic 134, 3)) ∧ (decode cX11_moor 5 = .ok (.ifCond .ne 9, 3)) ∧ (decode cX11_moor 8 = .ok (.aload_n 0, 1)) ∧ (decode cX11_moor 9 = .ok (.iconst (-1), 1)) ∧ (decode cX11_moor 10 = .ok (.invokevirtual 113, 3)) ∧ (decode cX11_moor 13 = .ok (.ireturn, 1)) ∧ (decode cX11_moor 14 = .ok (.aload_n 0, 1)) ∧ (decode cX11_moor 15 = .ok (.getfield 12, 3)) := by decide +kernel
theorem dX11_moor_0 : decode cX11_moor 0 = .ok (.iload_n 2, 1) := dX11_moor_0g.1
theorem dX11_moor_1 : decode cX11_moor 1 = .ok (.iload_n 3, 1) := dX11_moor_0g.2.1
theorem dX11_moor_2 : decode cX11_moor 2 = .ok (.invokestatic 134, 3) := dX11_moor_0g.2.2.1
theorem dX11_moor_5 : decode cX11_moor 5 = .ok (.ifCond .ne 9, 3) := dX11_moor_0g.2.2.2.1
theorem dX11_moor_8 : decode cX11_moor 8 = .ok (.aload_n 0, 1) := dX11_moor_0g.2.2.2.2.1
theorem dX11_moor_9 : decode cX11_moor 9 = .ok (.iconst (-1), 1) := dX11_moor_0g.2.2.2.2.2.1
theorem dX11_moor_10 : decode cX11_moor 10 = .ok (.invokevirtual 113, 3) := dX11_moor_0g.2.2.2.2.2.2.1
theorem dX11_moor_13 : decode cX11_moor 13 = .ok (.ireturn, 1) := dX11_moor_0g.2.2.2.2.2.2.2.1
theorem dX11_moor_14 : decode cX11_moor 14 = .ok (.aload_n 0, 1) := dX11_moor_0g.2.2.2.2.2.2.2.2.1
theorem dX11_moor_15 : decode cX11_moor 15 = .ok (.getfield 12, 3) := dX11_moor_0g.2.2.2.2.2.2.2.2.2
theorem dX11_moor_18g : (decode cX11_moor 18 = .ok (.getfield 246, 3)) ∧ (decode cX11_moor 21 = .ok (.iload_n 1, 1)) ∧ (decode cX11_moor 22 = .ok (.invokevirtual 159, 3)) ∧ (decode cX11_moor 25 = .ok (.ifCond .ne 10, 3)) ∧ (decode cX11_moor 28 = .ok (.aload_n 0, 1)) ∧ (decode cX11_moor 29 = .ok (.bipush (-2), 2)) ∧ (decode cX11_moor 31 = .ok (.invokevirtual 113, 3)) ∧ (decode cX11_moor 34 = .ok (.ireturn, 1)) ∧ (decode cX11_moor 35 = .ok (.aload_n 0, 1)) ∧ (decode cX11_moor 36 = .ok (.getfield 12, 3)) := by decide +kernel
theorem dX11_moor_18 : decode cX11_moor 18 = .ok (.getfield 246, 3) := dX11_moor_18g.1
theorem dX11_moor_21 : decode cX11_moor 21 = .ok (.iload_n 1, 1) := dX11_moor_18g.2.1
theorem dX11_moor_22 : decode cX11_moor 22 = .ok (.invokevirtual 159, 3) := dX11_moor_18g.2.2.1
theorem dX11_moor_25 : decode cX11_moor 25 = .ok (.ifCond .ne 10, 3) := dX11_moor_18g.2.2.2.1
theorem dX11_moor_28 : decode cX11_moor 28 = .ok (.aload_n 0, 1) := dX11_moor_18g.2.2.2.2.1
theorem dX11_moor_29 : decode cX11_moor 29 = .ok (.bipush (-2), 2) := dX11_moor_18g.2.2.2.2.2.1
theorem dX11_moor_31 : decode cX11_moor 31 = .ok (.invokevirtual 113, 3) := dX11_moor_18g.2.2.2.2.2.2.1
theorem dX11_moor_34 : decode cX11_moor 34 = .ok (.ireturn, 1) := dX11_moor_18g.2.2.2.2.2.2.2.1
theorem dX11_moor_35 : decode cX11_moor 35 = .ok (.aload_n 0, 1) := dX11_moor_18g.2.2.2.2.2.2.2.2.1
theorem dX11_moor_36 : decode cX11_moor 36 = .ok (.getfield 12, 3) := dX11_moor_18g.2.2.2.2.2.2.2.2.2
theorem dX11_moor_39g : (decode cX11_moor 39 = .ok (.getfield 246, 3)) ∧ (decode cX11_moor 42 = .ok (.iload_n 1, 1)) ∧ (decode cX11_moor 43 = .ok (.iconst 2, 1)) ∧ (decode cX11_moor 44 = .ok (.iload_n 2, 1)) ∧ (decode cX11_moor 45 = .ok (.invokevirtual 249, 3)) ∧ (decode cX11_moor 48 = .ok (.aload_n 0, 1)) ∧ (decode cX11_moor 49 = .ok (.getfield 12, 3)) ∧ (decode cX11_moor 52 = .ok (.getfield 246, 3)) ∧ (decode cX11_moor 55 = .ok (.iload_n 1, 1)) ∧ (decode cX11_moor 56 = .ok (.iconst 3, 1)) := by decide +kernel
theorem dX11_moor_39 : decode cX11_moor 39 = .ok (.getfield 246, 3) := dX11_moor_39g.1
theorem dX11_moor_42 : decode cX11_moor 42 = .ok (.iload_n 1, 1) := dX11_moor_39g.2.1
theorem dX11_moor_43 : decode cX11_moor 43 = .ok (.iconst 2, 1) := dX11_moor_39g.2.2.1
theorem dX11_moor_44 : decode cX11_moor 44 = .ok (.iload_n 2, 1) := dX11_moor_39g.2.2.2.1
theorem dX11_moor_45 : decode cX11_moor 45 = .ok (.invokevirtual 249, 3) := dX11_moor_39g.2.2.2.2.1
theorem dX11_moor_48 : decode cX11_moor 48 = .ok (.aload_n 0, 1) := dX11_moor_39g.2.2.2.2.2.1
theorem dX11_moor_49 : decode cX11_moor 49 = .ok (.getfield 12, 3) := dX11_moor_39g.2.2.2.2.2.2.1
theorem dX11_moor_52 : decode cX11_moor 52 = .ok (.getfield 246, 3) := dX11_moor_39g.2.2.2.2.2.2.2.1
theorem dX11_moor_55 : decode cX11_moor 55 = .ok (.iload_n 1, 1) := dX11_moor_39g.2.2.2.2.2.2.2.2.1
theorem dX11_moor_56 : decode cX11_moor 56 = .ok (.iconst 3, 1) := dX11_moor_39g.2.2.2.2.2.2.2.2.2
theorem dX11_moor_57g : (decode cX11_moor 57 = .ok (.iload_n 3, 1)) ∧ (decode cX11_moor 58 = .ok (.invokevirtual 249, 3)) ∧ (decode cX11_moor 61 = .ok (.aload_n 0, 1)) ∧ (decode cX11_moor 62 = .ok (.iconst 0, 1)) ∧ (decode cX11_moor 63 = .ok (.invokevirtual 127, 3)) ∧ (decode cX11_moor 66 = .ok (.ireturn, 1)) := by decide +kernel
theorem dX11_moor_57 : decode cX11_moor 57 = .ok (.iload_n 3, 1) := dX11_moor_57g.1
theorem dX11_moor_58 : decode cX11_moor 58 = .ok (.invokevirtual 249, 3) := dX11_moor_57g.2.1
theorem dX11_moor_61 : decode cX11_moor 61 = .ok (.aload_n 0, 1) := dX11_moor_57g.2.2.1
theorem dX11_moor_62 : decode cX11_moor 62 = .ok (.iconst 0, 1) := dX11_moor_57g.2.2.2.1
theorem dX11_moor_63 : decode cX11_moor 63 = .ok (.invokevirtual 127, 3) := dX11_moor_57g.2.2.2.2.1
theorem dX11_moor_66 : decode cX11_moor 66 = .ok (.ireturn, 1) := dX11_moor_57g.2.2.2.2.2
set_option maxHeartbeats 4000000 in
set_option maxRecDepth 100000 in
theorem c_X11_moor (l : Launch) (E : Nat → Nat) (D : va_G) (G : th_G) (h0 n : Nat) (hG0 : G h0 = some (15, n)) (x1 x2 x3 : Int32) : Met l yX11_moor (tb (.code yX11_moor cX11_moor 4 (some .int))) (rm 2) (va_Pc [.ref h0, .int x1, .int x2, .int x3] (th_P E D G)) (QI E D G (fun r => True)) 0 0 (th_A G) := by
  refine Met.ofW (cc := cX11_moor) (maxL := 4) (ret := (some .int)) (by decide) rfl ?_
  intro p e s m args below meth c s₁ B hml hv
  obtain ⟨hav, hI, hN, hK⟩ := hv
  have hx := B.exec
  have hb := B.bytes
  have hr := B.returns
  have hts := atoms_spec (ws := tb (.code yX11_moor cX11_moor 4 (some .int))) B.pre
  have hown : s.vm.findClass RX11 = some m.cls := findClass_of_methodNamed B.named
  have hlocks := B.notSynchronized
  have hS : va_S (th_A G) s.heap s.heap [] := va_S.rf
  have hl := lv_entry ([.ref h0, .int x1, .int x2, .int x3]) (n := 4) (Nat.le_of_ble_eq_true rfl)
  rw [show entryFrame m args 4 = entryFrame m ([.ref h0, .int x1, .int x2, .int x3] : List Value).toArray 4 from by rw [hav], lg_entry_eq]
  generalize (lg_sl ([.ref h0, .int x1, .int x2, .int x3]) ++ List.replicate (4 - (lg_sl ([.ref h0, .int x1, .int x2, .int x3])).length) Slot.unset).toArray = ls at hl ⊢
  have hl : lv_has ls 4 [(0, .ref h0), (1, .int x1), (2, .int x2), (3, .int x3)] := hl
  generalize hR : (headSpec (tb (.code yX11_moor cX11_moor 4 (some .int))) (rm 2)).room = R
  have hR := hR.symm
  generalize hQ : MQ below (QI E D G (fun r => True)) args s 0 0 (th_A G) = QF
  have hQ := hQ.symm
  refine lv_iload_n hx hb dX11_moor_0 rfl (lv_at hl 2 rfl) ?_
  refine lv_iload_n hx hb dX11_moor_1 rfl (lv_at hl 3 rfl) ?_
  refine th_cSs (As := [.int x2, .int x3]) (rest := []) (n := 2) (d := 1) ⟨hx, hb, hml, hown, hts⟩ (c_X11_isSpan l s.heap x2 x3) wd_463 wd_464 wd_1 wd_465 (by decide +kernel) ⟨by rw [hR]; exact Nat.le_of_ble_eq_true rfl, by rw [hR]; exact Nat.le_of_ble_eq_true rfl⟩ hN hS rfl hl.1 rfl (Nat.le_of_ble_eq_true rfl) dX11_moor_2 ⟨Nat.zero_le _, Nat.zero_le _⟩ (fun r1 locs hp hS => ?_)
  rcases hp with ⟨rfl, hp⟩ | ⟨rfl, hp⟩
  · skip
    try simp only [rg, not_and, Int.not_le] at hp
    have hp2 := hp
    refine lv_if_ne (tgt := 14) hx hb dX11_moor_5 (by decide) (fun _ => ?_) (fun c => absurd c (by decide))
    refine lv_aload_n hx hb dX11_moor_14 rfl (lv_at hl 0 rfl) ?_
    obtain ⟨a3, a6, a8, a10, a12, a14, a16, a18, a20, a22, a24, w26, w29, w30, w31, w32, hO, hq4, hq5, hq7, hq9, hq11, hq13, hq15, hq17, hq19, hq21, hq23, hq25, ⟨k27, k28⟩, k33⟩ := op_15 hI hG0 List.not_mem_nil
    have hI := th_I.weak (a := h0) hI
    refine th_get hx hb hts inT11 hown hK hO rfl 0 (by decide) (hts _ (tb_c wd_345)) rfl rfl dX11_moor_15 ?_
    have hI := th_I.close hI hG0 hO (ok_15 hq4 hq5 hq7 hq9 hq11 hq13 hq15 hq17 hq19 hq21 hq23 hq25 ⟨by omega, by omega⟩ k33)
    obtain ⟨a34, a36, a38, a40, a42, a44, a46, a48, a50, a52, w54, w57, w58, w59, hO, hq35, hq37, hq39, hq41, hq43, hq45, hq47, hq49, hq51, hq53, ⟨k55, k56⟩, k60⟩ := op_6 hI hq4 List.not_mem_nil
    have hI := th_I.weak (a := a3) hI
    refine th_getN hx hb hts inT6 hown hK hN hO rfl 4 (by decide) wn_68 rfl rfl dX11_moor_18 ?_
    refine lv_iload_n hx hb dX11_moor_21 rfl (lv_at hl 1 rfl) ?_
    have hI := th_I.close hI hq4 hO (ok_6 hq35 hq37 hq39 hq41 hq43 hq45 hq47 hq49 hq51 hq53 ⟨by omega, by omega⟩ k60)
    obtain ⟨a62, w64, hO, hq63, ⟨k65, k66⟩, k67⟩ := op_4 hI hq43 List.not_mem_nil
    have hI := th_I.weak (a := a42) hI
    have k68 : (nI (6 % 32)).toInt = ((6 % 32 : Nat) : Int) := nI_toInt (by omega)
    have k69 := k67.1
    refine th_cVs (As := [.int x1]) (rest := []) (n := 1) (d := 0) ⟨hx, hb, hml, hown, hts⟩ (c_X4_has l E D s.heap a42 (6 % 32) a62 w64 hO (by omega) (by omega) (by omega) x1) wd_494 wd_495 wd_496 wd_3 wd_497 (by decide +kernel) ⟨by rw [hR]; exact Nat.le_of_ble_eq_true rfl, by rw [hR]; exact Nat.le_of_ble_eq_true rfl⟩ hN hK hS ⟨_, hO⟩ rfl rfl hl.1 rfl (Nat.le_of_ble_eq_true rfl) dX11_moor_22 ⟨Nat.zero_le _, Nat.zero_le _⟩ (fun r61 locs hp hS => ?_)
    rcases hp with ⟨rfl, hp⟩ | ⟨rfl, hp⟩
    · skip
      try simp only [rg, not_and, Int.not_le] at hp
      have hp70 := hp
      refine lv_if_ne (tgt := 35) hx hb dX11_moor_25 (by decide) (fun _ => ?_) (fun c => absurd c (by decide))
      refine lv_aload_n hx hb dX11_moor_35 rfl (lv_at hl 0 rfl) ?_
      have hI := th_I.close hI hq43 hO (ok_4 hq63 ⟨by omega, by omega⟩ k67)
      obtain ⟨a71, a74, a76, a78, a80, a82, a84, a86, a88, a90, a92, w94, w97, w98, w99, w100, hO, hq72, hq73, hq75, hq77, hq79, hq81, hq83, hq85, hq87, hq89, hq91, hq93, ⟨k95, k96⟩, k101⟩ := op_15 hI hG0 List.not_mem_nil
      have hI := th_I.weak (a := h0) hI
      refine th_get hx hb hts inT11 hown hK hO rfl 0 (by decide) (hts _ (tb_c wd_345)) rfl rfl dX11_moor_36 ?_
      have hI := th_I.close hI hG0 hO (ok_15 hq72 hq73 hq75 hq77 hq79 hq81 hq83 hq85 hq87 hq89 hq91 hq93 ⟨by omega, by omega⟩ k101)
      obtain ⟨a102, a104, a106, a108, a110, a112, a114, a116, a118, a120, w122, w125, w126, w127, hO, hq103, hq105, hq107, hq109, hq111, hq113, hq115, hq117, hq119, hq121, ⟨k123, k124⟩, k128⟩ := op_6 hI hq72 List.not_mem_nil
      have hI := th_I.weak (a := a71) hI
      refine th_getN hx hb hts inT6 hown hK hN hO rfl 4 (by decide) wn_68 rfl rfl dX11_moor_39 ?_
      refine lv_iload_n hx hb dX11_moor_42 rfl (lv_at hl 1 rfl) ?_
      refine lv_iconst (v := 2) hx hb dX11_moor_43 (by decide) ?_
      refine lv_iload_n hx hb dX11_moor_44 rfl (lv_at hl 2 rfl) ?_
      have hI := th_I.close hI hq72 hO (ok_6 hq103 hq105 hq107 hq109 hq111 hq113 hq115 hq117 hq119 hq121 ⟨by omega, by omega⟩ k128)
      refine th_cVv (As := [.int x1, .int 2, .int x2]) (rest := []) (n := 3) (d := 1) ⟨hx, hb, hml, hown, hts⟩ (c_X4_change l E D G a110 (6) hq111 x1 2 x2) wd_864 wd_865 wd_866 wd_3 wd_867 (by decide +kernel) ⟨by rw [hR]; exact Nat.le_of_ble_eq_true rfl, by rw [hR]; exact Nat.le_of_ble_eq_true rfl⟩ hI hN hK hS (rc_4 hI hq111 List.not_mem_nil) rfl rfl hl.1 rfl (Nat.le_of_ble_eq_true rfl) dX11_moor_45 ⟨Nat.zero_le _, Nat.zero_le _⟩ (fun H locs hI hS => ?_)
      refine lv_aload_n hx hb dX11_moor_48 rfl (lv_at hl 0 rfl) ?_
      obtain ⟨a130, a133, a135, a137, a139, a141, a143, a145, a147, a149, a151, w153, w156, w157, w158, w159, hO, hq131, hq132, hq134, hq136, hq138, hq140, hq142, hq144, hq146, hq148, hq150, hq152, ⟨k154, k155⟩, k160⟩ := op_15 hI hG0 List.not_mem_nil
      have hI := th_I.weak (a := h0) hI
      refine th_get hx hb hts inT11 hown hK hO rfl 0 (by decide) (hts _ (tb_c wd_345)) rfl rfl dX11_moor_49 ?_
      have hI := th_I.close hI hG0 hO (ok_15 hq131 hq132 hq134 hq136 hq138 hq140 hq142 hq144 hq146 hq148 hq150 hq152 ⟨by omega, by omega⟩ k160)
      obtain ⟨a161, a163, a165, a167, a169, a171, a173, a175, a177, a179, w181, w184, w185, w186, hO, hq162, hq164, hq166, hq168, hq170, hq172, hq174, hq176, hq178, hq180, ⟨k182, k183⟩, k187⟩ := op_6 hI hq131 List.not_mem_nil
      have hI := th_I.weak (a := a130) hI
      refine th_getN hx hb hts inT6 hown hK hN hO rfl 4 (by decide) wn_68 rfl rfl dX11_moor_52 ?_
      refine lv_iload_n hx hb dX11_moor_55 rfl (lv_at hl 1 rfl) ?_
      refine lv_iconst (v := 3) hx hb dX11_moor_56 (by decide) ?_
      refine lv_iload_n hx hb dX11_moor_57 rfl (lv_at hl 3 rfl) ?_
      have hI := th_I.close hI hq131 hO (ok_6 hq162 hq164 hq166 hq168 hq170 hq172 hq174 hq176 hq178 hq180 ⟨by omega, by omega⟩ k187)
      refine th_cVv (As := [.int x1, .int 3, .int x3]) (rest := []) (n := 3) (d := 1) ⟨hx, hb, hml, hown, hts⟩ (c_X4_change l E D G a169 (6) hq170 x1 3 x3) wd_864 wd_865 wd_866 wd_3 wd_867 (by decide +kernel) ⟨by rw [hR]; exact Nat.le_of_ble_eq_true rfl, by rw [hR]; exact Nat.le_of_ble_eq_true rfl⟩ hI hN hK hS (rc_4 hI hq170 List.not_mem_nil) rfl rfl hl.1 rfl (Nat.le_of_ble_eq_true rfl) dX11_moor_58 ⟨Nat.zero_le _, Nat.zero_le _⟩ (fun H locs hI hS => ?_)
      refine lv_aload_n hx hb dX11_moor_61 rfl (lv_at hl 0 rfl) ?_
      refine lv_iconst (v := 0) hx hb dX11_moor_62 (by decide) ?_
      refine th_cVi (As := [.int 0]) (rest := []) (n := 1) (d := 0) ⟨hx, hb, hml, hown, hts⟩ (c_X11_accept l E D G h0 (n) hG0 0) wd_447 wd_449 wp_3 wd_1 wd_450 (by decide +kernel) ⟨by rw [hR]; exact Nat.le_of_ble_eq_true rfl, by rw [hR]; exact Nat.le_of_ble_eq_true rfl⟩ hI hN hK hS (rc_15 hI hG0 List.not_mem_nil) rfl rfl hl.1 rfl (Nat.le_of_ble_eq_true rfl) dX11_moor_63 ⟨Nat.zero_le _, Nat.zero_le _⟩ (fun r189 H locs hp hI hS => ?_)
      have hp := hp.symm
      subst hp
      have hpost : True := trivial
      rw [hQ]
      exact W.iret (v := 0) hx hb hr (fun t ht hW => ⟨⟨0, (), rfl, hpost, by rw [ht]; exact hI, hN.warm hW, va_K.moved hW.alike hK⟩, hS.F ht⟩) hS.2.2 dX11_moor_66
    · skip
      have hp190 := hp
      refine lv_if_ne (tgt := 35) hx hb dX11_moor_25 (by decide) (fun c => absurd c (by decide)) (fun _ => ?_)
      refine lv_aload_n hx hb dX11_moor_28 rfl (lv_at hl 0 rfl) ?_
      refine lv_bipush (v := (-2)) hx hb dX11_moor_29 (by decide) ?_
      have hI := th_I.close hI hq43 hO (ok_4 hq63 ⟨by omega, by omega⟩ k67)
      refine th_cVi (As := [.int (-2)]) (rest := []) (n := 1) (d := 0) ⟨hx, hb, hml, hown, hts⟩ (c_X11_refuse l E D G h0 (n) hG0 (-2)) wd_407 wd_409 wp_0 wd_1 wd_410 (by decide +kernel) ⟨by rw [hR]; exact Nat.le_of_ble_eq_true rfl, by rw [hR]; exact Nat.le_of_ble_eq_true rfl⟩ hI hN hK hS (rc_15 hI hG0 List.not_mem_nil) rfl rfl hl.1 rfl (Nat.le_of_ble_eq_true rfl) dX11_moor_31 ⟨Nat.zero_le _, Nat.zero_le _⟩ (fun r191 H locs hp hI hS => ?_)
      have hp := hp.symm
      subst hp
      have hpost : True := trivial
      rw [hQ]
      exact W.iret (v := (-2)) hx hb hr (fun t ht hW => ⟨⟨(-2), (), rfl, hpost, by rw [ht]; exact hI, hN.warm hW, va_K.moved hW.alike hK⟩, hS.F ht⟩) hS.2.2 dX11_moor_34
  · skip
    try simp only [rg, not_and, Int.not_le] at hp
    have hp192 := hp
    refine lv_if_ne (tgt := 14) hx hb dX11_moor_5 (by decide) (fun c => absurd c (by decide)) (fun _ => ?_)
    refine lv_aload_n hx hb dX11_moor_8 rfl (lv_at hl 0 rfl) ?_
    refine lv_iconst (v := (-1)) hx hb dX11_moor_9 (by decide) ?_
    refine th_cVi (As := [.int (-1)]) (rest := []) (n := 1) (d := 0) ⟨hx, hb, hml, hown, hts⟩ (c_X11_refuse l E D G h0 (n) hG0 (-1)) wd_407 wd_409 wp_0 wd_1 wd_410 (by decide +kernel) ⟨by rw [hR]; exact Nat.le_of_ble_eq_true rfl, by rw [hR]; exact Nat.le_of_ble_eq_true rfl⟩ hI hN hK hS (rc_15 hI hG0 List.not_mem_nil) rfl rfl hl.1 rfl (Nat.le_of_ble_eq_true rfl) dX11_moor_10 ⟨Nat.zero_le _, Nat.zero_le _⟩ (fun r193 H locs hp hI hS => ?_)
    have hp := hp.symm
    subst hp
    have hpost : True := trivial
    rw [hQ]
    exact W.iret (v := (-1)) hx hb hr (fun t ht hW => ⟨⟨(-1), (), rfl, hpost, by rw [ht]; exact hI, hN.warm hW, va_K.moved hW.alike hK⟩, hS.F ht⟩) hS.2.2 dX11_moor_13
theorem dX11_sails_0g : (decode cX11_sails 0 = .ok (.aload_n 0, 1)) ∧ (decode cX11_sails 1 = .ok (.getfield 12, 3)) ∧ (decode cX11_sails 4 = .ok (.getfield 246, 3)) ∧ (decode cX11_sails 7 = .ok (.iload_n 1, 1)) ∧ (decode cX11_sails 8 = .ok (.invokevirtual 159, 3)) ∧ (decode cX11_sails 11 = .ok (.ifCond .eq 33, 3)) ∧ (decode cX11_sails 14 = .ok (.iload_n 2, 1)) ∧ (decode cX11_sails 15 = .ok (.invokestatic 211, 3)) ∧ (decode cX11_sails 18 = .ok (.ifCond .eq 26, 3)) ∧ (decode cX11_sails 21 = .ok (.iload_n 2, 1)) := by decide +kernel
theorem dX11_sails_0 : decode cX11_sails 0 = .ok (.aload_n 0, 1) := dX11_sails_0g.1
theorem dX11_sails_1 : decode cX11_sails 1 = .ok (.getfield 12, 3) := dX11_sails_0g.2.1
theorem dX11_sails_4 : decode cX11_sails 4 = .ok (.getfield 246, 3) := dX11_sails_0g.2.2.1
theorem dX11_sails_7 : decode cX11_sails 7 = .ok (.iload_n 1, 1) := dX11_sails_0g.2.2.2.1
theorem dX11_sails_8 : decode cX11_sails 8 = .ok (.invokevirtual 159, 3) := dX11_sails_0g.2.2.2.2.1
theorem dX11_sails_11 : decode cX11_sails 11 = .ok (.ifCond .eq 33, 3) := dX11_sails_0g.2.2.2.2.2.1
theorem dX11_sails_14 : decode cX11_sails 14 = .ok (.iload_n 2, 1) := dX11_sails_0g.2.2.2.2.2.2.1
theorem dX11_sails_15 : decode cX11_sails 15 = .ok (.invokestatic 211, 3) := dX11_sails_0g.2.2.2.2.2.2.2.1
theorem dX11_sails_18 : decode cX11_sails 18 = .ok (.ifCond .eq 26, 3) := dX11_sails_0g.2.2.2.2.2.2.2.2.1
theorem dX11_sails_21 : decode cX11_sails 21 = .ok (.iload_n 2, 1) := dX11_sails_0g.2.2.2.2.2.2.2.2.2
theorem dX11_sails_22g : (decode cX11_sails 22 = .ok (.aload_n 0, 1)) ∧ (decode cX11_sails 23 = .ok (.getfield 12, 3)) ∧ (decode cX11_sails 26 = .ok (.getfield 246, 3)) ∧ (decode cX11_sails 29 = .ok (.iload_n 1, 1)) ∧ (decode cX11_sails 30 = .ok (.iconst 1, 1)) ∧ (decode cX11_sails 31 = .ok (.invokevirtual 173, 3)) ∧ (decode cX11_sails 34 = .ok (.if_icmp .lt 10, 3)) ∧ (decode cX11_sails 37 = .ok (.iload_n 3, 1)) ∧ (decode cX11_sails 38 = .ok (.invokestatic 138, 3)) ∧ (decode cX11_sails 41 = .ok (.ifCond .ne 5, 3)) := by decide +kernel
theorem dX11_sails_22 : decode cX11_sails 22 = .ok (.aload_n 0, 1) := dX11_sails_22g.1
theorem dX11_sails_23 : decode cX11_sails 23 = .ok (.getfield 12, 3) := dX11_sails_22g.2.1
theorem dX11_sails_26 : decode cX11_sails 26 = .ok (.getfield 246, 3) := dX11_sails_22g.2.2.1
theorem dX11_sails_29 : decode cX11_sails 29 = .ok (.iload_n 1, 1) := dX11_sails_22g.2.2.2.1
theorem dX11_sails_30 : decode cX11_sails 30 = .ok (.iconst 1, 1) := dX11_sails_22g.2.2.2.2.1
theorem dX11_sails_31 : decode cX11_sails 31 = .ok (.invokevirtual 173, 3) := dX11_sails_22g.2.2.2.2.2.1
theorem dX11_sails_34 : decode cX11_sails 34 = .ok (.if_icmp .lt 10, 3) := dX11_sails_22g.2.2.2.2.2.2.1
theorem dX11_sails_37 : decode cX11_sails 37 = .ok (.iload_n 3, 1) := dX11_sails_22g.2.2.2.2.2.2.2.1
theorem dX11_sails_38 : decode cX11_sails 38 = .ok (.invokestatic 138, 3) := dX11_sails_22g.2.2.2.2.2.2.2.2.1
theorem dX11_sails_41 : decode cX11_sails 41 = .ok (.ifCond .ne 5, 3) := dX11_sails_22g.2.2.2.2.2.2.2.2.2
theorem dX11_sails_44g : (decode cX11_sails 44 = .ok (.iconst (-1), 1)) ∧ (decode cX11_sails 45 = .ok (.ireturn, 1)) ∧ (decode cX11_sails 46 = .ok (.iload_n 3, 1)) ∧ (decode cX11_sails 47 = .ok (.ifCond .ne 15, 3)) ∧ (decode cX11_sails 50 = .ok (.aload_n 0, 1)) ∧ (decode cX11_sails 51 = .ok (.getfield 51, 3)) ∧ (decode cX11_sails 54 = .ok (.iload_n 1, 1)) ∧ (decode cX11_sails 55 = .ok (.iload_n 2, 1)) ∧ (decode cX11_sails 56 = .ok (.invokevirtual 253, 3)) ∧ (decode cX11_sails 59 = .ok (.goto 12, 3)) := by decide +kernel
theorem dX11_sails_44 : decode cX11_sails 44 = .ok (.iconst (-1), 1) := dX11_sails_44g.1
theorem dX11_sails_45 : decode cX11_sails 45 = .ok (.ireturn, 1) := dX11_sails_44g.2.1
theorem dX11_sails_46 : decode cX11_sails 46 = .ok (.iload_n 3, 1) := dX11_sails_44g.2.2.1
theorem dX11_sails_47 : decode cX11_sails 47 = .ok (.ifCond .ne 15, 3) := dX11_sails_44g.2.2.2.1
theorem dX11_sails_50 : decode cX11_sails 50 = .ok (.aload_n 0, 1) := dX11_sails_44g.2.2.2.2.1
theorem dX11_sails_51 : decode cX11_sails 51 = .ok (.getfield 51, 3) := dX11_sails_44g.2.2.2.2.2.1
theorem dX11_sails_54 : decode cX11_sails 54 = .ok (.iload_n 1, 1) := dX11_sails_44g.2.2.2.2.2.2.1
theorem dX11_sails_55 : decode cX11_sails 55 = .ok (.iload_n 2, 1) := dX11_sails_44g.2.2.2.2.2.2.2.1
theorem dX11_sails_56 : decode cX11_sails 56 = .ok (.invokevirtual 253, 3) := dX11_sails_44g.2.2.2.2.2.2.2.2.1
theorem dX11_sails_59 : decode cX11_sails 59 = .ok (.goto 12, 3) := dX11_sails_44g.2.2.2.2.2.2.2.2.2
theorem dX11_sails_62g : (decode cX11_sails 62 = .ok (.aload_n 0, 1)) ∧ (decode cX11_sails 63 = .ok (.getfield 51, 3)) ∧ (decode cX11_sails 66 = .ok (.iload_n 1, 1)) ∧ (decode cX11_sails 67 = .ok (.iload_n 2, 1)) ∧ (decode cX11_sails 68 = .ok (.invokevirtual 256, 3)) ∧ (decode cX11_sails 71 = .ok (.ireturn, 1)) := by decide +kernel
theorem dX11_sails_62 : decode cX11_sails 62 = .ok (.aload_n 0, 1) := dX11_sails_62g.1
theorem dX11_sails_63 : decode cX11_sails 63 = .ok (.getfield 51, 3) := dX11_sails_62g.2.1
theorem dX11_sails_66 : decode cX11_sails 66 = .ok (.iload_n 1, 1) := dX11_sails_62g.2.2.1
theorem dX11_sails_67 : decode cX11_sails 67 = .ok (.iload_n 2, 1) := dX11_sails_62g.2.2.2.1
theorem dX11_sails_68 : decode cX11_sails 68 = .ok (.invokevirtual 256, 3) := dX11_sails_62g.2.2.2.2.1
theorem dX11_sails_71 : decode cX11_sails 71 = .ok (.ireturn, 1) := dX11_sails_62g.2.2.2.2.2
set_option maxHeartbeats 4000000 in
set_option maxRecDepth 100000 in
theorem c_X11_sails (l : Launch) (E : Nat → Nat) (D : va_G) (G : th_G) (h0 n : Nat) (hG0 : G h0 = some (15, n)) (x1 x2 x3 : Int32) : Met l yX11_sails (tb (.code yX11_sails cX11_sails 4 (some .int))) (rm 7) (va_Pc [.ref h0, .int x1, .int x2, .int x3] (th_P E D G)) (QI E D G (fun r => True)) 0 0 (th_A G) := by
  refine Met.ofW (cc := cX11_sails) (maxL := 4) (ret := (some .int)) (by decide) rfl ?_
  intro p e s m args below meth c s₁ B hml hv
  obtain ⟨hav, hI, hN, hK⟩ := hv
  have hx := B.exec
  have hb := B.bytes
  have hr := B.returns
  have hts := atoms_spec (ws := tb (.code yX11_sails cX11_sails 4 (some .int))) B.pre
  have hown : s.vm.findClass RX11 = some m.cls := findClass_of_methodNamed B.named
  have hlocks := B.notSynchronized
  have hS : va_S (th_A G) s.heap s.heap [] := va_S.rf
  have hl := lv_entry ([.ref h0, .int x1, .int x2, .int x3]) (n := 4) (Nat.le_of_ble_eq_true rfl)
  rw [show entryFrame m args 4 = entryFrame m ([.ref h0, .int x1, .int x2, .int x3] : List Value).toArray 4 from by rw [hav], lg_entry_eq]
  generalize (lg_sl ([.ref h0, .int x1, .int x2, .int x3]) ++ List.replicate (4 - (lg_sl ([.ref h0, .int x1, .int x2, .int x3])).length) Slot.unset).toArray = ls at hl ⊢
  have hl : lv_has ls 4 [(0, .ref h0), (1, .int x1), (2, .int x2), (3, .int x3)] := hl
  generalize hR : (headSpec (tb (.code yX11_sails cX11_sails 4 (some .int))) (rm 7)).room = R
  have hR := hR.symm
  generalize hQ : MQ below (QI E D G (fun r => True)) args s 0 0 (th_A G) = QF
  have hQ := hQ.symm
  have J_44 : ∀ (H : Heap) (locs : List Loc) (ls : Array Slot) , lv_has ls 4 [(0, .ref h0), (1, .int x1), (2, .int x2), (3, .int x3)] → th_I (okC E) D G [] H → va_S (th_A G) s.heap H locs → W p l e R s m args below meth c H locs 0 0 QF (F0 m 44 ls []) := by
    intro H locs ls  hl  hI hS
    refine lv_iconst (v := (-1)) hx hb dX11_sails_44 (by decide) ?_
    have hpost : True := trivial
    rw [hQ]
    exact W.iret (v := (-1)) hx hb hr (fun t ht hW => ⟨⟨(-1), (), rfl, hpost, by rw [ht]; exact hI, hN.warm hW, va_K.moved hW.alike hK⟩, hS.F ht⟩) hS.2.2 dX11_sails_45
  refine lv_aload_n hx hb dX11_sails_0 rfl (lv_at hl 0 rfl) ?_
  obtain ⟨a1649, a1652, a1654, a1656, a1658, a1660, a1662, a1664, a1666, a1668, a1670, w1672, w1675, w1676, w1677, w1678, hO, hq1650, hq1651, hq1653, hq1655, hq1657, hq1659, hq1661, hq1663, hq1665, hq1667, hq1669, hq1671, ⟨k1673, k1674⟩, k1679⟩ := op_15 hI hG0 List.not_mem_nil
  have hI := th_I.weak (a := h0) hI
  refine th_get hx hb hts inT11 hown hK hO rfl 0 (by decide) (hts _ (tb_c wd_345)) rfl rfl dX11_sails_1 ?_
  have hI := th_I.close hI hG0 hO (ok_15 hq1650 hq1651 hq1653 hq1655 hq1657 hq1659 hq1661 hq1663 hq1665 hq1667 hq1669 hq1671 ⟨by omega, by omega⟩ k1679)
  obtain ⟨a1680, a1682, a1684, a1686, a1688, a1690, a1692, a1694, a1696, a1698, w1700, w1703, w1704, w1705, hO, hq1681, hq1683, hq1685, hq1687, hq1689, hq1691, hq1693, hq1695, hq1697, hq1699, ⟨k1701, k1702⟩, k1706⟩ := op_6 hI hq1650 List.not_mem_nil
  have hI := th_I.weak (a := a1649) hI
  refine th_getN hx hb hts inT6 hown hK hN hO rfl 4 (by decide) wn_68 rfl rfl dX11_sails_4 ?_
  refine lv_iload_n hx hb dX11_sails_7 rfl (lv_at hl 1 rfl) ?_
  have hI := th_I.close hI hq1650 hO (ok_6 hq1681 hq1683 hq1685 hq1687 hq1689 hq1691 hq1693 hq1695 hq1697 hq1699 ⟨by omega, by omega⟩ k1706)
  obtain ⟨a1708, w1710, hO, hq1709, ⟨k1711, k1712⟩, k1713⟩ := op_4 hI hq1689 List.not_mem_nil
  have hI := th_I.weak (a := a1688) hI
  have k1714 : (nI (6 % 32)).toInt = ((6 % 32 : Nat) : Int) := nI_toInt (by omega)
  have k1715 := k1713.1
  refine th_cVs (As := [.int x1]) (rest := []) (n := 1) (d := 0) ⟨hx, hb, hml, hown, hts⟩ (c_X4_has l E D s.heap a1688 (6 % 32) a1708 w1710 hO (by omega) (by omega) (by omega) x1) wd_494 wd_495 wd_496 wd_3 wd_497 (by decide +kernel) ⟨by rw [hR]; exact Nat.le_of_ble_eq_true rfl, by rw [hR]; exact Nat.le_of_ble_eq_true rfl⟩ hN hK hS ⟨_, hO⟩ rfl rfl hl.1 rfl (Nat.le_of_ble_eq_true rfl) dX11_sails_8 ⟨Nat.zero_le _, Nat.zero_le _⟩ (fun r1707 locs hp hS => ?_)
  rcases hp with ⟨rfl, hp⟩ | ⟨rfl, hp⟩
  · skip
    try simp only [rg, not_and, Int.not_le] at hp
    have hp1716 := hp
    refine lv_if_eq (tgt := 44) hx hb dX11_sails_11 (by decide) (fun c => absurd c (by decide)) (fun _ => ?_)
    refine lv_iload_n hx hb dX11_sails_14 rfl (lv_at hl 2 rfl) ?_
    refine th_cSs (As := [.int x2]) (rest := []) (n := 1) (d := 0) ⟨hx, hb, hml, hown, hts⟩ (c_X11_isHour l s.heap x2) wd_466 wd_467 wd_1 wd_468 (by decide +kernel) ⟨by rw [hR]; exact Nat.le_of_ble_eq_true rfl, by rw [hR]; exact Nat.le_of_ble_eq_true rfl⟩ hN hS rfl hl.1 rfl (Nat.le_of_ble_eq_true rfl) dX11_sails_15 ⟨Nat.zero_le _, Nat.zero_le _⟩ (fun r1717 locs hp hS => ?_)
    rcases hp with ⟨rfl, hp⟩ | ⟨rfl, hp⟩
    · skip
      try simp only [rg, not_and, Int.not_le] at hp
      have hp1718 := hp
      refine lv_if_eq (tgt := 44) hx hb dX11_sails_18 (by decide) (fun c => absurd c (by decide)) (fun _ => ?_)
      refine lv_iload_n hx hb dX11_sails_21 rfl (lv_at hl 2 rfl) ?_
      refine lv_aload_n hx hb dX11_sails_22 rfl (lv_at hl 0 rfl) ?_
      have hI := th_I.close hI hq1689 hO (ok_4 hq1709 ⟨by omega, by omega⟩ k1713)
      obtain ⟨a1719, a1722, a1724, a1726, a1728, a1730, a1732, a1734, a1736, a1738, a1740, w1742, w1745, w1746, w1747, w1748, hO, hq1720, hq1721, hq1723, hq1725, hq1727, hq1729, hq1731, hq1733, hq1735, hq1737, hq1739, hq1741, ⟨k1743, k1744⟩, k1749⟩ := op_15 hI hG0 List.not_mem_nil
      have hI := th_I.weak (a := h0) hI
      refine th_get hx hb hts inT11 hown hK hO rfl 0 (by decide) (hts _ (tb_c wd_345)) rfl rfl dX11_sails_23 ?_
      have hI := th_I.close hI hG0 hO (ok_15 hq1720 hq1721 hq1723 hq1725 hq1727 hq1729 hq1731 hq1733 hq1735 hq1737 hq1739 hq1741 ⟨by omega, by omega⟩ k1749)
      obtain ⟨a1750, a1752, a1754, a1756, a1758, a1760, a1762, a1764, a1766, a1768, w1770, w1773, w1774, w1775, hO, hq1751, hq1753, hq1755, hq1757, hq1759, hq1761, hq1763, hq1765, hq1767, hq1769, ⟨k1771, k1772⟩, k1776⟩ := op_6 hI hq1720 List.not_mem_nil
      have hI := th_I.weak (a := a1719) hI
      refine th_getN hx hb hts inT6 hown hK hN hO rfl 4 (by decide) wn_68 rfl rfl dX11_sails_26 ?_
      refine lv_iload_n hx hb dX11_sails_29 rfl (lv_at hl 1 rfl) ?_
      refine lv_iconst (v := 1) hx hb dX11_sails_30 (by decide) ?_
      have hI := th_I.close hI hq1720 hO (ok_6 hq1751 hq1753 hq1755 hq1757 hq1759 hq1761 hq1763 hq1765 hq1767 hq1769 ⟨by omega, by omega⟩ k1776)
      refine th_cVi (As := [.int x1, .int 1]) (rest := [.int x2]) (n := 2) (d := 0) ⟨hx, hb, hml, hown, hts⟩ (c_X4_at l E D G a1758 (6) hq1759 x1 1) wd_518 wd_519 wd_520 wd_3 wd_521 (by decide +kernel) ⟨by rw [hR]; exact Nat.le_of_ble_eq_true rfl, by rw [hR]; exact Nat.le_of_ble_eq_true rfl⟩ hI hN hK hS (rc_4 hI hq1759 List.not_mem_nil) rfl rfl hl.1 rfl (Nat.le_of_ble_eq_true rfl) dX11_sails_31 ⟨Nat.zero_le _, Nat.zero_le _⟩ (fun r1777 H locs hp hI hS => ?_)
      have k1778 := iv_lo r1777
      have k1779 := iv_hi r1777
      refine lv_icmp_lt (tgt := 44) hx hb dX11_sails_34 (by decide) (fun c1780 => ?_) (fun c1780 => ?_)
      · skip
        have k1781 := iv_lt (X := x2.toInt) (Y := r1777.toInt) rfl rfl c1780
        exact J_44 H locs ls  (lv_sub hl [0, 1, 2, 3] rfl)  hI hS
      · skip
        have k1782 := iv_nlt (X := x2.toInt) (Y := r1777.toInt) rfl rfl c1780
        refine lv_iload_n hx hb dX11_sails_37 rfl (lv_at hl 3 rfl) ?_
        refine th_cSs (As := [.int x3]) (rest := []) (n := 1) (d := 0) ⟨hx, hb, hml, hown, hts⟩ (c_X11_isFlag l H x3) wd_469 wd_470 wd_1 wd_471 (by decide +kernel) ⟨by rw [hR]; exact Nat.le_of_ble_eq_true rfl, by rw [hR]; exact Nat.le_of_ble_eq_true rfl⟩ hN hS rfl hl.1 rfl (Nat.le_of_ble_eq_true rfl) dX11_sails_38 ⟨Nat.zero_le _, Nat.zero_le _⟩ (fun r1783 locs hp hS => ?_)
        rcases hp with ⟨rfl, hp⟩ | ⟨rfl, hp⟩
        · skip
          try simp only [rg, not_and, Int.not_le] at hp
          have hp1784 := hp
          refine lv_if_ne (tgt := 46) hx hb dX11_sails_41 (by decide) (fun _ => ?_) (fun c => absurd c (by decide))
          refine lv_iload_n hx hb dX11_sails_46 rfl (lv_at hl 3 rfl) ?_
          refine lv_if_ne (tgt := 62) hx hb dX11_sails_47 (by decide) (fun c1785 => ?_) (fun c1785 => ?_)
          · skip
            have k1786 := iv_ne (X := x3.toInt) (Y := (0)) rfl (by decide) c1785
            refine lv_aload_n hx hb dX11_sails_62 rfl (lv_at hl 0 rfl) ?_
            obtain ⟨a1787, a1790, a1792, a1794, a1796, a1798, a1800, a1802, a1804, a1806, a1808, w1810, w1813, w1814, w1815, w1816, hO, hq1788, hq1789, hq1791, hq1793, hq1795, hq1797, hq1799, hq1801, hq1803, hq1805, hq1807, hq1809, ⟨k1811, k1812⟩, k1817⟩ := op_15 hI hG0 List.not_mem_nil
            have hI := th_I.weak (a := h0) hI
            refine th_get hx hb hts inT11 hown hK hO rfl 7 (by decide) (hts _ (tb_c wd_352)) rfl rfl dX11_sails_63 ?_
            refine lv_iload_n hx hb dX11_sails_66 rfl (lv_at hl 1 rfl) ?_
            refine lv_iload_n hx hb dX11_sails_67 rfl (lv_at hl 2 rfl) ?_
            have hI := th_I.close hI hG0 hO (ok_15 hq1788 hq1789 hq1791 hq1793 hq1795 hq1797 hq1799 hq1801 hq1803 hq1805 hq1807 hq1809 ⟨by omega, by omega⟩ k1817)
            refine th_cVi (As := [.int x1, .int x2]) (rest := []) (n := 2) (d := 6) ⟨hx, hb, hml, hown, hts⟩ (c_X9_tollTill l E D G a1800 hq1801 x1 x2) wd_885 wd_886 wd_887 wd_8 wd_888 (by decide +kernel) ⟨by rw [hR]; exact Nat.le_of_ble_eq_true rfl, by rw [hR]; exact Nat.le_of_ble_eq_true rfl⟩ hI hN hK hS (rc_10 hI hq1801 List.not_mem_nil) rfl rfl hl.1 rfl (Nat.le_of_ble_eq_true rfl) dX11_sails_68 ⟨Nat.zero_le _, Nat.zero_le _⟩ (fun r1818 H locs hp hI hS => ?_)
            have hpost : True := trivial
            rw [hQ]
            exact W.iret (v := r1818) hx hb hr (fun t ht hW => ⟨⟨r1818, (), rfl, hpost, by rw [ht]; exact hI, hN.warm hW, va_K.moved hW.alike hK⟩, hS.F ht⟩) hS.2.2 dX11_sails_71
          · skip
            have k1819 := iv_eq (X := x3.toInt) (Y := (0)) rfl (by decide) c1785
            refine lv_aload_n hx hb dX11_sails_50 rfl (lv_at hl 0 rfl) ?_
            obtain ⟨a1820, a1823, a1825, a1827, a1829, a1831, a1833, a1835, a1837, a1839, a1841, w1843, w1846, w1847, w1848, w1849, hO, hq1821, hq1822, hq1824, hq1826, hq1828, hq1830, hq1832, hq1834, hq1836, hq1838, hq1840, hq1842, ⟨k1844, k1845⟩, k1850⟩ := op_15 hI hG0 List.not_mem_nil
            have hI := th_I.weak (a := h0) hI
            refine th_get hx hb hts inT11 hown hK hO rfl 7 (by decide) (hts _ (tb_c wd_352)) rfl rfl dX11_sails_51 ?_
            refine lv_iload_n hx hb dX11_sails_54 rfl (lv_at hl 1 rfl) ?_
            refine lv_iload_n hx hb dX11_sails_55 rfl (lv_at hl 2 rfl) ?_
            have hI := th_I.close hI hG0 hO (ok_15 hq1821 hq1822 hq1824 hq1826 hq1828 hq1830 hq1832 hq1834 hq1836 hq1838 hq1840 hq1842 ⟨by omega, by omega⟩ k1850)
            refine th_cVi (As := [.int x1, .int x2]) (rest := []) (n := 2) (d := 6) ⟨hx, hb, hml, hown, hts⟩ (c_X9_boatAt l E D G a1833 hq1834 x1 x2) wd_872 wd_873 wd_874 wd_8 wd_875 (by decide +kernel) ⟨by rw [hR]; exact Nat.le_of_ble_eq_true rfl, by rw [hR]; exact Nat.le_of_ble_eq_true rfl⟩ hI hN hK hS (rc_10 hI hq1834 List.not_mem_nil) rfl rfl hl.1 rfl (Nat.le_of_ble_eq_true rfl) dX11_sails_56 ⟨Nat.zero_le _, Nat.zero_le _⟩ (fun r1851 H locs hp hI hS => ?_)
            refine lv_goto (tgt := 71) hx hb dX11_sails_59 (by decide) ?_
            have hpost : True := trivial
            rw [hQ]
            exact W.iret (v := r1851) hx hb hr (fun t ht hW => ⟨⟨r1851, (), rfl, hpost, by rw [ht]; exact hI, hN.warm hW, va_K.moved hW.alike hK⟩, hS.F ht⟩) hS.2.2 dX11_sails_71
        · skip
          try simp only [rg, not_and, Int.not_le] at hp
          have hp1852 := hp
          refine lv_if_ne (tgt := 46) hx hb dX11_sails_41 (by decide) (fun c => absurd c (by decide)) (fun _ => ?_)
          exact J_44 H locs ls  (lv_sub hl [0, 1, 2, 3] rfl)  hI hS
    · skip
      try simp only [rg, not_and, Int.not_le] at hp
      have hp1853 := hp
      refine lv_if_eq (tgt := 44) hx hb dX11_sails_18 (by decide) (fun _ => ?_) (fun c => absurd c (by decide))
      have hI := th_I.close hI hq1689 hO (ok_4 hq1709 ⟨by omega, by omega⟩ k1713)
      exact J_44 s.heap locs ls  (lv_sub hl [0, 1, 2, 3] rfl)  hI hS
  · skip
    have hp1854 := hp
    refine lv_if_eq (tgt := 44) hx hb dX11_sails_11 (by decide) (fun _ => ?_) (fun c => absurd c (by decide))
    have hI := th_I.close hI hq1689 hO (ok_4 hq1709 ⟨by omega, by omega⟩ k1713)
    exact J_44 s.heap locs ls  (lv_sub hl [0, 1, 2, 3] rfl)  hI hS
theorem dX11_meet_0g : (decode cX11_meet 0 = .ok (.aload_n 0, 1)) ∧ (decode cX11_meet 1 = .ok (.getfield 12, 3)) ∧ (decode cX11_meet 4 = .ok (.getfield 246, 3)) ∧ (decode cX11_meet 7 = .ok (.iload_n 1, 1)) ∧ (decode cX11_meet 8 = .ok (.invokevirtual 159, 3)) ∧ (decode cX11_meet 11 = .ok (.ifCond .eq 29, 3)) ∧ (decode cX11_meet 14 = .ok (.aload_n 0, 1)) ∧ (decode cX11_meet 15 = .ok (.getfield 12, 3)) ∧ (decode cX11_meet 18 = .ok (.getfield 246, 3)) ∧ (decode cX11_meet 21 = .ok (.iload_n 2, 1)) := by decide +kernel
theorem dX11_meet_0 : decode cX11_meet 0 = .ok (.aload_n 0, 1) := dX11_meet_0g.1
theorem dX11_meet_1 : decode cX11_meet 1 = .ok (.getfield 12, 3) := dX11_meet_0g.2.1
theorem dX11_meet_4 : decode cX11_meet 4 = .ok (.getfield 246, 3) := dX11_meet_0g.2.2.1
theorem dX11_meet_7 : decode cX11_meet 7 = .ok (.iload_n 1, 1) := dX11_meet_0g.2.2.2.1
theorem dX11_meet_8 : decode cX11_meet 8 = .ok (.invokevirtual 159, 3) := dX11_meet_0g.2.2.2.2.1
theorem dX11_meet_11 : decode cX11_meet 11 = .ok (.ifCond .eq 29, 3) := dX11_meet_0g.2.2.2.2.2.1
theorem dX11_meet_14 : decode cX11_meet 14 = .ok (.aload_n 0, 1) := dX11_meet_0g.2.2.2.2.2.2.1
theorem dX11_meet_15 : decode cX11_meet 15 = .ok (.getfield 12, 3) := dX11_meet_0g.2.2.2.2.2.2.2.1
theorem dX11_meet_18 : decode cX11_meet 18 = .ok (.getfield 246, 3) := dX11_meet_0g.2.2.2.2.2.2.2.2.1
theorem dX11_meet_21 : decode cX11_meet 21 = .ok (.iload_n 2, 1) := dX11_meet_0g.2.2.2.2.2.2.2.2.2
theorem dX11_meet_22g : (decode cX11_meet 22 = .ok (.invokevirtual 159, 3)) ∧ (decode cX11_meet 25 = .ok (.ifCond .eq 15, 3)) ∧ (decode cX11_meet 28 = .ok (.iload_n 1, 1)) ∧ (decode cX11_meet 29 = .ok (.iload_n 2, 1)) ∧ (decode cX11_meet 30 = .ok (.if_icmp .eq 10, 3)) ∧ (decode cX11_meet 33 = .ok (.iload_n 3, 1)) ∧ (decode cX11_meet 34 = .ok (.invokestatic 138, 3)) ∧ (decode cX11_meet 37 = .ok (.ifCond .ne 5, 3)) ∧ (decode cX11_meet 40 = .ok (.iconst (-1), 1)) ∧ (decode cX11_meet 41 = .ok (.ireturn, 1)) := by decide +kernel
theorem dX11_meet_22 : decode cX11_meet 22 = .ok (.invokevirtual 159, 3) := dX11_meet_22g.1
theorem dX11_meet_25 : decode cX11_meet 25 = .ok (.ifCond .eq 15, 3) := dX11_meet_22g.2.1
theorem dX11_meet_28 : decode cX11_meet 28 = .ok (.iload_n 1, 1) := dX11_meet_22g.2.2.1
theorem dX11_meet_29 : decode cX11_meet 29 = .ok (.iload_n 2, 1) := dX11_meet_22g.2.2.2.1
theorem dX11_meet_30 : decode cX11_meet 30 = .ok (.if_icmp .eq 10, 3) := dX11_meet_22g.2.2.2.2.1
theorem dX11_meet_33 : decode cX11_meet 33 = .ok (.iload_n 3, 1) := dX11_meet_22g.2.2.2.2.2.1
theorem dX11_meet_34 : decode cX11_meet 34 = .ok (.invokestatic 138, 3) := dX11_meet_22g.2.2.2.2.2.2.1
theorem dX11_meet_37 : decode cX11_meet 37 = .ok (.ifCond .ne 5, 3) := dX11_meet_22g.2.2.2.2.2.2.2.1
theorem dX11_meet_40 : decode cX11_meet 40 = .ok (.iconst (-1), 1) := dX11_meet_22g.2.2.2.2.2.2.2.2.1
theorem dX11_meet_41 : decode cX11_meet 41 = .ok (.ireturn, 1) := dX11_meet_22g.2.2.2.2.2.2.2.2.2
theorem dX11_meet_42g : (decode cX11_meet 42 = .ok (.aload_n 0, 1)) ∧ (decode cX11_meet 43 = .ok (.getfield 51, 3)) ∧ (decode cX11_meet 46 = .ok (.iload_n 1, 1)) ∧ (decode cX11_meet 47 = .ok (.iload_n 2, 1)) ∧ (decode cX11_meet 48 = .ok (.invokevirtual 259, 3)) ∧ (decode cX11_meet 51 = .ok (.istore 4, 2)) ∧ (decode cX11_meet 53 = .ok (.iload 4, 2)) ∧ (decode cX11_meet 55 = .ok (.iconst (-1), 1)) ∧ (decode cX11_meet 56 = .ok (.if_icmp .eq 7, 3)) ∧ (decode cX11_meet 59 = .ok (.iload_n 3, 1)) := by decide +kernel
theorem dX11_meet_42 : decode cX11_meet 42 = .ok (.aload_n 0, 1) := dX11_meet_42g.1
theorem dX11_meet_43 : decode cX11_meet 43 = .ok (.getfield 51, 3) := dX11_meet_42g.2.1
theorem dX11_meet_46 : decode cX11_meet 46 = .ok (.iload_n 1, 1) := dX11_meet_42g.2.2.1
theorem dX11_meet_47 : decode cX11_meet 47 = .ok (.iload_n 2, 1) := dX11_meet_42g.2.2.2.1
theorem dX11_meet_48 : decode cX11_meet 48 = .ok (.invokevirtual 259, 3) := dX11_meet_42g.2.2.2.2.1
theorem dX11_meet_51 : decode cX11_meet 51 = .ok (.istore 4, 2) := dX11_meet_42g.2.2.2.2.2.1
theorem dX11_meet_53 : decode cX11_meet 53 = .ok (.iload 4, 2) := dX11_meet_42g.2.2.2.2.2.2.1
theorem dX11_meet_55 : decode cX11_meet 55 = .ok (.iconst (-1), 1) := dX11_meet_42g.2.2.2.2.2.2.2.1
theorem dX11_meet_56 : decode cX11_meet 56 = .ok (.if_icmp .eq 7, 3) := dX11_meet_42g.2.2.2.2.2.2.2.2.1
theorem dX11_meet_59 : decode cX11_meet 59 = .ok (.iload_n 3, 1) := dX11_meet_42g.2.2.2.2.2.2.2.2.2
theorem dX11_meet_60g : (decode cX11_meet 60 = .ok (.ifCond .ne 8, 3)) ∧ (decode cX11_meet 63 = .ok (.iload 4, 2)) ∧ (decode cX11_meet 65 = .ok (.goto 13, 3)) ∧ (decode cX11_meet 68 = .ok (.aload_n 0, 1)) ∧ (decode cX11_meet 69 = .ok (.getfield 51, 3)) ∧ (decode cX11_meet 72 = .ok (.iload_n 1, 1)) ∧ (decode cX11_meet 73 = .ok (.iload 4, 2)) ∧ (decode cX11_meet 75 = .ok (.invokevirtual 253, 3)) ∧ (decode cX11_meet 78 = .ok (.ireturn, 1)) := by decide +kernel
theorem dX11_meet_60 : decode cX11_meet 60 = .ok (.ifCond .ne 8, 3) := dX11_meet_60g.1
theorem dX11_meet_63 : decode cX11_meet 63 = .ok (.iload 4, 2) := dX11_meet_60g.2.1
theorem dX11_meet_65 : decode cX11_meet 65 = .ok (.goto 13, 3) := dX11_meet_60g.2.2.1
theorem dX11_meet_68 : decode cX11_meet 68 = .ok (.aload_n 0, 1) := dX11_meet_60g.2.2.2.1
theorem dX11_meet_69 : decode cX11_meet 69 = .ok (.getfield 51, 3) := dX11_meet_60g.2.2.2.2.1
theorem dX11_meet_72 : decode cX11_meet 72 = .ok (.iload_n 1, 1) := dX11_meet_60g.2.2.2.2.2.1
theorem dX11_meet_73 : decode cX11_meet 73 = .ok (.iload 4, 2) := dX11_meet_60g.2.2.2.2.2.2.1
theorem dX11_meet_75 : decode cX11_meet 75 = .ok (.invokevirtual 253, 3) := dX11_meet_60g.2.2.2.2.2.2.2.1
theorem dX11_meet_78 : decode cX11_meet 78 = .ok (.ireturn, 1) := dX11_meet_60g.2.2.2.2.2.2.2.2
set_option maxHeartbeats 4000000 in
set_option maxRecDepth 100000 in
theorem c_X11_meet (l : Launch) (E : Nat → Nat) (D : va_G) (G : th_G) (h0 n : Nat) (hG0 : G h0 = some (15, n)) (x1 x2 x3 : Int32) : Met l yX11_meet (tb (.code yX11_meet cX11_meet 5 (some .int))) (rm 8) (va_Pc [.ref h0, .int x1, .int x2, .int x3] (th_P E D G)) (QI E D G (fun r => True)) 0 0 (th_A G) := by
  refine Met.ofW (cc := cX11_meet) (maxL := 5) (ret := (some .int)) (by decide) rfl ?_
  intro p e s m args below meth c s₁ B hml hv
  obtain ⟨hav, hI, hN, hK⟩ := hv
  have hx := B.exec
  have hb := B.bytes
  have hr := B.returns
  have hts := atoms_spec (ws := tb (.code yX11_meet cX11_meet 5 (some .int))) B.pre
  have hown : s.vm.findClass RX11 = some m.cls := findClass_of_methodNamed B.named
  have hlocks := B.notSynchronized
  have hS : va_S (th_A G) s.heap s.heap [] := va_S.rf
  have hl := lv_entry ([.ref h0, .int x1, .int x2, .int x3]) (n := 5) (Nat.le_of_ble_eq_true rfl)
  rw [show entryFrame m args 5 = entryFrame m ([.ref h0, .int x1, .int x2, .int x3] : List Value).toArray 5 from by rw [hav], lg_entry_eq]
  generalize (lg_sl ([.ref h0, .int x1, .int x2, .int x3]) ++ List.replicate (5 - (lg_sl ([.ref h0, .int x1, .int x2, .int x3])).length) Slot.unset).toArray = ls at hl ⊢
  have hl : lv_has ls 5 [(0, .ref h0), (1, .int x1), (2, .int x2), (3, .int x3)] := hl
  generalize hR : (headSpec (tb (.code yX11_meet cX11_meet 5 (some .int))) (rm 8)).room = R
  have hR := hR.symm
  generalize hQ : MQ below (QI E D G (fun r => True)) args s 0 0 (th_A G) = QF
  have hQ := hQ.symm
  have J_40 : ∀ (H : Heap) (locs : List Loc) (ls : Array Slot) , lv_has ls 5 [(0, .ref h0), (1, .int x1), (2, .int x2), (3, .int x3)] → th_I (okC E) D G [] H → va_S (th_A G) s.heap H locs → W p l e R s m args below meth c H locs 0 0 QF (F0 m 40 ls []) := by
    intro H locs ls  hl  hI hS
    refine lv_iconst (v := (-1)) hx hb dX11_meet_40 (by decide) ?_
    have hpost : True := trivial
    rw [hQ]
    exact W.iret (v := (-1)) hx hb hr (fun t ht hW => ⟨⟨(-1), (), rfl, hpost, by rw [ht]; exact hI, hN.warm hW, va_K.moved hW.alike hK⟩, hS.F ht⟩) hS.2.2 dX11_meet_41
  refine lv_aload_n hx hb dX11_meet_0 rfl (lv_at hl 0 rfl) ?_
  obtain ⟨a1729, a1732, a1734, a1736, a1738, a1740, a1742, a1744, a1746, a1748, a1750, w1752, w1755, w1756, w1757, w1758, hO, hq1730, hq1731, hq1733, hq1735, hq1737, hq1739, hq1741, hq1743, hq1745, hq1747, hq1749, hq1751, ⟨k1753, k1754⟩, k1759⟩ := op_15 hI hG0 List.not_mem_nil
  have hI := th_I.weak (a := h0) hI
  refine th_get hx hb hts inT11 hown hK hO rfl 0 (by decide) (hts _ (tb_c wd_345)) rfl rfl dX11_meet_1 ?_
  have hI := th_I.close hI hG0 hO (ok_15 hq1730 hq1731 hq1733 hq1735 hq1737 hq1739 hq1741 hq1743 hq1745 hq1747 hq1749 hq1751 ⟨by omega, by omega⟩ k1759)
  obtain ⟨a1760, a1762, a1764, a1766, a1768, a1770, a1772, a1774, a1776, a1778, w1780, w1783, w1784, w1785, hO, hq1761, hq1763, hq1765, hq1767, hq1769, hq1771, hq1773, hq1775, hq1777, hq1779, ⟨k1781, k1782⟩, k1786⟩ := op_6 hI hq1730 List.not_mem_nil
  have hI := th_I.weak (a := a1729) hI
  refine th_getN hx hb hts inT6 hown hK hN hO rfl 4 (by decide) wn_68 rfl rfl dX11_meet_4 ?_
  refine lv_iload_n hx hb dX11_meet_7 rfl (lv_at hl 1 rfl) ?_
  have hI := th_I.close hI hq1730 hO (ok_6 hq1761 hq1763 hq1765 hq1767 hq1769 hq1771 hq1773 hq1775 hq1777 hq1779 ⟨by omega, by omega⟩ k1786)
  obtain ⟨a1788, w1790, hO, hq1789, ⟨k1791, k1792⟩, k1793⟩ := op_4 hI hq1769 List.not_mem_nil
  have hI := th_I.weak (a := a1768) hI
  have k1794 : (nI (6 % 32)).toInt = ((6 % 32 : Nat) : Int) := nI_toInt (by omega)
  have k1795 := k1793.1
  refine th_cVs (As := [.int x1]) (rest := []) (n := 1) (d := 0) ⟨hx, hb, hml, hown, hts⟩ (c_X4_has l E D s.heap a1768 (6 % 32) a1788 w1790 hO (by omega) (by omega) (by omega) x1) wd_494 wd_495 wd_496 wd_3 wd_497 (by decide +kernel) ⟨by rw [hR]; exact Nat.le_of_ble_eq_true rfl, by rw [hR]; exact Nat.le_of_ble_eq_true rfl⟩ hN hK hS ⟨_, hO⟩ rfl rfl hl.1 rfl (Nat.le_of_ble_eq_true rfl) dX11_meet_8 ⟨Nat.zero_le _, Nat.zero_le _⟩ (fun r1787 locs hp hS => ?_)
  rcases hp with ⟨rfl, hp⟩ | ⟨rfl, hp⟩
  · skip
    try simp only [rg, not_and, Int.not_le] at hp
    have hp1796 := hp
    refine lv_if_eq (tgt := 40) hx hb dX11_meet_11 (by decide) (fun c => absurd c (by decide)) (fun _ => ?_)
    refine lv_aload_n hx hb dX11_meet_14 rfl (lv_at hl 0 rfl) ?_
    have hI := th_I.close hI hq1769 hO (ok_4 hq1789 ⟨by omega, by omega⟩ k1793)
    obtain ⟨a1797, a1800, a1802, a1804, a1806, a1808, a1810, a1812, a1814, a1816, a1818, w1820, w1823, w1824, w1825, w1826, hO, hq1798, hq1799, hq1801, hq1803, hq1805, hq1807, hq1809, hq1811, hq1813, hq1815, hq1817, hq1819, ⟨k1821, k1822⟩, k1827⟩ := op_15 hI hG0 List.not_mem_nil
    have hI := th_I.weak (a := h0) hI
    refine th_get hx hb hts inT11 hown hK hO rfl 0 (by decide) (hts _ (tb_c wd_345)) rfl rfl dX11_meet_15 ?_
    have hI := th_I.close hI hG0 hO (ok_15 hq1798 hq1799 hq1801 hq1803 hq1805 hq1807 hq1809 hq1811 hq1813 hq1815 hq1817 hq1819 ⟨by omega, by omega⟩ k1827)
    obtain ⟨a1828, a1830, a1832, a1834, a1836, a1838, a1840, a1842, a1844, a1846, w1848, w1851, w1852, w1853, hO, hq1829, hq1831, hq1833, hq1835, hq1837, hq1839, hq1841, hq1843, hq1845, hq1847, ⟨k1849, k1850⟩, k1854⟩ := op_6 hI hq1798 List.not_mem_nil
    have hI := th_I.weak (a := a1797) hI
    refine th_getN hx hb hts inT6 hown hK hN hO rfl 4 (by decide) wn_68 rfl rfl dX11_meet_18 ?_
    refine lv_iload_n hx hb dX11_meet_21 rfl (lv_at hl 2 rfl) ?_
    have hI := th_I.close hI hq1798 hO (ok_6 hq1829 hq1831 hq1833 hq1835 hq1837 hq1839 hq1841 hq1843 hq1845 hq1847 ⟨by omega, by omega⟩ k1854)
    obtain ⟨a1856, w1858, hO, hq1857, ⟨k1859, k1860⟩, k1861⟩ := op_4 hI hq1837 List.not_mem_nil
    have hI := th_I.weak (a := a1836) hI
    have k1862 : (nI (6 % 32)).toInt = ((6 % 32 : Nat) : Int) := nI_toInt (by omega)
    have k1863 := k1861.1
    refine th_cVs (As := [.int x2]) (rest := []) (n := 1) (d := 0) ⟨hx, hb, hml, hown, hts⟩ (c_X4_has l E D s.heap a1836 (6 % 32) a1856 w1858 hO (by omega) (by omega) (by omega) x2) wd_494 wd_495 wd_496 wd_3 wd_497 (by decide +kernel) ⟨by rw [hR]; exact Nat.le_of_ble_eq_true rfl, by rw [hR]; exact Nat.le_of_ble_eq_true rfl⟩ hN hK hS ⟨_, hO⟩ rfl rfl hl.1 rfl (Nat.le_of_ble_eq_true rfl) dX11_meet_22 ⟨Nat.zero_le _, Nat.zero_le _⟩ (fun r1855 locs hp hS => ?_)
    rcases hp with ⟨rfl, hp⟩ | ⟨rfl, hp⟩
    · skip
      try simp only [rg, not_and, Int.not_le] at hp
      have hp1864 := hp
      refine lv_if_eq (tgt := 40) hx hb dX11_meet_25 (by decide) (fun c => absurd c (by decide)) (fun _ => ?_)
      refine lv_iload_n hx hb dX11_meet_28 rfl (lv_at hl 1 rfl) ?_
      refine lv_iload_n hx hb dX11_meet_29 rfl (lv_at hl 2 rfl) ?_
      refine lv_icmp_eq (tgt := 40) hx hb dX11_meet_30 (by decide) (fun c1865 => ?_) (fun c1865 => ?_)
      · skip
        have k1866 := iv_eq (X := x1.toInt) (Y := x2.toInt) rfl rfl c1865
        have hI := th_I.close hI hq1837 hO (ok_4 hq1857 ⟨by omega, by omega⟩ k1861)
        exact J_40 s.heap locs ls  (lv_sub hl [0, 1, 2, 3] rfl)  hI hS
      · skip
        have k1867 := iv_ne (X := x1.toInt) (Y := x2.toInt) rfl rfl c1865
        refine lv_iload_n hx hb dX11_meet_33 rfl (lv_at hl 3 rfl) ?_
        refine th_cSs (As := [.int x3]) (rest := []) (n := 1) (d := 0) ⟨hx, hb, hml, hown, hts⟩ (c_X11_isFlag l s.heap x3) wd_469 wd_470 wd_1 wd_471 (by decide +kernel) ⟨by rw [hR]; exact Nat.le_of_ble_eq_true rfl, by rw [hR]; exact Nat.le_of_ble_eq_true rfl⟩ hN hS rfl hl.1 rfl (Nat.le_of_ble_eq_true rfl) dX11_meet_34 ⟨Nat.zero_le _, Nat.zero_le _⟩ (fun r1868 locs hp hS => ?_)
        rcases hp with ⟨rfl, hp⟩ | ⟨rfl, hp⟩
        · skip
          try simp only [rg, not_and, Int.not_le] at hp
          have hp1869 := hp
          refine lv_if_ne (tgt := 42) hx hb dX11_meet_37 (by decide) (fun _ => ?_) (fun c => absurd c (by decide))
          refine lv_aload_n hx hb dX11_meet_42 rfl (lv_at hl 0 rfl) ?_
          have hI := th_I.close hI hq1837 hO (ok_4 hq1857 ⟨by omega, by omega⟩ k1861)
          obtain ⟨a1870, a1873, a1875, a1877, a1879, a1881, a1883, a1885, a1887, a1889, a1891, w1893, w1896, w1897, w1898, w1899, hO, hq1871, hq1872, hq1874, hq1876, hq1878, hq1880, hq1882, hq1884, hq1886, hq1888, hq1890, hq1892, ⟨k1894, k1895⟩, k1900⟩ := op_15 hI hG0 List.not_mem_nil
          have hI := th_I.weak (a := h0) hI
          refine th_get hx hb hts inT11 hown hK hO rfl 7 (by decide) (hts _ (tb_c wd_352)) rfl rfl dX11_meet_43 ?_
          refine lv_iload_n hx hb dX11_meet_46 rfl (lv_at hl 1 rfl) ?_
          refine lv_iload_n hx hb dX11_meet_47 rfl (lv_at hl 2 rfl) ?_
          have hI := th_I.close hI hG0 hO (ok_15 hq1871 hq1872 hq1874 hq1876 hq1878 hq1880 hq1882 hq1884 hq1886 hq1888 hq1890 hq1892 ⟨by omega, by omega⟩ k1900)
          refine th_cVi (As := [.int x1, .int x2]) (rest := []) (n := 2) (d := 7) ⟨hx, hb, hml, hown, hts⟩ (c_X9_meeting l E D G a1883 hq1884 x1 x2) wd_898 wd_899 wd_900 wd_8 wd_901 (by decide +kernel) ⟨by rw [hR]; exact Nat.le_of_ble_eq_true rfl, by rw [hR]; exact Nat.le_of_ble_eq_true rfl⟩ hI hN hK hS (rc_10 hI hq1884 List.not_mem_nil) rfl rfl hl.1 rfl (Nat.le_of_ble_eq_true rfl) dX11_meet_48 ⟨Nat.zero_le _, Nat.zero_le _⟩ (fun r1901 H locs hp hI hS => ?_)
          refine lv_istore (lv' := [(4, .int r1901), (0, .ref h0), (1, .int x1), (2, .int x2), (3, .int x3)]) hx hb dX11_meet_51 hl (by decide) rfl (fun ls hl => ?_)
          refine lv_iload hx hb dX11_meet_53 (lv_at hl 0 rfl) ?_
          refine lv_iconst (v := (-1)) hx hb dX11_meet_55 (by decide) ?_
          have k1902 := iv_lo r1901
          have k1903 := iv_hi r1901
          refine lv_icmp_eq (tgt := 63) hx hb dX11_meet_56 (by decide) (fun c1904 => ?_) (fun c1904 => ?_)
          · skip
            have k1905 := iv_eq (X := r1901.toInt) (Y := (-1)) rfl (by decide) c1904
            refine lv_iload hx hb dX11_meet_63 (lv_at hl 0 rfl) ?_
            refine lv_goto (tgt := 78) hx hb dX11_meet_65 (by decide) ?_
            have hpost : True := trivial
            rw [hQ]
            exact W.iret (v := r1901) hx hb hr (fun t ht hW => ⟨⟨r1901, (), rfl, hpost, by rw [ht]; exact hI, hN.warm hW, va_K.moved hW.alike hK⟩, hS.F ht⟩) hS.2.2 dX11_meet_78
          · skip
            have k1906 := iv_ne (X := r1901.toInt) (Y := (-1)) rfl (by decide) c1904
            refine lv_iload_n hx hb dX11_meet_59 rfl (lv_at hl 4 rfl) ?_
            refine lv_if_ne (tgt := 68) hx hb dX11_meet_60 (by decide) (fun c1907 => ?_) (fun c1907 => ?_)
            · skip
              have k1908 := iv_ne (X := x3.toInt) (Y := (0)) rfl (by decide) c1907
              refine lv_aload_n hx hb dX11_meet_68 rfl (lv_at hl 1 rfl) ?_
              obtain ⟨a1909, a1912, a1914, a1916, a1918, a1920, a1922, a1924, a1926, a1928, a1930, w1932, w1935, w1936, w1937, w1938, hO, hq1910, hq1911, hq1913, hq1915, hq1917, hq1919, hq1921, hq1923, hq1925, hq1927, hq1929, hq1931, ⟨k1933, k1934⟩, k1939⟩ := op_15 hI hG0 List.not_mem_nil
              have hI := th_I.weak (a := h0) hI
              refine th_get hx hb hts inT11 hown hK hO rfl 7 (by decide) (hts _ (tb_c wd_352)) rfl rfl dX11_meet_69 ?_
              refine lv_iload_n hx hb dX11_meet_72 rfl (lv_at hl 2 rfl) ?_
              refine lv_iload hx hb dX11_meet_73 (lv_at hl 0 rfl) ?_
              have hI := th_I.close hI hG0 hO (ok_15 hq1910 hq1911 hq1913 hq1915 hq1917 hq1919 hq1921 hq1923 hq1925 hq1927 hq1929 hq1931 ⟨by omega, by omega⟩ k1939)
              refine th_cVi (As := [.int x1, .int r1901]) (rest := []) (n := 2) (d := 6) ⟨hx, hb, hml, hown, hts⟩ (c_X9_boatAt l E D G a1922 hq1923 x1 r1901) wd_872 wd_873 wd_874 wd_8 wd_875 (by decide +kernel) ⟨by rw [hR]; exact Nat.le_of_ble_eq_true rfl, by rw [hR]; exact Nat.le_of_ble_eq_true rfl⟩ hI hN hK hS (rc_10 hI hq1923 List.not_mem_nil) rfl rfl hl.1 rfl (Nat.le_of_ble_eq_true rfl) dX11_meet_75 ⟨Nat.zero_le _, Nat.zero_le _⟩ (fun r1940 H locs hp hI hS => ?_)
              have hpost : True := trivial
              rw [hQ]
              exact W.iret (v := r1940) hx hb hr (fun t ht hW => ⟨⟨r1940, (), rfl, hpost, by rw [ht]; exact hI, hN.warm hW, va_K.moved hW.alike hK⟩, hS.F ht⟩) hS.2.2 dX11_meet_78
            · skip
              have k1941 := iv_eq (X := x3.toInt) (Y := (0)) rfl (by decide) c1907
              refine lv_iload hx hb dX11_meet_63 (lv_at hl 0 rfl) ?_
              refine lv_goto (tgt := 78) hx hb dX11_meet_65 (by decide) ?_
              have hpost : True := trivial
              rw [hQ]
              exact W.iret (v := r1901) hx hb hr (fun t ht hW => ⟨⟨r1901, (), rfl, hpost, by rw [ht]; exact hI, hN.warm hW, va_K.moved hW.alike hK⟩, hS.F ht⟩) hS.2.2 dX11_meet_78
        · skip
          try simp only [rg, not_and, Int.not_le] at hp
          have hp1942 := hp
          refine lv_if_ne (tgt := 42) hx hb dX11_meet_37 (by decide) (fun c => absurd c (by decide)) (fun _ => ?_)
          have hI := th_I.close hI hq1837 hO (ok_4 hq1857 ⟨by omega, by omega⟩ k1861)
          exact J_40 s.heap locs ls  (lv_sub hl [0, 1, 2, 3] rfl)  hI hS
    · skip
      have hp1943 := hp
      refine lv_if_eq (tgt := 40) hx hb dX11_meet_25 (by decide) (fun _ => ?_) (fun c => absurd c (by decide))
      have hI := th_I.close hI hq1837 hO (ok_4 hq1857 ⟨by omega, by omega⟩ k1861)
      exact J_40 s.heap locs ls  (lv_sub hl [0, 1, 2, 3] rfl)  hI hS
  · skip
    have hp1944 := hp
    refine lv_if_eq (tgt := 40) hx hb dX11_meet_11 (by decide) (fun _ => ?_) (fun c => absurd c (by decide))
    have hI := th_I.close hI hq1769 hO (ok_4 hq1789 ⟨by omega, by omega⟩ k1793)
    exact J_40 s.heap locs ls  (lv_sub hl [0, 1, 2, 3] rfl)  hI hS
theorem dX11_pour_0g : (decode cX11_pour 0 = .ok (.iload_n 1, 1)) ∧ (decode cX11_pour 1 = .ok (.iload_n 2, 1)) ∧ (decode cX11_pour 2 = .ok (.iload_n 3, 1)) ∧ (decode cX11_pour 3 = .ok (.iload 4, 2)) ∧ (decode cX11_pour 5 = .ok (.invokestatic 262, 3)) ∧ (decode cX11_pour 8 = .ok (.ifCond .ne 9, 3)) ∧ (decode cX11_pour 11 = .ok (.aload_n 0, 1)) ∧ (decode cX11_pour 12 = .ok (.iconst (-1), 1)) ∧ (decode cX11_pour 13 = .ok (.invokevirtual 113, 3)) ∧ (decode cX11_pour 16 = .ok (.ireturn, 1)) := by decide +kernel
theorem dX11_pour_0 : decode cX11_pour 0 = .ok (.iload_n 1, 1) := dX11_pour_0g.1
theorem dX11_pour_1 : decode cX11_pour 1 = .ok (.iload_n 2, 1) := dX11_pour_0g.2.1
theorem dX11_pour_2 : decode cX11_pour 2 = .ok (.iload_n 3, 1) := dX11_pour_0g.2.2.1
theorem dX11_pour_3 : decode cX11_pour 3 = .ok (.iload 4, 2) := dX11_pour_0g.2.2.2.1
theorem dX11_pour_5 : decode cX11_pour 5 = .ok (.invokestatic 262, 3) := dX11_pour_0g.2.2.2.2.1
theorem dX11_pour_8 : decode cX11_pour 8 = .ok (.ifCond .ne 9, 3) := dX11_pour_0g.2.2.2.2.2.1
theorem dX11_pour_11 : decode cX11_pour 11 = .ok (.aload_n 0, 1) := dX11_pour_0g.2.2.2.2.2.2.1
theorem dX11_pour_12 : decode cX11_pour 12 = .ok (.iconst (-1), 1) := dX11_pour_0g.2.2.2.2.2.2.2.1
theorem dX11_pour_13 : decode cX11_pour 13 = .ok (.invokevirtual 113, 3) := dX11_pour_0g.2.2.2.2.2.2.2.2.1
theorem dX11_pour_16 : decode cX11_pour 16 = .ok (.ireturn, 1) := dX11_pour_0g.2.2.2.2.2.2.2.2.2
theorem dX11_pour_17g : (decode cX11_pour 17 = .ok (.aload_n 0, 1)) ∧ (decode cX11_pour 18 = .ok (.getfield 42, 3)) ∧ (decode cX11_pour 21 = .ok (.iload_n 1, 1)) ∧ (decode cX11_pour 22 = .ok (.iload_n 2, 1)) ∧ (decode cX11_pour 23 = .ok (.invokevirtual 220, 3)) ∧ (decode cX11_pour 26 = .ok (.ifCond .eq 10, 3)) ∧ (decode cX11_pour 29 = .ok (.aload_n 0, 1)) ∧ (decode cX11_pour 30 = .ok (.bipush (-3), 2)) ∧ (decode cX11_pour 32 = .ok (.invokevirtual 113, 3)) ∧ (decode cX11_pour 35 = .ok (.ireturn, 1)) := by decide +kernel
theorem dX11_pour_17 : decode cX11_pour 17 = .ok (.aload_n 0, 1) := dX11_pour_17g.1
theorem dX11_pour_18 : decode cX11_pour 18 = .ok (.getfield 42, 3) := dX11_pour_17g.2.1
theorem dX11_pour_21 : decode cX11_pour 21 = .ok (.iload_n 1, 1) := dX11_pour_17g.2.2.1
theorem dX11_pour_22 : decode cX11_pour 22 = .ok (.iload_n 2, 1) := dX11_pour_17g.2.2.2.1
theorem dX11_pour_23 : decode cX11_pour 23 = .ok (.invokevirtual 220, 3) := dX11_pour_17g.2.2.2.2.1
theorem dX11_pour_26 : decode cX11_pour 26 = .ok (.ifCond .eq 10, 3) := dX11_pour_17g.2.2.2.2.2.1
theorem dX11_pour_29 : decode cX11_pour 29 = .ok (.aload_n 0, 1) := dX11_pour_17g.2.2.2.2.2.2.1
theorem dX11_pour_30 : decode cX11_pour 30 = .ok (.bipush (-3), 2) := dX11_pour_17g.2.2.2.2.2.2.2.1
theorem dX11_pour_32 : decode cX11_pour 32 = .ok (.invokevirtual 113, 3) := dX11_pour_17g.2.2.2.2.2.2.2.2.1
theorem dX11_pour_35 : decode cX11_pour 35 = .ok (.ireturn, 1) := dX11_pour_17g.2.2.2.2.2.2.2.2.2
theorem dX11_pour_36g : (decode cX11_pour 36 = .ok (.aload_n 0, 1)) ∧ (decode cX11_pour 37 = .ok (.getfield 12, 3)) ∧ (decode cX11_pour 40 = .ok (.getfield 266, 3)) ∧ (decode cX11_pour 43 = .ok (.invokevirtual 149, 3)) ∧ (decode cX11_pour 46 = .ok (.ifCond .eq 10, 3)) ∧ (decode cX11_pour 49 = .ok (.aload_n 0, 1)) ∧ (decode cX11_pour 50 = .ok (.bipush (-5), 2)) ∧ (decode cX11_pour 52 = .ok (.invokevirtual 113, 3)) ∧ (decode cX11_pour 55 = .ok (.ireturn, 1)) ∧ (decode cX11_pour 56 = .ok (.aload_n 0, 1)) := by decide +kernel
theorem dX11_pour_36 : decode cX11_pour 36 = .ok (.aload_n 0, 1) := dX11_pour_36g.1
theorem dX11_pour_37 : decode cX11_pour 37 = .ok (.getfield 12, 3) := dX11_pour_36g.2.1
theorem dX11_pour_40 : decode cX11_pour 40 = .ok (.getfield 266, 3) := dX11_pour_36g.2.2.1
theorem dX11_pour_43 : decode cX11_pour 43 = .ok (.invokevirtual 149, 3) := dX11_pour_36g.2.2.2.1
theorem dX11_pour_46 : decode cX11_pour 46 = .ok (.ifCond .eq 10, 3) := dX11_pour_36g.2.2.2.2.1
theorem dX11_pour_49 : decode cX11_pour 49 = .ok (.aload_n 0, 1) := dX11_pour_36g.2.2.2.2.2.1
theorem dX11_pour_50 : decode cX11_pour 50 = .ok (.bipush (-5), 2) := dX11_pour_36g.2.2.2.2.2.2.1
theorem dX11_pour_52 : decode cX11_pour 52 = .ok (.invokevirtual 113, 3) := dX11_pour_36g.2.2.2.2.2.2.2.1
theorem dX11_pour_55 : decode cX11_pour 55 = .ok (.ireturn, 1) := dX11_pour_36g.2.2.2.2.2.2.2.2.1
theorem dX11_pour_56 : decode cX11_pour 56 = .ok (.aload_n 0, 1) := dX11_pour_36g.2.2.2.2.2.2.2.2.2
theorem dX11_pour_57g : (decode cX11_pour 57 = .ok (.invokevirtual 191, 3)) ∧ (decode cX11_pour 60 = .ok (.aload_n 0, 1)) ∧ (decode cX11_pour 61 = .ok (.aload_n 0, 1)) ∧ (decode cX11_pour 62 = .ok (.getfield 12, 3)) ∧ (decode cX11_pour 65 = .ok (.getfield 266, 3)) ∧ (decode cX11_pour 68 = .ok (.iload_n 1, 1)) ∧ (decode cX11_pour 69 = .ok (.iload_n 2, 1)) ∧ (decode cX11_pour 70 = .ok (.iload_n 3, 1)) ∧ (decode cX11_pour 71 = .ok (.iload 4, 2)) ∧ (decode cX11_pour 73 = .ok (.invokevirtual 155, 3)) := by decide +kernel
theorem dX11_pour_57 : decode cX11_pour 57 = .ok (.invokevirtual 191, 3) := dX11_pour_57g.1
theorem dX11_pour_60 : decode cX11_pour 60 = .ok (.aload_n 0, 1) := dX11_pour_57g.2.1
theorem dX11_pour_61 : decode cX11_pour 61 = .ok (.aload_n 0, 1) := dX11_pour_57g.2.2.1
theorem dX11_pour_62 : decode cX11_pour 62 = .ok (.getfield 12, 3) := dX11_pour_57g.2.2.2.1
theorem dX11_pour_65 : decode cX11_pour 65 = .ok (.getfield 266, 3) := dX11_pour_57g.2.2.2.2.1
theorem dX11_pour_68 : decode cX11_pour 68 = .ok (.iload_n 1, 1) := dX11_pour_57g.2.2.2.2.2.1
theorem dX11_pour_69 : decode cX11_pour 69 = .ok (.iload_n 2, 1) := dX11_pour_57g.2.2.2.2.2.2.1
theorem dX11_pour_70 : decode cX11_pour 70 = .ok (.iload_n 3, 1) := dX11_pour_57g.2.2.2.2.2.2.2.1
theorem dX11_pour_71 : decode cX11_pour 71 = .ok (.iload 4, 2) := dX11_pour_57g.2.2.2.2.2.2.2.2.1
theorem dX11_pour_73 : decode cX11_pour 73 = .ok (.invokevirtual 155, 3) := dX11_pour_57g.2.2.2.2.2.2.2.2.2
theorem dX11_pour_76g : (decode cX11_pour 76 = .ok (.invokevirtual 127, 3)) ∧ (decode cX11_pour 79 = .ok (.ireturn, 1)) := by decide +kernel
theorem dX11_pour_76 : decode cX11_pour 76 = .ok (.invokevirtual 127, 3) := dX11_pour_76g.1
theorem dX11_pour_79 : decode cX11_pour 79 = .ok (.ireturn, 1) := dX11_pour_76g.2
set_option maxHeartbeats 4000000 in
set_option maxRecDepth 100000 in
theorem c_X11_pour (l : Launch) (E : Nat → Nat) (D : va_G) (G : th_G) (h0 n : Nat) (hG0 : G h0 = some (15, n)) (x1 x2 x3 x4 : Int32) : Met l yX11_pour (tb (.code yX11_pour cX11_pour 5 (some .int))) (rm 6) (va_Pc [.ref h0, .int x1, .int x2, .int x3, .int x4] (th_P E D G)) (QI E D G (fun r => True)) 0 0 (th_A G) := by
  refine Met.ofW (cc := cX11_pour) (maxL := 5) (ret := (some .int)) (by decide) rfl ?_
  intro p e s m args below meth c s₁ B hml hv
  obtain ⟨hav, hI, hN, hK⟩ := hv
  have hx := B.exec
  have hb := B.bytes
  have hr := B.returns
  have hts := atoms_spec (ws := tb (.code yX11_pour cX11_pour 5 (some .int))) B.pre
  have hown : s.vm.findClass RX11 = some m.cls := findClass_of_methodNamed B.named
  have hlocks := B.notSynchronized
  have hS : va_S (th_A G) s.heap s.heap [] := va_S.rf
  have hl := lv_entry ([.ref h0, .int x1, .int x2, .int x3, .int x4]) (n := 5) (Nat.le_of_ble_eq_true rfl)
  rw [show entryFrame m args 5 = entryFrame m ([.ref h0, .int x1, .int x2, .int x3, .int x4] : List Value).toArray 5 from by rw [hav], lg_entry_eq]
  generalize (lg_sl ([.ref h0, .int x1, .int x2, .int x3, .int x4]) ++ List.replicate (5 - (lg_sl ([.ref h0, .int x1, .int x2, .int x3, .int x4])).length) Slot.unset).toArray = ls at hl ⊢
  have hl : lv_has ls 5 [(0, .ref h0), (1, .int x1), (2, .int x2), (3, .int x3), (4, .int x4)] := hl
  generalize hR : (headSpec (tb (.code yX11_pour cX11_pour 5 (some .int))) (rm 6)).room = R
  have hR := hR.symm
  generalize hQ : MQ below (QI E D G (fun r => True)) args s 0 0 (th_A G) = QF
  have hQ := hQ.symm
  refine lv_iload_n hx hb dX11_pour_0 rfl (lv_at hl 1 rfl) ?_
  refine lv_iload_n hx hb dX11_pour_1 rfl (lv_at hl 2 rfl) ?_
  refine lv_iload_n hx hb dX11_pour_2 rfl (lv_at hl 3 rfl) ?_
  refine lv_iload hx hb dX11_pour_3 (lv_at hl 4 rfl) ?_
  refine th_cSs (As := [.int x1, .int x2, .int x3, .int x4]) (rest := []) (n := 4) (d := 1) ⟨hx, hb, hml, hown, hts⟩ (c_X11_isPour l s.heap x1 x2 x3 x4) wd_617 wd_618 wd_1 wd_619 (by decide +kernel) ⟨by rw [hR]; exact Nat.le_of_ble_eq_true rfl, by rw [hR]; exact Nat.le_of_ble_eq_true rfl⟩ hN hS rfl hl.1 rfl (Nat.le_of_ble_eq_true rfl) dX11_pour_5 ⟨Nat.zero_le _, Nat.zero_le _⟩ (fun r1 locs hp hS => ?_)
  rcases hp with ⟨rfl, hp⟩ | ⟨rfl, hp⟩
  · skip
    try simp only [rg, not_and, Int.not_le] at hp
    have hp2 := hp
    refine lv_if_ne (tgt := 17) hx hb dX11_pour_8 (by decide) (fun _ => ?_) (fun c => absurd c (by decide))
    refine lv_aload_n hx hb dX11_pour_17 rfl (lv_at hl 0 rfl) ?_
    obtain ⟨a3, a6, a8, a10, a12, a14, a16, a18, a20, a22, a24, w26, w29, w30, w31, w32, hO, hq4, hq5, hq7, hq9, hq11, hq13, hq15, hq17, hq19, hq21, hq23, hq25, ⟨k27, k28⟩, k33⟩ := op_15 hI hG0 List.not_mem_nil
    have hI := th_I.weak (a := h0) hI
    refine th_get hx hb hts inT11 hown hK hO rfl 6 (by decide) (hts _ (tb_c wd_351)) rfl rfl dX11_pour_18 ?_
    refine lv_iload_n hx hb dX11_pour_21 rfl (lv_at hl 1 rfl) ?_
    refine lv_iload_n hx hb dX11_pour_22 rfl (lv_at hl 2 rfl) ?_
    have hI := th_I.close hI hG0 hO (ok_15 hq4 hq5 hq7 hq9 hq11 hq13 hq15 hq17 hq19 hq21 hq23 hq25 ⟨by omega, by omega⟩ k33)
    refine th_cVi (As := [.int x1, .int x2]) (rest := []) (n := 2) (d := 5) ⟨hx, hb, hml, hown, hts⟩ (c_X7_isBarred l E D G a14 hq15 x1 x2) wd_623 wd_624 wd_625 wd_6 wd_626 (by decide +kernel) ⟨by rw [hR]; exact Nat.le_of_ble_eq_true rfl, by rw [hR]; exact Nat.le_of_ble_eq_true rfl⟩ hI hN hK hS (rc_9 hI hq15 List.not_mem_nil) rfl rfl hl.1 rfl (Nat.le_of_ble_eq_true rfl) dX11_pour_23 ⟨Nat.zero_le _, Nat.zero_le _⟩ (fun r34 H locs hp hI hS => ?_)
    have hp35 := hp
    refine lv_if_eq (tgt := 36) hx hb dX11_pour_26 (by decide) (fun c36 => ?_) (fun c36 => ?_)
    · skip
      have k37 := iv_eq (X := r34.toInt) (Y := (0)) rfl (by decide) c36
      refine lv_aload_n hx hb dX11_pour_36 rfl (lv_at hl 0 rfl) ?_
      obtain ⟨a38, a41, a43, a45, a47, a49, a51, a53, a55, a57, a59, w61, w64, w65, w66, w67, hO, hq39, hq40, hq42, hq44, hq46, hq48, hq50, hq52, hq54, hq56, hq58, hq60, ⟨k62, k63⟩, k68⟩ := op_15 hI hG0 List.not_mem_nil
      have hI := th_I.weak (a := h0) hI
      refine th_get hx hb hts inT11 hown hK hO rfl 0 (by decide) (hts _ (tb_c wd_345)) rfl rfl dX11_pour_37 ?_
      have hI := th_I.close hI hG0 hO (ok_15 hq39 hq40 hq42 hq44 hq46 hq48 hq50 hq52 hq54 hq56 hq58 hq60 ⟨by omega, by omega⟩ k68)
      obtain ⟨a69, a71, a73, a75, a77, a79, a81, a83, a85, a87, w89, w92, w93, w94, hO, hq70, hq72, hq74, hq76, hq78, hq80, hq82, hq84, hq86, hq88, ⟨k90, k91⟩, k95⟩ := op_6 hI hq39 List.not_mem_nil
      have hI := th_I.weak (a := a38) hI
      refine th_getN hx hb hts inT6 hown hK hN hO rfl 5 (by decide) wn_71 rfl rfl dX11_pour_40 ?_
      have hI := th_I.close hI hq39 hO (ok_6 hq70 hq72 hq74 hq76 hq78 hq80 hq82 hq84 hq86 hq88 ⟨by omega, by omega⟩ k95)
      obtain ⟨a97, w99, hO, hq98, ⟨k100, k101⟩, k102⟩ := op_4 hI hq80 List.not_mem_nil
      have hI := th_I.weak (a := a79) hI
      have k103 : (nI (16 % 32)).toInt = ((16 % 32 : Nat) : Int) := nI_toInt (by omega)
      have k104 := k102.1
      refine th_cVs (As := []) (rest := []) (n := 0) (d := 0) ⟨hx, hb, hml, hown, hts⟩ (c_X4_isFull l E D H a79 (16 % 32) a97 w99 hO (by omega) (by omega) (by omega)) wd_481 wd_482 wd_483 wd_3 wd_484 (by decide +kernel) ⟨by rw [hR]; exact Nat.le_of_ble_eq_true rfl, by rw [hR]; exact Nat.le_of_ble_eq_true rfl⟩ hN hK hS ⟨_, hO⟩ rfl rfl hl.1 rfl (Nat.le_of_ble_eq_true rfl) dX11_pour_43 ⟨Nat.zero_le _, Nat.zero_le _⟩ (fun r96 locs hp hS => ?_)
      rcases hp with ⟨rfl, hp⟩ | ⟨rfl, hp⟩
      · skip
        try simp only [rg, not_and, Int.not_le] at hp
        have hp105 := hp
        refine lv_if_eq (tgt := 56) hx hb dX11_pour_46 (by decide) (fun c => absurd c (by decide)) (fun _ => ?_)
        refine lv_aload_n hx hb dX11_pour_49 rfl (lv_at hl 0 rfl) ?_
        refine lv_bipush (v := (-5)) hx hb dX11_pour_50 (by decide) ?_
        have hI := th_I.close hI hq80 hO (ok_4 hq98 ⟨by omega, by omega⟩ k102)
        refine th_cVi (As := [.int (-5)]) (rest := []) (n := 1) (d := 0) ⟨hx, hb, hml, hown, hts⟩ (c_X11_refuse l E D G h0 (n) hG0 (-5)) wd_407 wd_409 wp_0 wd_1 wd_410 (by decide +kernel) ⟨by rw [hR]; exact Nat.le_of_ble_eq_true rfl, by rw [hR]; exact Nat.le_of_ble_eq_true rfl⟩ hI hN hK hS (rc_15 hI hG0 List.not_mem_nil) rfl rfl hl.1 rfl (Nat.le_of_ble_eq_true rfl) dX11_pour_52 ⟨Nat.zero_le _, Nat.zero_le _⟩ (fun r106 H locs hp hI hS => ?_)
        have hp := hp.symm
        subst hp
        have hpost : True := trivial
        rw [hQ]
        exact W.iret (v := (-5)) hx hb hr (fun t ht hW => ⟨⟨(-5), (), rfl, hpost, by rw [ht]; exact hI, hN.warm hW, va_K.moved hW.alike hK⟩, hS.F ht⟩) hS.2.2 dX11_pour_55
      · skip
        have hp107 := hp
        refine lv_if_eq (tgt := 56) hx hb dX11_pour_46 (by decide) (fun _ => ?_) (fun c => absurd c (by decide))
        refine lv_aload_n hx hb dX11_pour_56 rfl (lv_at hl 0 rfl) ?_
        have hI := th_I.close hI hq80 hO (ok_4 hq98 ⟨by omega, by omega⟩ k102)
        refine th_cVv (As := []) (rest := []) (n := 0) (d := 1) ⟨hx, hb, hml, hown, hts⟩ (c_X11_turnLists l E D G h0 (n) hG0 ) wd_431 wd_433 wp_2 wd_1 wd_434 (by decide +kernel) ⟨by rw [hR]; exact Nat.le_of_ble_eq_true rfl, by rw [hR]; exact Nat.le_of_ble_eq_true rfl⟩ hI hN hK hS (rc_15 hI hG0 List.not_mem_nil) rfl rfl hl.1 rfl (Nat.le_of_ble_eq_true rfl) dX11_pour_57 ⟨Nat.zero_le _, Nat.zero_le _⟩ (fun H locs hI hS => ?_)
        refine lv_aload_n hx hb dX11_pour_60 rfl (lv_at hl 0 rfl) ?_
        refine lv_aload_n hx hb dX11_pour_61 rfl (lv_at hl 0 rfl) ?_
        obtain ⟨a109, a112, a114, a116, a118, a120, a122, a124, a126, a128, a130, w132, w135, w136, w137, w138, hO, hq110, hq111, hq113, hq115, hq117, hq119, hq121, hq123, hq125, hq127, hq129, hq131, ⟨k133, k134⟩, k139⟩ := op_15 hI hG0 List.not_mem_nil
        have hI := th_I.weak (a := h0) hI
        refine th_get hx hb hts inT11 hown hK hO rfl 0 (by decide) (hts _ (tb_c wd_345)) rfl rfl dX11_pour_62 ?_
        have hI := th_I.close hI hG0 hO (ok_15 hq110 hq111 hq113 hq115 hq117 hq119 hq121 hq123 hq125 hq127 hq129 hq131 ⟨by omega, by omega⟩ k139)
        obtain ⟨a140, a142, a144, a146, a148, a150, a152, a154, a156, a158, w160, w163, w164, w165, hO, hq141, hq143, hq145, hq147, hq149, hq151, hq153, hq155, hq157, hq159, ⟨k161, k162⟩, k166⟩ := op_6 hI hq110 List.not_mem_nil
        have hI := th_I.weak (a := a109) hI
        refine th_getN hx hb hts inT6 hown hK hN hO rfl 5 (by decide) wn_71 rfl rfl dX11_pour_65 ?_
        refine lv_iload_n hx hb dX11_pour_68 rfl (lv_at hl 1 rfl) ?_
        refine lv_iload_n hx hb dX11_pour_69 rfl (lv_at hl 2 rfl) ?_
        refine lv_iload_n hx hb dX11_pour_70 rfl (lv_at hl 3 rfl) ?_
        refine lv_iload hx hb dX11_pour_71 (lv_at hl 4 rfl) ?_
        have hI := th_I.close hI hq110 hO (ok_6 hq141 hq143 hq145 hq147 hq149 hq151 hq153 hq155 hq157 hq159 ⟨by omega, by omega⟩ k166)
        refine th_cVi (As := [.int x1, .int x2, .int x3, .int x4]) (rest := [.ref h0]) (n := 4) (d := 1) ⟨hx, hb, hml, hown, hts⟩ (c_X4_put l E D G a150 (16) hq151 x1 x2 x3 x4 (by decide)) wd_485 wd_486 wd_487 wd_3 wd_488 (by decide +kernel) ⟨by rw [hR]; exact Nat.le_of_ble_eq_true rfl, by rw [hR]; exact Nat.le_of_ble_eq_true rfl⟩ hI hN hK hS (rc_4 hI hq151 List.not_mem_nil) rfl rfl hl.1 rfl (Nat.le_of_ble_eq_true rfl) dX11_pour_73 ⟨Nat.zero_le _, Nat.zero_le _⟩ (fun r167 H locs hp hI hS => ?_)
        refine th_cVi (As := [.int r167]) (rest := []) (n := 1) (d := 0) ⟨hx, hb, hml, hown, hts⟩ (c_X11_accept l E D G h0 (n) hG0 r167) wd_447 wd_449 wp_3 wd_1 wd_450 (by decide +kernel) ⟨by rw [hR]; exact Nat.le_of_ble_eq_true rfl, by rw [hR]; exact Nat.le_of_ble_eq_true rfl⟩ hI hN hK hS (rc_15 hI hG0 List.not_mem_nil) rfl rfl hl.1 rfl (Nat.le_of_ble_eq_true rfl) dX11_pour_76 ⟨Nat.zero_le _, Nat.zero_le _⟩ (fun r168 H locs hp hI hS => ?_)
        have hp := hp.symm
        subst hp
        have hpost : True := trivial
        rw [hQ]
        exact W.iret (v := r167) hx hb hr (fun t ht hW => ⟨⟨r167, (), rfl, hpost, by rw [ht]; exact hI, hN.warm hW, va_K.moved hW.alike hK⟩, hS.F ht⟩) hS.2.2 dX11_pour_79
    · skip
      have k169 := iv_ne (X := r34.toInt) (Y := (0)) rfl (by decide) c36
      refine lv_aload_n hx hb dX11_pour_29 rfl (lv_at hl 0 rfl) ?_
      refine lv_bipush (v := (-3)) hx hb dX11_pour_30 (by decide) ?_
      refine th_cVi (As := [.int (-3)]) (rest := []) (n := 1) (d := 0) ⟨hx, hb, hml, hown, hts⟩ (c_X11_refuse l E D G h0 (n) hG0 (-3)) wd_407 wd_409 wp_0 wd_1 wd_410 (by decide +kernel) ⟨by rw [hR]; exact Nat.le_of_ble_eq_true rfl, by rw [hR]; exact Nat.le_of_ble_eq_true rfl⟩ hI hN hK hS (rc_15 hI hG0 List.not_mem_nil) rfl rfl hl.1 rfl (Nat.le_of_ble_eq_true rfl) dX11_pour_32 ⟨Nat.zero_le _, Nat.zero_le _⟩ (fun r170 H locs hp hI hS => ?_)
      have hp := hp.symm
      subst hp
      have hpost : True := trivial
      rw [hQ]
      exact W.iret (v := (-3)) hx hb hr (fun t ht hW => ⟨⟨(-3), (), rfl, hpost, by rw [ht]; exact hI, hN.warm hW, va_K.moved hW.alike hK⟩, hS.F ht⟩) hS.2.2 dX11_pour_35
  · skip
    try simp only [rg, not_and, Int.not_le] at hp
    have hp171 := hp
    refine lv_if_ne (tgt := 17) hx hb dX11_pour_8 (by decide) (fun c => absurd c (by decide)) (fun _ => ?_)
    refine lv_aload_n hx hb dX11_pour_11 rfl (lv_at hl 0 rfl) ?_
    refine lv_iconst (v := (-1)) hx hb dX11_pour_12 (by decide) ?_
    refine th_cVi (As := [.int (-1)]) (rest := []) (n := 1) (d := 0) ⟨hx, hb, hml, hown, hts⟩ (c_X11_refuse l E D G h0 (n) hG0 (-1)) wd_407 wd_409 wp_0 wd_1 wd_410 (by decide +kernel) ⟨by rw [hR]; exact Nat.le_of_ble_eq_true rfl, by rw [hR]; exact Nat.le_of_ble_eq_true rfl⟩ hI hN hK hS (rc_15 hI hG0 List.not_mem_nil) rfl rfl hl.1 rfl (Nat.le_of_ble_eq_true rfl) dX11_pour_13 ⟨Nat.zero_le _, Nat.zero_le _⟩ (fun r172 H locs hp hI hS => ?_)
    have hp := hp.symm
    subst hp
    have hpost : True := trivial
    rw [hQ]
    exact W.iret (v := (-1)) hx hb hr (fun t ht hW => ⟨⟨(-1), (), rfl, hpost, by rw [ht]; exact hI, hN.warm hW, va_K.moved hW.alike hK⟩, hS.F ht⟩) hS.2.2 dX11_pour_16
theorem dX11_undo_0g : (decode cX11_undo 0 = .ok (.aload_n 0, 1)) ∧ (decode cX11_undo 1 = .ok (.getfield 12, 3)) ∧ (decode cX11_undo 4 = .ok (.getfield 266, 3)) ∧ (decode cX11_undo 7 = .ok (.invokevirtual 166, 3)) ∧ (decode cX11_undo 10 = .ok (.istore_n 1, 1)) ∧ (decode cX11_undo 11 = .ok (.iload_n 1, 1)) ∧ (decode cX11_undo 12 = .ok (.ifCond .ne 10, 3)) ∧ (decode cX11_undo 15 = .ok (.aload_n 0, 1)) ∧ (decode cX11_undo 16 = .ok (.bipush (-3), 2)) ∧ (decode cX11_undo 18 = .ok (.invokevirtual 113, 3)) := by decide +kernel
theorem dX11_undo_0 : decode cX11_undo 0 = .ok (.aload_n 0, 1) := dX11_undo_0g.1
theorem dX11_undo_1 : decode cX11_undo 1 = .ok (.getfield 12, 3) := dX11_undo_0g.2.1
theorem dX11_undo_4 : decode cX11_undo 4 = .ok (.getfield 266, 3) := dX11_undo_0g.2.2.1
theorem dX11_undo_7 : decode cX11_undo 7 = .ok (.invokevirtual 166, 3) := dX11_undo_0g.2.2.2.1
theorem dX11_undo_10 : decode cX11_undo 10 = .ok (.istore_n 1, 1) := dX11_undo_0g.2.2.2.2.1
theorem dX11_undo_11 : decode cX11_undo 11 = .ok (.iload_n 1, 1) := dX11_undo_0g.2.2.2.2.2.1
theorem dX11_undo_12 : decode cX11_undo 12 = .ok (.ifCond .ne 10, 3) := dX11_undo_0g.2.2.2.2.2.2.1
theorem dX11_undo_15 : decode cX11_undo 15 = .ok (.aload_n 0, 1) := dX11_undo_0g.2.2.2.2.2.2.2.1
theorem dX11_undo_16 : decode cX11_undo 16 = .ok (.bipush (-3), 2) := dX11_undo_0g.2.2.2.2.2.2.2.2.1
theorem dX11_undo_18 : decode cX11_undo 18 = .ok (.invokevirtual 113, 3) := dX11_undo_0g.2.2.2.2.2.2.2.2.2
theorem dX11_undo_21g : (decode cX11_undo 21 = .ok (.ireturn, 1)) ∧ (decode cX11_undo 22 = .ok (.aload_n 0, 1)) ∧ (decode cX11_undo 23 = .ok (.getfield 12, 3)) ∧ (decode cX11_undo 26 = .ok (.getfield 266, 3)) ∧ (decode cX11_undo 29 = .ok (.iload_n 1, 1)) ∧ (decode cX11_undo 30 = .ok (.iconst 1, 1)) ∧ (decode cX11_undo 31 = .ok (.isub, 1)) ∧ (decode cX11_undo 32 = .ok (.invokevirtual 162, 3)) ∧ (decode cX11_undo 35 = .ok (.aload_n 0, 1)) ∧ (decode cX11_undo 36 = .ok (.invokevirtual 191, 3)) := by decide +kernel
theorem dX11_undo_21 : decode cX11_undo 21 = .ok (.ireturn, 1) := dX11_undo_21g.1
theorem dX11_undo_22 : decode cX11_undo 22 = .ok (.aload_n 0, 1) := dX11_undo_21g.2.1
theorem dX11_undo_23 : decode cX11_undo 23 = .ok (.getfield 12, 3) := dX11_undo_21g.2.2.1
theorem dX11_undo_26 : decode cX11_undo 26 = .ok (.getfield 266, 3) := dX11_undo_21g.2.2.2.1
theorem dX11_undo_29 : decode cX11_undo 29 = .ok (.iload_n 1, 1) := dX11_undo_21g.2.2.2.2.1
theorem dX11_undo_30 : decode cX11_undo 30 = .ok (.iconst 1, 1) := dX11_undo_21g.2.2.2.2.2.1
theorem dX11_undo_31 : decode cX11_undo 31 = .ok (.isub, 1) := dX11_undo_21g.2.2.2.2.2.2.1
theorem dX11_undo_32 : decode cX11_undo 32 = .ok (.invokevirtual 162, 3) := dX11_undo_21g.2.2.2.2.2.2.2.1
theorem dX11_undo_35 : decode cX11_undo 35 = .ok (.aload_n 0, 1) := dX11_undo_21g.2.2.2.2.2.2.2.2.1
theorem dX11_undo_36 : decode cX11_undo 36 = .ok (.invokevirtual 191, 3) := dX11_undo_21g.2.2.2.2.2.2.2.2.2
theorem dX11_undo_39g : (decode cX11_undo 39 = .ok (.aload_n 0, 1)) ∧ (decode cX11_undo 40 = .ok (.iload_n 1, 1)) ∧ (decode cX11_undo 41 = .ok (.iconst 1, 1)) ∧ (decode cX11_undo 42 = .ok (.isub, 1)) ∧ (decode cX11_undo 43 = .ok (.invokevirtual 127, 3)) ∧ (decode cX11_undo 46 = .ok (.ireturn, 1)) := by decide +kernel
theorem dX11_undo_39 : decode cX11_undo 39 = .ok (.aload_n 0, 1) := dX11_undo_39g.1
theorem dX11_undo_40 : decode cX11_undo 40 = .ok (.iload_n 1, 1) := dX11_undo_39g.2.1
theorem dX11_undo_41 : decode cX11_undo 41 = .ok (.iconst 1, 1) := dX11_undo_39g.2.2.1
theorem dX11_undo_42 : decode cX11_undo 42 = .ok (.isub, 1) := dX11_undo_39g.2.2.2.1
theorem dX11_undo_43 : decode cX11_undo 43 = .ok (.invokevirtual 127, 3) := dX11_undo_39g.2.2.2.2.1
theorem dX11_undo_46 : decode cX11_undo 46 = .ok (.ireturn, 1) := dX11_undo_39g.2.2.2.2.2
set_option maxHeartbeats 4000000 in
set_option maxRecDepth 100000 in
theorem c_X11_undo (l : Launch) (E : Nat → Nat) (D : va_G) (G : th_G) (h0 n : Nat) (hG0 : G h0 = some (15, n)) : Met l yX11_undo (tb (.code yX11_undo cX11_undo 2 (some .int))) (rm 2) (va_Pc [.ref h0] (th_P E D G)) (QI E D G (fun r => True)) 0 0 (th_A G) := by
  refine Met.ofW (cc := cX11_undo) (maxL := 2) (ret := (some .int)) (by decide) rfl ?_
  intro p e s m args below meth c s₁ B hml hv
  obtain ⟨hav, hI, hN, hK⟩ := hv
  have hx := B.exec
  have hb := B.bytes
  have hr := B.returns
  have hts := atoms_spec (ws := tb (.code yX11_undo cX11_undo 2 (some .int))) B.pre
  have hown : s.vm.findClass RX11 = some m.cls := findClass_of_methodNamed B.named
  have hlocks := B.notSynchronized
  have hS : va_S (th_A G) s.heap s.heap [] := va_S.rf
  have hl := lv_entry ([.ref h0]) (n := 2) (Nat.le_of_ble_eq_true rfl)
  rw [show entryFrame m args 2 = entryFrame m ([.ref h0] : List Value).toArray 2 from by rw [hav], lg_entry_eq]
  generalize (lg_sl ([.ref h0]) ++ List.replicate (2 - (lg_sl ([.ref h0])).length) Slot.unset).toArray = ls at hl ⊢
  have hl : lv_has ls 2 [(0, .ref h0)] := hl
  generalize hR : (headSpec (tb (.code yX11_undo cX11_undo 2 (some .int))) (rm 2)).room = R
  have hR := hR.symm
  generalize hQ : MQ below (QI E D G (fun r => True)) args s 0 0 (th_A G) = QF
  have hQ := hQ.symm
  refine lv_aload_n hx hb dX11_undo_0 rfl (lv_at hl 0 rfl) ?_
  obtain ⟨a1, a4, a6, a8, a10, a12, a14, a16, a18, a20, a22, w24, w27, w28, w29, w30, hO, hq2, hq3, hq5, hq7, hq9, hq11, hq13, hq15, hq17, hq19, hq21, hq23, ⟨k25, k26⟩, k31⟩ := op_15 hI hG0 List.not_mem_nil
  have hI := th_I.weak (a := h0) hI
  refine th_get hx hb hts inT11 hown hK hO rfl 0 (by decide) (hts _ (tb_c wd_345)) rfl rfl dX11_undo_1 ?_
  have hI := th_I.close hI hG0 hO (ok_15 hq2 hq3 hq5 hq7 hq9 hq11 hq13 hq15 hq17 hq19 hq21 hq23 ⟨by omega, by omega⟩ k31)
  obtain ⟨a32, a34, a36, a38, a40, a42, a44, a46, a48, a50, w52, w55, w56, w57, hO, hq33, hq35, hq37, hq39, hq41, hq43, hq45, hq47, hq49, hq51, ⟨k53, k54⟩, k58⟩ := op_6 hI hq2 List.not_mem_nil
  have hI := th_I.weak (a := a1) hI
  refine th_getN hx hb hts inT6 hown hK hN hO rfl 5 (by decide) wn_71 rfl rfl dX11_undo_4 ?_
  have hI := th_I.close hI hq2 hO (ok_6 hq33 hq35 hq37 hq39 hq41 hq43 hq45 hq47 hq49 hq51 ⟨by omega, by omega⟩ k58)
  obtain ⟨a60, w62, hO, hq61, ⟨k63, k64⟩, k65⟩ := op_4 hI hq43 List.not_mem_nil
  have hI := th_I.weak (a := a42) hI
  have k66 : (nI (16 % 32)).toInt = ((16 % 32 : Nat) : Int) := nI_toInt (by omega)
  have k67 := k65.1
  refine th_cVs (As := []) (rest := []) (n := 0) (d := 0) ⟨hx, hb, hml, hown, hts⟩ (c_X4_size l E D s.heap a42 (16 % 32) a60 w62 hO (by omega) (by omega) (by omega)) wd_506 wd_507 wd_508 wd_3 wd_509 (by decide +kernel) ⟨by rw [hR]; exact Nat.le_of_ble_eq_true rfl, by rw [hR]; exact Nat.le_of_ble_eq_true rfl⟩ hN hK hS ⟨_, hO⟩ rfl rfl hl.1 rfl (Nat.le_of_ble_eq_true rfl) dX11_undo_7 ⟨Nat.zero_le _, Nat.zero_le _⟩ (fun r59 locs hp hS => ?_)
  have hp := hp.symm
  subst hp
  refine lv_istore_n (lv' := [(1, .int w62), (0, .ref h0)]) hx hb dX11_undo_10 rfl hl (by decide) rfl (fun ls hl => ?_)
  refine lv_iload_n hx hb dX11_undo_11 rfl (lv_at hl 0 rfl) ?_
  refine lv_if_ne (tgt := 22) hx hb dX11_undo_12 (by decide) (fun c68 => ?_) (fun c68 => ?_)
  · skip
    have k69 := iv_ne (X := w62.toInt) (Y := (0)) rfl (by decide) c68
    refine lv_aload_n hx hb dX11_undo_22 rfl (lv_at hl 1 rfl) ?_
    have hI := th_I.close hI hq43 hO (ok_4 hq61 ⟨by omega, by omega⟩ k65)
    obtain ⟨a70, a73, a75, a77, a79, a81, a83, a85, a87, a89, a91, w93, w96, w97, w98, w99, hO, hq71, hq72, hq74, hq76, hq78, hq80, hq82, hq84, hq86, hq88, hq90, hq92, ⟨k94, k95⟩, k100⟩ := op_15 hI hG0 List.not_mem_nil
    have hI := th_I.weak (a := h0) hI
    refine th_get hx hb hts inT11 hown hK hO rfl 0 (by decide) (hts _ (tb_c wd_345)) rfl rfl dX11_undo_23 ?_
    have hI := th_I.close hI hG0 hO (ok_15 hq71 hq72 hq74 hq76 hq78 hq80 hq82 hq84 hq86 hq88 hq90 hq92 ⟨by omega, by omega⟩ k100)
    obtain ⟨a101, a103, a105, a107, a109, a111, a113, a115, a117, a119, w121, w124, w125, w126, hO, hq102, hq104, hq106, hq108, hq110, hq112, hq114, hq116, hq118, hq120, ⟨k122, k123⟩, k127⟩ := op_6 hI hq71 List.not_mem_nil
    have hI := th_I.weak (a := a70) hI
    refine th_getN hx hb hts inT6 hown hK hN hO rfl 5 (by decide) wn_71 rfl rfl dX11_undo_26 ?_
    refine lv_iload_n hx hb dX11_undo_29 rfl (lv_at hl 0 rfl) ?_
    refine lv_iconst (v := 1) hx hb dX11_undo_30 (by decide) ?_
    refine lv_isub hx hb dX11_undo_31 ?_
    refine lv_topi (fun v128 e129 => ?_)
    have tv128 : v128.toInt = w62.toInt - (1) := iv_sub rfl (by decide) e129 (by omega) (by omega)
    have hI := th_I.close hI hq71 hO (ok_6 hq102 hq104 hq106 hq108 hq110 hq112 hq114 hq116 hq118 hq120 ⟨by omega, by omega⟩ k127)
    refine th_cVv (As := [.int v128]) (rest := []) (n := 1) (d := 1) ⟨hx, hb, hml, hown, hts⟩ (c_X4_takeOut l E D G a111 (16) hq112 v128 (by decide)) wd_498 wd_499 wd_500 wd_3 wd_501 (by decide +kernel) ⟨by rw [hR]; exact Nat.le_of_ble_eq_true rfl, by rw [hR]; exact Nat.le_of_ble_eq_true rfl⟩ hI hN hK hS (rc_4 hI hq112 List.not_mem_nil) rfl rfl hl.1 rfl (Nat.le_of_ble_eq_true rfl) dX11_undo_32 ⟨Nat.zero_le _, Nat.zero_le _⟩ (fun H locs hI hS => ?_)
    refine lv_aload_n hx hb dX11_undo_35 rfl (lv_at hl 1 rfl) ?_
    refine th_cVv (As := []) (rest := []) (n := 0) (d := 1) ⟨hx, hb, hml, hown, hts⟩ (c_X11_turnLists l E D G h0 (n) hG0 ) wd_431 wd_433 wp_2 wd_1 wd_434 (by decide +kernel) ⟨by rw [hR]; exact Nat.le_of_ble_eq_true rfl, by rw [hR]; exact Nat.le_of_ble_eq_true rfl⟩ hI hN hK hS (rc_15 hI hG0 List.not_mem_nil) rfl rfl hl.1 rfl (Nat.le_of_ble_eq_true rfl) dX11_undo_36 ⟨Nat.zero_le _, Nat.zero_le _⟩ (fun H locs hI hS => ?_)
    refine lv_aload_n hx hb dX11_undo_39 rfl (lv_at hl 1 rfl) ?_
    refine lv_iload_n hx hb dX11_undo_40 rfl (lv_at hl 0 rfl) ?_
    refine lv_iconst (v := 1) hx hb dX11_undo_41 (by decide) ?_
    refine lv_isub hx hb dX11_undo_42 ?_
    refine lv_topi (fun v132 e133 => ?_)
    have tv132 : v132.toInt = w62.toInt - (1) := iv_sub rfl (by decide) e133 (by omega) (by omega)
    refine th_cVi (As := [.int v132]) (rest := []) (n := 1) (d := 0) ⟨hx, hb, hml, hown, hts⟩ (c_X11_accept l E D G h0 (n) hG0 v132) wd_447 wd_449 wp_3 wd_1 wd_450 (by decide +kernel) ⟨by rw [hR]; exact Nat.le_of_ble_eq_true rfl, by rw [hR]; exact Nat.le_of_ble_eq_true rfl⟩ hI hN hK hS (rc_15 hI hG0 List.not_mem_nil) rfl rfl hl.1 rfl (Nat.le_of_ble_eq_true rfl) dX11_undo_43 ⟨Nat.zero_le _, Nat.zero_le _⟩ (fun r134 H locs hp hI hS => ?_)
    have hp := hp.symm
    subst hp
    have hpost : True := trivial
    rw [hQ]
    exact W.iret (v := v132) hx hb hr (fun t ht hW => ⟨⟨v132, (), rfl, hpost, by rw [ht]; exact hI, hN.warm hW, va_K.moved hW.alike hK⟩, hS.F ht⟩) hS.2.2 dX11_undo_46
  · skip
    have k135 := iv_eq (X := w62.toInt) (Y := (0)) rfl (by decide) c68
    refine lv_aload_n hx hb dX11_undo_15 rfl (lv_at hl 1 rfl) ?_
    refine lv_bipush (v := (-3)) hx hb dX11_undo_16 (by decide) ?_
    have hI := th_I.close hI hq43 hO (ok_4 hq61 ⟨by omega, by omega⟩ k65)
    refine th_cVi (As := [.int (-3)]) (rest := []) (n := 1) (d := 0) ⟨hx, hb, hml, hown, hts⟩ (c_X11_refuse l E D G h0 (n) hG0 (-3)) wd_407 wd_409 wp_0 wd_1 wd_410 (by decide +kernel) ⟨by rw [hR]; exact Nat.le_of_ble_eq_true rfl, by rw [hR]; exact Nat.le_of_ble_eq_true rfl⟩ hI hN hK hS (rc_15 hI hG0 List.not_mem_nil) rfl rfl hl.1 rfl (Nat.le_of_ble_eq_true rfl) dX11_undo_18 ⟨Nat.zero_le _, Nat.zero_le _⟩ (fun r136 H locs hp hI hS => ?_)
    have hp := hp.symm
    subst hp
    have hpost : True := trivial
    rw [hQ]
    exact W.iret (v := (-3)) hx hb hr (fun t ht hW => ⟨⟨(-3), (), rfl, hpost, by rw [ht]; exact hI, hN.warm hW, va_K.moved hW.alike hK⟩, hS.F ht⟩) hS.2.2 dX11_undo_21
theorem dX11_dye_0g : (decode cX11_dye 0 = .ok (.iload_n 1, 1)) ∧ (decode cX11_dye 1 = .ok (.invokestatic 240, 3)) ∧ (decode cX11_dye 4 = .ok (.ifCond .eq 30, 3)) ∧ (decode cX11_dye 7 = .ok (.iload_n 2, 1)) ∧ (decode cX11_dye 8 = .ok (.invokestatic 226, 3)) ∧ (decode cX11_dye 11 = .ok (.ifCond .eq 23, 3)) ∧ (decode cX11_dye 14 = .ok (.iload_n 3, 1)) ∧ (decode cX11_dye 15 = .ok (.invokestatic 269, 3)) ∧ (decode cX11_dye 18 = .ok (.ifCond .eq 16, 3)) ∧ (decode cX11_dye 21 = .ok (.aload_n 0, 1)) := by decide +kernel
theorem dX11_dye_0 : decode cX11_dye 0 = .ok (.iload_n 1, 1) := dX11_dye_0g.1
theorem dX11_dye_1 : decode cX11_dye 1 = .ok (.invokestatic 240, 3) := dX11_dye_0g.2.1
theorem dX11_dye_4 : decode cX11_dye 4 = .ok (.ifCond .eq 30, 3) := dX11_dye_0g.2.2.1
theorem dX11_dye_7 : decode cX11_dye 7 = .ok (.iload_n 2, 1) := dX11_dye_0g.2.2.2.1
theorem dX11_dye_8 : decode cX11_dye 8 = .ok (.invokestatic 226, 3) := dX11_dye_0g.2.2.2.2.1
theorem dX11_dye_11 : decode cX11_dye 11 = .ok (.ifCond .eq 23, 3) := dX11_dye_0g.2.2.2.2.2.1
theorem dX11_dye_14 : decode cX11_dye 14 = .ok (.iload_n 3, 1) := dX11_dye_0g.2.2.2.2.2.2.1
theorem dX11_dye_15 : decode cX11_dye 15 = .ok (.invokestatic 269, 3) := dX11_dye_0g.2.2.2.2.2.2.2.1
theorem dX11_dye_18 : decode cX11_dye 18 = .ok (.ifCond .eq 16, 3) := dX11_dye_0g.2.2.2.2.2.2.2.2.1
theorem dX11_dye_21 : decode cX11_dye 21 = .ok (.aload_n 0, 1) := dX11_dye_0g.2.2.2.2.2.2.2.2.2
theorem dX11_dye_22g : (decode cX11_dye 22 = .ok (.getfield 60, 3)) ∧ (decode cX11_dye 25 = .ok (.iload_n 1, 1)) ∧ (decode cX11_dye 26 = .ok (.iload_n 2, 1)) ∧ (decode cX11_dye 27 = .ok (.iload_n 3, 1)) ∧ (decode cX11_dye 28 = .ok (.invokevirtual 272, 3)) ∧ (decode cX11_dye 31 = .ok (.goto 4, 3)) ∧ (decode cX11_dye 34 = .ok (.iconst (-1), 1)) ∧ (decode cX11_dye 35 = .ok (.ireturn, 1)) := by decide +kernel
theorem dX11_dye_22 : decode cX11_dye 22 = .ok (.getfield 60, 3) := dX11_dye_22g.1
theorem dX11_dye_25 : decode cX11_dye 25 = .ok (.iload_n 1, 1) := dX11_dye_22g.2.1
theorem dX11_dye_26 : decode cX11_dye 26 = .ok (.iload_n 2, 1) := dX11_dye_22g.2.2.1
theorem dX11_dye_27 : decode cX11_dye 27 = .ok (.iload_n 3, 1) := dX11_dye_22g.2.2.2.1
theorem dX11_dye_28 : decode cX11_dye 28 = .ok (.invokevirtual 272, 3) := dX11_dye_22g.2.2.2.2.1
theorem dX11_dye_31 : decode cX11_dye 31 = .ok (.goto 4, 3) := dX11_dye_22g.2.2.2.2.2.1
theorem dX11_dye_34 : decode cX11_dye 34 = .ok (.iconst (-1), 1) := dX11_dye_22g.2.2.2.2.2.2.1
theorem dX11_dye_35 : decode cX11_dye 35 = .ok (.ireturn, 1) := dX11_dye_22g.2.2.2.2.2.2.2
set_option maxHeartbeats 4000000 in
set_option maxRecDepth 100000 in
theorem c_X11_dye (l : Launch) (E : Nat → Nat) (D : va_G) (G : th_G) (h0 n : Nat) (hG0 : G h0 = some (15, n)) (x1 x2 x3 : Int32) : Met l yX11_dye (tb (.code yX11_dye cX11_dye 4 (some .int))) (rm 8) (va_Pc [.ref h0, .int x1, .int x2, .int x3] (th_P E D G)) (QI E D G (fun r => True)) 0 0 (th_A G) := by
  refine Met.ofW (cc := cX11_dye) (maxL := 4) (ret := (some .int)) (by decide) rfl ?_
  intro p e s m args below meth c s₁ B hml hv
  obtain ⟨hav, hI, hN, hK⟩ := hv
  have hx := B.exec
  have hb := B.bytes
  have hr := B.returns
  have hts := atoms_spec (ws := tb (.code yX11_dye cX11_dye 4 (some .int))) B.pre
  have hown : s.vm.findClass RX11 = some m.cls := findClass_of_methodNamed B.named
  have hlocks := B.notSynchronized
  have hS : va_S (th_A G) s.heap s.heap [] := va_S.rf
  have hl := lv_entry ([.ref h0, .int x1, .int x2, .int x3]) (n := 4) (Nat.le_of_ble_eq_true rfl)
  rw [show entryFrame m args 4 = entryFrame m ([.ref h0, .int x1, .int x2, .int x3] : List Value).toArray 4 from by rw [hav], lg_entry_eq]
  generalize (lg_sl ([.ref h0, .int x1, .int x2, .int x3]) ++ List.replicate (4 - (lg_sl ([.ref h0, .int x1, .int x2, .int x3])).length) Slot.unset).toArray = ls at hl ⊢
  have hl : lv_has ls 4 [(0, .ref h0), (1, .int x1), (2, .int x2), (3, .int x3)] := hl
  generalize hR : (headSpec (tb (.code yX11_dye cX11_dye 4 (some .int))) (rm 8)).room = R
  have hR := hR.symm
  generalize hQ : MQ below (QI E D G (fun r => True)) args s 0 0 (th_A G) = QF
  have hQ := hQ.symm
  refine lv_iload_n hx hb dX11_dye_0 rfl (lv_at hl 1 rfl) ?_
  refine th_cSs (As := [.int x1]) (rest := []) (n := 1) (d := 0) ⟨hx, hb, hml, hown, hts⟩ (c_X11_isPlace l s.heap x1) wd_847 wd_848 wd_1 wd_849 (by decide +kernel) ⟨by rw [hR]; exact Nat.le_of_ble_eq_true rfl, by rw [hR]; exact Nat.le_of_ble_eq_true rfl⟩ hN hS rfl hl.1 rfl (Nat.le_of_ble_eq_true rfl) dX11_dye_1 ⟨Nat.zero_le _, Nat.zero_le _⟩ (fun r1 locs hp hS => ?_)
  rcases hp with ⟨rfl, hp⟩ | ⟨rfl, hp⟩
  · skip
    try simp only [rg, not_and, Int.not_le] at hp
    have hp2 := hp
    refine lv_if_eq (tgt := 34) hx hb dX11_dye_4 (by decide) (fun c => absurd c (by decide)) (fun _ => ?_)
    refine lv_iload_n hx hb dX11_dye_7 rfl (lv_at hl 2 rfl) ?_
    refine th_cSs (As := [.int x2]) (rest := []) (n := 1) (d := 0) ⟨hx, hb, hml, hown, hts⟩ (c_X11_isMoment l s.heap x2) wd_826 wd_827 wd_1 wd_828 (by decide +kernel) ⟨by rw [hR]; exact Nat.le_of_ble_eq_true rfl, by rw [hR]; exact Nat.le_of_ble_eq_true rfl⟩ hN hS rfl hl.1 rfl (Nat.le_of_ble_eq_true rfl) dX11_dye_8 ⟨Nat.zero_le _, Nat.zero_le _⟩ (fun r3 locs hp hS => ?_)
    rcases hp with ⟨rfl, hp⟩ | ⟨rfl, hp⟩
    · skip
      try simp only [rg, not_and, Int.not_le] at hp
      have hp4 := hp
      refine lv_if_eq (tgt := 34) hx hb dX11_dye_11 (by decide) (fun c => absurd c (by decide)) (fun _ => ?_)
      refine lv_iload_n hx hb dX11_dye_14 rfl (lv_at hl 3 rfl) ?_
      refine th_cSs (As := [.int x3]) (rest := []) (n := 1) (d := 0) ⟨hx, hb, hml, hown, hts⟩ (c_X11_isColour l s.heap x3) wd_620 wd_621 wd_1 wd_622 (by decide +kernel) ⟨by rw [hR]; exact Nat.le_of_ble_eq_true rfl, by rw [hR]; exact Nat.le_of_ble_eq_true rfl⟩ hN hS rfl hl.1 rfl (Nat.le_of_ble_eq_true rfl) dX11_dye_15 ⟨Nat.zero_le _, Nat.zero_le _⟩ (fun r5 locs hp hS => ?_)
      rcases hp with ⟨rfl, hp⟩ | ⟨rfl, hp⟩
      · skip
        try simp only [rg, not_and, Int.not_le] at hp
        have hp6 := hp
        refine lv_if_eq (tgt := 34) hx hb dX11_dye_18 (by decide) (fun c => absurd c (by decide)) (fun _ => ?_)
        refine lv_aload_n hx hb dX11_dye_21 rfl (lv_at hl 0 rfl) ?_
        obtain ⟨a7, a10, a12, a14, a16, a18, a20, a22, a24, a26, a28, w30, w33, w34, w35, w36, hO, hq8, hq9, hq11, hq13, hq15, hq17, hq19, hq21, hq23, hq25, hq27, hq29, ⟨k31, k32⟩, k37⟩ := op_15 hI hG0 List.not_mem_nil
        have hI := th_I.weak (a := h0) hI
        refine th_get hx hb hts inT11 hown hK hO rfl 8 (by decide) (hts _ (tb_c wd_353)) rfl rfl dX11_dye_22 ?_
        refine lv_iload_n hx hb dX11_dye_25 rfl (lv_at hl 1 rfl) ?_
        refine lv_iload_n hx hb dX11_dye_26 rfl (lv_at hl 2 rfl) ?_
        refine lv_iload_n hx hb dX11_dye_27 rfl (lv_at hl 3 rfl) ?_
        have hI := th_I.close hI hG0 hO (ok_15 hq8 hq9 hq11 hq13 hq15 hq17 hq19 hq21 hq23 hq25 hq27 hq29 ⟨by omega, by omega⟩ k37)
        refine th_cVi (As := [.int x1, .int x2, .int x3]) (rest := []) (n := 3) (d := 7) ⟨hx, hb, hml, hown, hts⟩ (c_X1_amountAt l E D G a22 hq23 x1 x2 x3) wd_916 wd_917 wd_918 wd_9 wd_919 (by decide +kernel) ⟨by rw [hR]; exact Nat.le_of_ble_eq_true rfl, by rw [hR]; exact Nat.le_of_ble_eq_true rfl⟩ hI hN hK hS (rc_11 hI hq23 List.not_mem_nil) rfl rfl hl.1 rfl (Nat.le_of_ble_eq_true rfl) dX11_dye_28 ⟨Nat.zero_le _, Nat.zero_le _⟩ (fun r38 H locs hp hI hS => ?_)
        refine lv_goto (tgt := 35) hx hb dX11_dye_31 (by decide) ?_
        have hpost : True := trivial
        rw [hQ]
        exact W.iret (v := r38) hx hb hr (fun t ht hW => ⟨⟨r38, (), rfl, hpost, by rw [ht]; exact hI, hN.warm hW, va_K.moved hW.alike hK⟩, hS.F ht⟩) hS.2.2 dX11_dye_35
      · skip
        try simp only [rg, not_and, Int.not_le] at hp
        have hp39 := hp
        refine lv_if_eq (tgt := 34) hx hb dX11_dye_18 (by decide) (fun _ => ?_) (fun c => absurd c (by decide))
        refine lv_iconst (v := (-1)) hx hb dX11_dye_34 (by decide) ?_
        have hpost : True := trivial
        rw [hQ]
        exact W.iret (v := (-1)) hx hb hr (fun t ht hW => ⟨⟨(-1), (), rfl, hpost, by rw [ht]; exact hI, hN.warm hW, va_K.moved hW.alike hK⟩, hS.F ht⟩) hS.2.2 dX11_dye_35
    · skip
      try simp only [rg, not_and, Int.not_le] at hp
      have hp40 := hp
      refine lv_if_eq (tgt := 34) hx hb dX11_dye_11 (by decide) (fun _ => ?_) (fun c => absurd c (by decide))
      refine lv_iconst (v := (-1)) hx hb dX11_dye_34 (by decide) ?_
      have hpost : True := trivial
      rw [hQ]
      exact W.iret (v := (-1)) hx hb hr (fun t ht hW => ⟨⟨(-1), (), rfl, hpost, by rw [ht]; exact hI, hN.warm hW, va_K.moved hW.alike hK⟩, hS.F ht⟩) hS.2.2 dX11_dye_35
  · skip
    try simp only [rg, not_and, Int.not_le] at hp
    have hp41 := hp
    refine lv_if_eq (tgt := 34) hx hb dX11_dye_4 (by decide) (fun _ => ?_) (fun c => absurd c (by decide))
    refine lv_iconst (v := (-1)) hx hb dX11_dye_34 (by decide) ?_
    have hpost : True := trivial
    rw [hQ]
    exact W.iret (v := (-1)) hx hb hr (fun t ht hW => ⟨⟨(-1), (), rfl, hpost, by rw [ht]; exact hI, hN.warm hW, va_K.moved hW.alike hK⟩, hS.F ht⟩) hS.2.2 dX11_dye_35
theorem dX11_comes_0g : (decode cX11_comes 0 = .ok (.iload_n 1, 1)) ∧ (decode cX11_comes 1 = .ok (.invokestatic 240, 3)) ∧ (decode cX11_comes 4 = .ok (.ifCond .eq 30, 3)) ∧ (decode cX11_comes 7 = .ok (.iload_n 2, 1)) ∧ (decode cX11_comes 8 = .ok (.invokestatic 269, 3)) ∧ (decode cX11_comes 11 = .ok (.ifCond .eq 23, 3)) ∧ (decode cX11_comes 14 = .ok (.iload_n 3, 1)) ∧ (decode cX11_comes 15 = .ok (.invokestatic 226, 3)) ∧ (decode cX11_comes 18 = .ok (.ifCond .eq 16, 3)) ∧ (decode cX11_comes 21 = .ok (.aload_n 0, 1)) := by decide +kernel
theorem dX11_comes_0 : decode cX11_comes 0 = .ok (.iload_n 1, 1) := dX11_comes_0g.1
theorem dX11_comes_1 : decode cX11_comes 1 = .ok (.invokestatic 240, 3) := dX11_comes_0g.2.1
theorem dX11_comes_4 : decode cX11_comes 4 = .ok (.ifCond .eq 30, 3) := dX11_comes_0g.2.2.1
theorem dX11_comes_7 : decode cX11_comes 7 = .ok (.iload_n 2, 1) := dX11_comes_0g.2.2.2.1
theorem dX11_comes_8 : decode cX11_comes 8 = .ok (.invokestatic 269, 3) := dX11_comes_0g.2.2.2.2.1
theorem dX11_comes_11 : decode cX11_comes 11 = .ok (.ifCond .eq 23, 3) := dX11_comes_0g.2.2.2.2.2.1
theorem dX11_comes_14 : decode cX11_comes 14 = .ok (.iload_n 3, 1) := dX11_comes_0g.2.2.2.2.2.2.1
theorem dX11_comes_15 : decode cX11_comes 15 = .ok (.invokestatic 226, 3) := dX11_comes_0g.2.2.2.2.2.2.2.1
theorem dX11_comes_18 : decode cX11_comes 18 = .ok (.ifCond .eq 16, 3) := dX11_comes_0g.2.2.2.2.2.2.2.2.1
theorem dX11_comes_21 : decode cX11_comes 21 = .ok (.aload_n 0, 1) := dX11_comes_0g.2.2.2.2.2.2.2.2.2
theorem dX11_comes_22g : (decode cX11_comes 22 = .ok (.getfield 60, 3)) ∧ (decode cX11_comes 25 = .ok (.iload_n 1, 1)) ∧ (decode cX11_comes 26 = .ok (.iload_n 2, 1)) ∧ (decode cX11_comes 27 = .ok (.iload_n 3, 1)) ∧ (decode cX11_comes 28 = .ok (.invokevirtual 275, 3)) ∧ (decode cX11_comes 31 = .ok (.goto 4, 3)) ∧ (decode cX11_comes 34 = .ok (.iconst (-1), 1)) ∧ (decode cX11_comes 35 = .ok (.ireturn, 1)) := by decide +kernel
theorem dX11_comes_22 : decode cX11_comes 22 = .ok (.getfield 60, 3) := dX11_comes_22g.1
theorem dX11_comes_25 : decode cX11_comes 25 = .ok (.iload_n 1, 1) := dX11_comes_22g.2.1
theorem dX11_comes_26 : decode cX11_comes 26 = .ok (.iload_n 2, 1) := dX11_comes_22g.2.2.1
theorem dX11_comes_27 : decode cX11_comes 27 = .ok (.iload_n 3, 1) := dX11_comes_22g.2.2.2.1
theorem dX11_comes_28 : decode cX11_comes 28 = .ok (.invokevirtual 275, 3) := dX11_comes_22g.2.2.2.2.1
theorem dX11_comes_31 : decode cX11_comes 31 = .ok (.goto 4, 3) := dX11_comes_22g.2.2.2.2.2.1
theorem dX11_comes_34 : decode cX11_comes 34 = .ok (.iconst (-1), 1) := dX11_comes_22g.2.2.2.2.2.2.1
theorem dX11_comes_35 : decode cX11_comes 35 = .ok (.ireturn, 1) := dX11_comes_22g.2.2.2.2.2.2.2
set_option maxHeartbeats 4000000 in
set_option maxRecDepth 100000 in
theorem c_X11_comes (l : Launch) (E : Nat → Nat) (D : va_G) (G : th_G) (h0 n : Nat) (hG0 : G h0 = some (15, n)) (x1 x2 x3 : Int32) : Met l yX11_comes (tb (.code yX11_comes cX11_comes 4 (some .int))) (rm 8) (va_Pc [.ref h0, .int x1, .int x2, .int x3] (th_P E D G)) (QI E D G (fun r => True)) 0 0 (th_A G) := by
  refine Met.ofW (cc := cX11_comes) (maxL := 4) (ret := (some .int)) (by decide) rfl ?_
  intro p e s m args below meth c s₁ B hml hv
  obtain ⟨hav, hI, hN, hK⟩ := hv
  have hx := B.exec
  have hb := B.bytes
  have hr := B.returns
  have hts := atoms_spec (ws := tb (.code yX11_comes cX11_comes 4 (some .int))) B.pre
  have hown : s.vm.findClass RX11 = some m.cls := findClass_of_methodNamed B.named
  have hlocks := B.notSynchronized
  have hS : va_S (th_A G) s.heap s.heap [] := va_S.rf
  have hl := lv_entry ([.ref h0, .int x1, .int x2, .int x3]) (n := 4) (Nat.le_of_ble_eq_true rfl)
  rw [show entryFrame m args 4 = entryFrame m ([.ref h0, .int x1, .int x2, .int x3] : List Value).toArray 4 from by rw [hav], lg_entry_eq]
  generalize (lg_sl ([.ref h0, .int x1, .int x2, .int x3]) ++ List.replicate (4 - (lg_sl ([.ref h0, .int x1, .int x2, .int x3])).length) Slot.unset).toArray = ls at hl ⊢
  have hl : lv_has ls 4 [(0, .ref h0), (1, .int x1), (2, .int x2), (3, .int x3)] := hl
  generalize hR : (headSpec (tb (.code yX11_comes cX11_comes 4 (some .int))) (rm 8)).room = R
  have hR := hR.symm
  generalize hQ : MQ below (QI E D G (fun r => True)) args s 0 0 (th_A G) = QF
  have hQ := hQ.symm
  refine lv_iload_n hx hb dX11_comes_0 rfl (lv_at hl 1 rfl) ?_
  refine th_cSs (As := [.int x1]) (rest := []) (n := 1) (d := 0) ⟨hx, hb, hml, hown, hts⟩ (c_X11_isPlace l s.heap x1) wd_847 wd_848 wd_1 wd_849 (by decide +kernel) ⟨by rw [hR]; exact Nat.le_of_ble_eq_true rfl, by rw [hR]; exact Nat.le_of_ble_eq_true rfl⟩ hN hS rfl hl.1 rfl (Nat.le_of_ble_eq_true rfl) dX11_comes_1 ⟨Nat.zero_le _, Nat.zero_le _⟩ (fun r1 locs hp hS => ?_)
  rcases hp with ⟨rfl, hp⟩ | ⟨rfl, hp⟩
  · skip
    try simp only [rg, not_and, Int.not_le] at hp
    have hp2 := hp
    refine lv_if_eq (tgt := 34) hx hb dX11_comes_4 (by decide) (fun c => absurd c (by decide)) (fun _ => ?_)
    refine lv_iload_n hx hb dX11_comes_7 rfl (lv_at hl 2 rfl) ?_
    refine th_cSs (As := [.int x2]) (rest := []) (n := 1) (d := 0) ⟨hx, hb, hml, hown, hts⟩ (c_X11_isColour l s.heap x2) wd_620 wd_621 wd_1 wd_622 (by decide +kernel) ⟨by rw [hR]; exact Nat.le_of_ble_eq_true rfl, by rw [hR]; exact Nat.le_of_ble_eq_true rfl⟩ hN hS rfl hl.1 rfl (Nat.le_of_ble_eq_true rfl) dX11_comes_8 ⟨Nat.zero_le _, Nat.zero_le _⟩ (fun r3 locs hp hS => ?_)
    rcases hp with ⟨rfl, hp⟩ | ⟨rfl, hp⟩
    · skip
      try simp only [rg, not_and, Int.not_le] at hp
      have hp4 := hp
      refine lv_if_eq (tgt := 34) hx hb dX11_comes_11 (by decide) (fun c => absurd c (by decide)) (fun _ => ?_)
      refine lv_iload_n hx hb dX11_comes_14 rfl (lv_at hl 3 rfl) ?_
      refine th_cSs (As := [.int x3]) (rest := []) (n := 1) (d := 0) ⟨hx, hb, hml, hown, hts⟩ (c_X11_isMoment l s.heap x3) wd_826 wd_827 wd_1 wd_828 (by decide +kernel) ⟨by rw [hR]; exact Nat.le_of_ble_eq_true rfl, by rw [hR]; exact Nat.le_of_ble_eq_true rfl⟩ hN hS rfl hl.1 rfl (Nat.le_of_ble_eq_true rfl) dX11_comes_15 ⟨Nat.zero_le _, Nat.zero_le _⟩ (fun r5 locs hp hS => ?_)
      rcases hp with ⟨rfl, hp⟩ | ⟨rfl, hp⟩
      · skip
        try simp only [rg, not_and, Int.not_le] at hp
        have hp6 := hp
        refine lv_if_eq (tgt := 34) hx hb dX11_comes_18 (by decide) (fun c => absurd c (by decide)) (fun _ => ?_)
        refine lv_aload_n hx hb dX11_comes_21 rfl (lv_at hl 0 rfl) ?_
        obtain ⟨a7, a10, a12, a14, a16, a18, a20, a22, a24, a26, a28, w30, w33, w34, w35, w36, hO, hq8, hq9, hq11, hq13, hq15, hq17, hq19, hq21, hq23, hq25, hq27, hq29, ⟨k31, k32⟩, k37⟩ := op_15 hI hG0 List.not_mem_nil
        have hI := th_I.weak (a := h0) hI
        refine th_get hx hb hts inT11 hown hK hO rfl 8 (by decide) (hts _ (tb_c wd_353)) rfl rfl dX11_comes_22 ?_
        refine lv_iload_n hx hb dX11_comes_25 rfl (lv_at hl 1 rfl) ?_
        refine lv_iload_n hx hb dX11_comes_26 rfl (lv_at hl 2 rfl) ?_
        refine lv_iload_n hx hb dX11_comes_27 rfl (lv_at hl 3 rfl) ?_
        have hI := th_I.close hI hG0 hO (ok_15 hq8 hq9 hq11 hq13 hq15 hq17 hq19 hq21 hq23 hq25 hq27 hq29 ⟨by omega, by omega⟩ k37)
        refine th_cVi (As := [.int x1, .int x2, .int x3]) (rest := []) (n := 3) (d := 7) ⟨hx, hb, hml, hown, hts⟩ (c_X1_firstComing l E D G a22 hq23 x1 x2 x3) wd_931 wd_932 wd_933 wd_9 wd_934 (by decide +kernel) ⟨by rw [hR]; exact Nat.le_of_ble_eq_true rfl, by rw [hR]; exact Nat.le_of_ble_eq_true rfl⟩ hI hN hK hS (rc_11 hI hq23 List.not_mem_nil) rfl rfl hl.1 rfl (Nat.le_of_ble_eq_true rfl) dX11_comes_28 ⟨Nat.zero_le _, Nat.zero_le _⟩ (fun r38 H locs hp hI hS => ?_)
        refine lv_goto (tgt := 35) hx hb dX11_comes_31 (by decide) ?_
        have hpost : True := trivial
        rw [hQ]
        exact W.iret (v := r38) hx hb hr (fun t ht hW => ⟨⟨r38, (), rfl, hpost, by rw [ht]; exact hI, hN.warm hW, va_K.moved hW.alike hK⟩, hS.F ht⟩) hS.2.2 dX11_comes_35
      · skip
        try simp only [rg, not_and, Int.not_le] at hp
        have hp39 := hp
        refine lv_if_eq (tgt := 34) hx hb dX11_comes_18 (by decide) (fun _ => ?_) (fun c => absurd c (by decide))
        refine lv_iconst (v := (-1)) hx hb dX11_comes_34 (by decide) ?_
        have hpost : True := trivial
        rw [hQ]
        exact W.iret (v := (-1)) hx hb hr (fun t ht hW => ⟨⟨(-1), (), rfl, hpost, by rw [ht]; exact hI, hN.warm hW, va_K.moved hW.alike hK⟩, hS.F ht⟩) hS.2.2 dX11_comes_35
    · skip
      try simp only [rg, not_and, Int.not_le] at hp
      have hp40 := hp
      refine lv_if_eq (tgt := 34) hx hb dX11_comes_11 (by decide) (fun _ => ?_) (fun c => absurd c (by decide))
      refine lv_iconst (v := (-1)) hx hb dX11_comes_34 (by decide) ?_
      have hpost : True := trivial
      rw [hQ]
      exact W.iret (v := (-1)) hx hb hr (fun t ht hW => ⟨⟨(-1), (), rfl, hpost, by rw [ht]; exact hI, hN.warm hW, va_K.moved hW.alike hK⟩, hS.F ht⟩) hS.2.2 dX11_comes_35
  · skip
    try simp only [rg, not_and, Int.not_le] at hp
    have hp41 := hp
    refine lv_if_eq (tgt := 34) hx hb dX11_comes_4 (by decide) (fun _ => ?_) (fun c => absurd c (by decide))
    refine lv_iconst (v := (-1)) hx hb dX11_comes_34 (by decide) ?_
    have hpost : True := trivial
    rw [hQ]
    exact W.iret (v := (-1)) hx hb hr (fun t ht hW => ⟨⟨(-1), (), rfl, hpost, by rw [ht]; exact hI, hN.warm hW, va_K.moved hW.alike hK⟩, hS.F ht⟩) hS.2.2 dX11_comes_35
theorem dX11_most_0g : (decode cX11_most 0 = .ok (.iload_n 1, 1)) ∧ (decode cX11_most 1 = .ok (.invokestatic 211, 3)) ∧ (decode cX11_most 4 = .ok (.ifCond .eq 17, 3)) ∧ (decode cX11_most 7 = .ok (.iload_n 2, 1)) ∧ (decode cX11_most 8 = .ok (.invokestatic 269, 3)) ∧ (decode cX11_most 11 = .ok (.ifCond .eq 10, 3)) ∧ (decode cX11_most 14 = .ok (.iload_n 3, 1)) ∧ (decode cX11_most 15 = .ok (.invokestatic 138, 3)) ∧ (decode cX11_most 18 = .ok (.ifCond .ne 5, 3)) ∧ (decode cX11_most 21 = .ok (.iconst (-1), 1)) := by decide +kernel
theorem dX11_most_0 : decode cX11_most 0 = .ok (.iload_n 1, 1) := dX11_most_0g.1
theorem dX11_most_1 : decode cX11_most 1 = .ok (.invokestatic 211, 3) := dX11_most_0g.2.1
theorem dX11_most_4 : decode cX11_most 4 = .ok (.ifCond .eq 17, 3) := dX11_most_0g.2.2.1
theorem dX11_most_7 : decode cX11_most 7 = .ok (.iload_n 2, 1) := dX11_most_0g.2.2.2.1
theorem dX11_most_8 : decode cX11_most 8 = .ok (.invokestatic 269, 3) := dX11_most_0g.2.2.2.2.1
theorem dX11_most_11 : decode cX11_most 11 = .ok (.ifCond .eq 10, 3) := dX11_most_0g.2.2.2.2.2.1
theorem dX11_most_14 : decode cX11_most 14 = .ok (.iload_n 3, 1) := dX11_most_0g.2.2.2.2.2.2.1
theorem dX11_most_15 : decode cX11_most 15 = .ok (.invokestatic 138, 3) := dX11_most_0g.2.2.2.2.2.2.2.1
theorem dX11_most_18 : decode cX11_most 18 = .ok (.ifCond .ne 5, 3) := dX11_most_0g.2.2.2.2.2.2.2.2.1
theorem dX11_most_21 : decode cX11_most 21 = .ok (.iconst (-1), 1) := dX11_most_0g.2.2.2.2.2.2.2.2.2
theorem dX11_most_22g : (decode cX11_most 22 = .ok (.ireturn, 1)) ∧ (decode cX11_most 23 = .ok (.aload_n 0, 1)) ∧ (decode cX11_most 24 = .ok (.getfield 60, 3)) ∧ (decode cX11_most 27 = .ok (.iload_n 1, 1)) ∧ (decode cX11_most 28 = .ok (.iload_n 2, 1)) ∧ (decode cX11_most 29 = .ok (.invokevirtual 278, 3)) ∧ (decode cX11_most 32 = .ok (.iload_n 3, 1)) ∧ (decode cX11_most 33 = .ok (.ifCond .ne 13, 3)) ∧ (decode cX11_most 36 = .ok (.aload_n 0, 1)) ∧ (decode cX11_most 37 = .ok (.getfield 60, 3)) := by decide +kernel
theorem dX11_most_22 : decode cX11_most 22 = .ok (.ireturn, 1) := dX11_most_22g.1
theorem dX11_most_23 : decode cX11_most 23 = .ok (.aload_n 0, 1) := dX11_most_22g.2.1
theorem dX11_most_24 : decode cX11_most 24 = .ok (.getfield 60, 3) := dX11_most_22g.2.2.1
theorem dX11_most_27 : decode cX11_most 27 = .ok (.iload_n 1, 1) := dX11_most_22g.2.2.2.1
theorem dX11_most_28 : decode cX11_most 28 = .ok (.iload_n 2, 1) := dX11_most_22g.2.2.2.2.1
theorem dX11_most_29 : decode cX11_most 29 = .ok (.invokevirtual 278, 3) := dX11_most_22g.2.2.2.2.2.1
theorem dX11_most_32 : decode cX11_most 32 = .ok (.iload_n 3, 1) := dX11_most_22g.2.2.2.2.2.2.1
theorem dX11_most_33 : decode cX11_most 33 = .ok (.ifCond .ne 13, 3) := dX11_most_22g.2.2.2.2.2.2.2.1
theorem dX11_most_36 : decode cX11_most 36 = .ok (.aload_n 0, 1) := dX11_most_22g.2.2.2.2.2.2.2.2.1
theorem dX11_most_37 : decode cX11_most 37 = .ok (.getfield 60, 3) := dX11_most_22g.2.2.2.2.2.2.2.2.2
theorem dX11_most_40g : (decode cX11_most 40 = .ok (.invokevirtual 282, 3)) ∧ (decode cX11_most 43 = .ok (.goto 10, 3)) ∧ (decode cX11_most 46 = .ok (.aload_n 0, 1)) ∧ (decode cX11_most 47 = .ok (.getfield 60, 3)) ∧ (decode cX11_most 50 = .ok (.invokevirtual 285, 3)) ∧ (decode cX11_most 53 = .ok (.ireturn, 1)) := by decide +kernel
theorem dX11_most_40 : decode cX11_most 40 = .ok (.invokevirtual 282, 3) := dX11_most_40g.1
theorem dX11_most_43 : decode cX11_most 43 = .ok (.goto 10, 3) := dX11_most_40g.2.1
theorem dX11_most_46 : decode cX11_most 46 = .ok (.aload_n 0, 1) := dX11_most_40g.2.2.1
theorem dX11_most_47 : decode cX11_most 47 = .ok (.getfield 60, 3) := dX11_most_40g.2.2.2.1
theorem dX11_most_50 : decode cX11_most 50 = .ok (.invokevirtual 285, 3) := dX11_most_40g.2.2.2.2.1
theorem dX11_most_53 : decode cX11_most 53 = .ok (.ireturn, 1) := dX11_most_40g.2.2.2.2.2
set_option maxHeartbeats 4000000 in
set_option maxRecDepth 100000 in
theorem c_X11_most (l : Launch) (E : Nat → Nat) (D : va_G) (G : th_G) (h0 n : Nat) (hG0 : G h0 = some (15, n)) (x1 x2 x3 : Int32) : Met l yX11_most (tb (.code yX11_most cX11_most 4 (some .int))) (rm 8) (va_Pc [.ref h0, .int x1, .int x2, .int x3] (th_P E D G)) (QI E D G (fun r => True)) 0 0 (th_A G) := by
  refine Met.ofW (cc := cX11_most) (maxL := 4) (ret := (some .int)) (by decide) rfl ?_
  intro p e s m args below meth c s₁ B hml hv
  obtain ⟨hav, hI, hN, hK⟩ := hv
  have hx := B.exec
  have hb := B.bytes
  have hr := B.returns
  have hts := atoms_spec (ws := tb (.code yX11_most cX11_most 4 (some .int))) B.pre
  have hown : s.vm.findClass RX11 = some m.cls := findClass_of_methodNamed B.named
  have hlocks := B.notSynchronized
  have hS : va_S (th_A G) s.heap s.heap [] := va_S.rf
  have hl := lv_entry ([.ref h0, .int x1, .int x2, .int x3]) (n := 4) (Nat.le_of_ble_eq_true rfl)
  rw [show entryFrame m args 4 = entryFrame m ([.ref h0, .int x1, .int x2, .int x3] : List Value).toArray 4 from by rw [hav], lg_entry_eq]
  generalize (lg_sl ([.ref h0, .int x1, .int x2, .int x3]) ++ List.replicate (4 - (lg_sl ([.ref h0, .int x1, .int x2, .int x3])).length) Slot.unset).toArray = ls at hl ⊢
  have hl : lv_has ls 4 [(0, .ref h0), (1, .int x1), (2, .int x2), (3, .int x3)] := hl
  generalize hR : (headSpec (tb (.code yX11_most cX11_most 4 (some .int))) (rm 8)).room = R
  have hR := hR.symm
  generalize hQ : MQ below (QI E D G (fun r => True)) args s 0 0 (th_A G) = QF
  have hQ := hQ.symm
  have J_21 : ∀ (H : Heap) (locs : List Loc) (ls : Array Slot) , lv_has ls 4 [(0, .ref h0), (1, .int x1), (2, .int x2), (3, .int x3)] → th_I (okC E) D G [] H → va_S (th_A G) s.heap H locs → W p l e R s m args below meth c H locs 0 0 QF (F0 m 21 ls []) := by
    intro H locs ls  hl  hI hS
    refine lv_iconst (v := (-1)) hx hb dX11_most_21 (by decide) ?_
    have hpost : True := trivial
    rw [hQ]
    exact W.iret (v := (-1)) hx hb hr (fun t ht hW => ⟨⟨(-1), (), rfl, hpost, by rw [ht]; exact hI, hN.warm hW, va_K.moved hW.alike hK⟩, hS.F ht⟩) hS.2.2 dX11_most_22
  refine lv_iload_n hx hb dX11_most_0 rfl (lv_at hl 1 rfl) ?_
  refine th_cSs (As := [.int x1]) (rest := []) (n := 1) (d := 0) ⟨hx, hb, hml, hown, hts⟩ (c_X11_isHour l s.heap x1) wd_466 wd_467 wd_1 wd_468 (by decide +kernel) ⟨by rw [hR]; exact Nat.le_of_ble_eq_true rfl, by rw [hR]; exact Nat.le_of_ble_eq_true rfl⟩ hN hS rfl hl.1 rfl (Nat.le_of_ble_eq_true rfl) dX11_most_1 ⟨Nat.zero_le _, Nat.zero_le _⟩ (fun r865 locs hp hS => ?_)
  rcases hp with ⟨rfl, hp⟩ | ⟨rfl, hp⟩
  · skip
    try simp only [rg, not_and, Int.not_le] at hp
    have hp866 := hp
    refine lv_if_eq (tgt := 21) hx hb dX11_most_4 (by decide) (fun c => absurd c (by decide)) (fun _ => ?_)
    refine lv_iload_n hx hb dX11_most_7 rfl (lv_at hl 2 rfl) ?_
    refine th_cSs (As := [.int x2]) (rest := []) (n := 1) (d := 0) ⟨hx, hb, hml, hown, hts⟩ (c_X11_isColour l s.heap x2) wd_620 wd_621 wd_1 wd_622 (by decide +kernel) ⟨by rw [hR]; exact Nat.le_of_ble_eq_true rfl, by rw [hR]; exact Nat.le_of_ble_eq_true rfl⟩ hN hS rfl hl.1 rfl (Nat.le_of_ble_eq_true rfl) dX11_most_8 ⟨Nat.zero_le _, Nat.zero_le _⟩ (fun r867 locs hp hS => ?_)
    rcases hp with ⟨rfl, hp⟩ | ⟨rfl, hp⟩
    · skip
      try simp only [rg, not_and, Int.not_le] at hp
      have hp868 := hp
      refine lv_if_eq (tgt := 21) hx hb dX11_most_11 (by decide) (fun c => absurd c (by decide)) (fun _ => ?_)
      refine lv_iload_n hx hb dX11_most_14 rfl (lv_at hl 3 rfl) ?_
      refine th_cSs (As := [.int x3]) (rest := []) (n := 1) (d := 0) ⟨hx, hb, hml, hown, hts⟩ (c_X11_isFlag l s.heap x3) wd_469 wd_470 wd_1 wd_471 (by decide +kernel) ⟨by rw [hR]; exact Nat.le_of_ble_eq_true rfl, by rw [hR]; exact Nat.le_of_ble_eq_true rfl⟩ hN hS rfl hl.1 rfl (Nat.le_of_ble_eq_true rfl) dX11_most_15 ⟨Nat.zero_le _, Nat.zero_le _⟩ (fun r869 locs hp hS => ?_)
      rcases hp with ⟨rfl, hp⟩ | ⟨rfl, hp⟩
      · skip
        try simp only [rg, not_and, Int.not_le] at hp
        have hp870 := hp
        refine lv_if_ne (tgt := 23) hx hb dX11_most_18 (by decide) (fun _ => ?_) (fun c => absurd c (by decide))
        refine lv_aload_n hx hb dX11_most_23 rfl (lv_at hl 0 rfl) ?_
        obtain ⟨a871, a874, a876, a878, a880, a882, a884, a886, a888, a890, a892, w894, w897, w898, w899, w900, hO, hq872, hq873, hq875, hq877, hq879, hq881, hq883, hq885, hq887, hq889, hq891, hq893, ⟨k895, k896⟩, k901⟩ := op_15 hI hG0 List.not_mem_nil
        have hI := th_I.weak (a := h0) hI
        refine th_get hx hb hts inT11 hown hK hO rfl 8 (by decide) (hts _ (tb_c wd_353)) rfl rfl dX11_most_24 ?_
        refine lv_iload_n hx hb dX11_most_27 rfl (lv_at hl 1 rfl) ?_
        refine lv_iload_n hx hb dX11_most_28 rfl (lv_at hl 2 rfl) ?_
        have hI := th_I.close hI hG0 hO (ok_15 hq872 hq873 hq875 hq877 hq879 hq881 hq883 hq885 hq887 hq889 hq891 hq893 ⟨by omega, by omega⟩ k901)
        refine th_cVv (As := [.int x1, .int x2]) (rest := []) (n := 2) (d := 7) ⟨hx, hb, hml, hown, hts⟩ (c_X1_spread l E D G a886 hq887 x1 x2) wd_941 wd_942 wd_943 wd_9 wd_944 (by decide +kernel) ⟨by rw [hR]; exact Nat.le_of_ble_eq_true rfl, by rw [hR]; exact Nat.le_of_ble_eq_true rfl⟩ hI hN hK hS (rc_11 hI hq887 List.not_mem_nil) rfl rfl hl.1 rfl (Nat.le_of_ble_eq_true rfl) dX11_most_29 ⟨Nat.zero_le _, Nat.zero_le _⟩ (fun H locs hI hS => ?_)
        refine lv_iload_n hx hb dX11_most_32 rfl (lv_at hl 3 rfl) ?_
        refine lv_if_ne (tgt := 46) hx hb dX11_most_33 (by decide) (fun c903 => ?_) (fun c903 => ?_)
        · skip
          have k904 := iv_ne (X := x3.toInt) (Y := (0)) rfl (by decide) c903
          refine lv_aload_n hx hb dX11_most_46 rfl (lv_at hl 0 rfl) ?_
          obtain ⟨a905, a908, a910, a912, a914, a916, a918, a920, a922, a924, a926, w928, w931, w932, w933, w934, hO, hq906, hq907, hq909, hq911, hq913, hq915, hq917, hq919, hq921, hq923, hq925, hq927, ⟨k929, k930⟩, k935⟩ := op_15 hI hG0 List.not_mem_nil
          have hI := th_I.weak (a := h0) hI
          refine th_get hx hb hts inT11 hown hK hO rfl 8 (by decide) (hts _ (tb_c wd_353)) rfl rfl dX11_most_47 ?_
          have hI := th_I.close hI hG0 hO (ok_15 hq906 hq907 hq909 hq911 hq913 hq915 hq917 hq919 hq921 hq923 hq925 hq927 ⟨by omega, by omega⟩ k935)
          refine th_cVi (As := []) (rest := []) (n := 0) (d := 0) ⟨hx, hb, hml, hown, hts⟩ (c_X1_coloured l E D G a920 hq921 ) wd_951 wd_952 wd_953 wd_9 wd_954 (by decide +kernel) ⟨by rw [hR]; exact Nat.le_of_ble_eq_true rfl, by rw [hR]; exact Nat.le_of_ble_eq_true rfl⟩ hI hN hK hS (rc_11 hI hq921 List.not_mem_nil) rfl rfl hl.1 rfl (Nat.le_of_ble_eq_true rfl) dX11_most_50 ⟨Nat.zero_le _, Nat.zero_le _⟩ (fun r936 H locs hp hI hS => ?_)
          have hpost : True := trivial
          rw [hQ]
          exact W.iret (v := r936) hx hb hr (fun t ht hW => ⟨⟨r936, (), rfl, hpost, by rw [ht]; exact hI, hN.warm hW, va_K.moved hW.alike hK⟩, hS.F ht⟩) hS.2.2 dX11_most_53
        · skip
          have k937 := iv_eq (X := x3.toInt) (Y := (0)) rfl (by decide) c903
          refine lv_aload_n hx hb dX11_most_36 rfl (lv_at hl 0 rfl) ?_
          obtain ⟨a938, a941, a943, a945, a947, a949, a951, a953, a955, a957, a959, w961, w964, w965, w966, w967, hO, hq939, hq940, hq942, hq944, hq946, hq948, hq950, hq952, hq954, hq956, hq958, hq960, ⟨k962, k963⟩, k968⟩ := op_15 hI hG0 List.not_mem_nil
          have hI := th_I.weak (a := h0) hI
          refine th_get hx hb hts inT11 hown hK hO rfl 8 (by decide) (hts _ (tb_c wd_353)) rfl rfl dX11_most_37 ?_
          have hI := th_I.close hI hG0 hO (ok_15 hq939 hq940 hq942 hq944 hq946 hq948 hq950 hq952 hq954 hq956 hq958 hq960 ⟨by omega, by omega⟩ k968)
          refine th_cVi (As := []) (rest := []) (n := 0) (d := 0) ⟨hx, hb, hml, hown, hts⟩ (c_X1_fullest l E D G a953 hq954 ) wd_947 wd_948 wd_949 wd_9 wd_950 (by decide +kernel) ⟨by rw [hR]; exact Nat.le_of_ble_eq_true rfl, by rw [hR]; exact Nat.le_of_ble_eq_true rfl⟩ hI hN hK hS (rc_11 hI hq954 List.not_mem_nil) rfl rfl hl.1 rfl (Nat.le_of_ble_eq_true rfl) dX11_most_40 ⟨Nat.zero_le _, Nat.zero_le _⟩ (fun r969 H locs hp hI hS => ?_)
          refine lv_goto (tgt := 53) hx hb dX11_most_43 (by decide) ?_
          have hpost : True := trivial
          rw [hQ]
          exact W.iret (v := r969) hx hb hr (fun t ht hW => ⟨⟨r969, (), rfl, hpost, by rw [ht]; exact hI, hN.warm hW, va_K.moved hW.alike hK⟩, hS.F ht⟩) hS.2.2 dX11_most_53
      · skip
        try simp only [rg, not_and, Int.not_le] at hp
        have hp970 := hp
        refine lv_if_ne (tgt := 23) hx hb dX11_most_18 (by decide) (fun c => absurd c (by decide)) (fun _ => ?_)
        exact J_21 s.heap locs ls  (lv_sub hl [0, 1, 2, 3] rfl)  hI hS
    · skip
      try simp only [rg, not_and, Int.not_le] at hp
      have hp971 := hp
      refine lv_if_eq (tgt := 21) hx hb dX11_most_11 (by decide) (fun _ => ?_) (fun c => absurd c (by decide))
      exact J_21 s.heap locs ls  (lv_sub hl [0, 1, 2, 3] rfl)  hI hS
  · skip
    try simp only [rg, not_and, Int.not_le] at hp
    have hp972 := hp
    refine lv_if_eq (tgt := 21) hx hb dX11_most_4 (by decide) (fun _ => ?_) (fun c => absurd c (by decide))
    exact J_21 s.heap locs ls  (lv_sub hl [0, 1, 2, 3] rfl)  hI hS
theorem dX11_least_0g : (decode cX11_least 0 = .ok (.iload_n 1, 1)) ∧ (decode cX11_least 1 = .ok (.invokestatic 240, 3)) ∧ (decode cX11_least 4 = .ok (.ifCond .eq 41, 3)) ∧ (decode cX11_least 7 = .ok (.iload_n 2, 1)) ∧ (decode cX11_least 8 = .ok (.invokestatic 226, 3)) ∧ (decode cX11_least 11 = .ok (.ifCond .eq 34, 3)) ∧ (decode cX11_least 14 = .ok (.iload_n 3, 1)) ∧ (decode cX11_least 15 = .ok (.invokestatic 226, 3)) ∧ (decode cX11_least 18 = .ok (.ifCond .eq 27, 3)) ∧ (decode cX11_least 21 = .ok (.iload_n 2, 1)) := by decide +kernel
theorem dX11_least_0 : decode cX11_least 0 = .ok (.iload_n 1, 1) := dX11_least_0g.1
theorem dX11_least_1 : decode cX11_least 1 = .ok (.invokestatic 240, 3) := dX11_least_0g.2.1
theorem dX11_least_4 : decode cX11_least 4 = .ok (.ifCond .eq 41, 3) := dX11_least_0g.2.2.1
theorem dX11_least_7 : decode cX11_least 7 = .ok (.iload_n 2, 1) := dX11_least_0g.2.2.2.1
theorem dX11_least_8 : decode cX11_least 8 = .ok (.invokestatic 226, 3) := dX11_least_0g.2.2.2.2.1
theorem dX11_least_11 : decode cX11_least 11 = .ok (.ifCond .eq 34, 3) := dX11_least_0g.2.2.2.2.2.1
theorem dX11_least_14 : decode cX11_least 14 = .ok (.iload_n 3, 1) := dX11_least_0g.2.2.2.2.2.2.1
theorem dX11_least_15 : decode cX11_least 15 = .ok (.invokestatic 226, 3) := dX11_least_0g.2.2.2.2.2.2.2.1
theorem dX11_least_18 : decode cX11_least 18 = .ok (.ifCond .eq 27, 3) := dX11_least_0g.2.2.2.2.2.2.2.2.1
theorem dX11_least_21 : decode cX11_least 21 = .ok (.iload_n 2, 1) := dX11_least_0g.2.2.2.2.2.2.2.2.2
theorem dX11_least_22g : (decode cX11_least 22 = .ok (.iload_n 3, 1)) ∧ (decode cX11_least 23 = .ok (.if_icmp .gt 22, 3)) ∧ (decode cX11_least 26 = .ok (.iload 4, 2)) ∧ (decode cX11_least 28 = .ok (.invokestatic 211, 3)) ∧ (decode cX11_least 31 = .ok (.ifCond .eq 14, 3)) ∧ (decode cX11_least 34 = .ok (.iload 5, 2)) ∧ (decode cX11_least 36 = .ok (.ifCond .lt 9, 3)) ∧ (decode cX11_least 39 = .ok (.iload 5, 2)) ∧ (decode cX11_least 41 = .ok (.iconst 3, 1)) ∧ (decode cX11_least 42 = .ok (.if_icmp .le 5, 3)) := by decide +kernel
theorem dX11_least_22 : decode cX11_least 22 = .ok (.iload_n 3, 1) := dX11_least_22g.1
theorem dX11_least_23 : decode cX11_least 23 = .ok (.if_icmp .gt 22, 3) := dX11_least_22g.2.1
theorem dX11_least_26 : decode cX11_least 26 = .ok (.iload 4, 2) := dX11_least_22g.2.2.1
theorem dX11_least_28 : decode cX11_least 28 = .ok (.invokestatic 211, 3) := dX11_least_22g.2.2.2.1
theorem dX11_least_31 : decode cX11_least 31 = .ok (.ifCond .eq 14, 3) := dX11_least_22g.2.2.2.2.1
theorem dX11_least_34 : decode cX11_least 34 = .ok (.iload 5, 2) := dX11_least_22g.2.2.2.2.2.1
theorem dX11_least_36 : decode cX11_least 36 = .ok (.ifCond .lt 9, 3) := dX11_least_22g.2.2.2.2.2.2.1
theorem dX11_least_39 : decode cX11_least 39 = .ok (.iload 5, 2) := dX11_least_22g.2.2.2.2.2.2.2.1
theorem dX11_least_41 : decode cX11_least 41 = .ok (.iconst 3, 1) := dX11_least_22g.2.2.2.2.2.2.2.2.1
theorem dX11_least_42 : decode cX11_least 42 = .ok (.if_icmp .le 5, 3) := dX11_least_22g.2.2.2.2.2.2.2.2.2
theorem dX11_least_45g : (decode cX11_least 45 = .ok (.iconst (-1), 1)) ∧ (decode cX11_least 46 = .ok (.ireturn, 1)) ∧ (decode cX11_least 47 = .ok (.aload_n 0, 1)) ∧ (decode cX11_least 48 = .ok (.getfield 78, 3)) ∧ (decode cX11_least 51 = .ok (.iload_n 1, 1)) ∧ (decode cX11_least 52 = .ok (.iload_n 2, 1)) ∧ (decode cX11_least 53 = .ok (.iload_n 3, 1)) ∧ (decode cX11_least 54 = .ok (.iload 4, 2)) ∧ (decode cX11_least 56 = .ok (.iload 5, 2)) ∧ (decode cX11_least 58 = .ok (.invokevirtual 288, 3)) := by decide +kernel
theorem dX11_least_45 : decode cX11_least 45 = .ok (.iconst (-1), 1) := dX11_least_45g.1
theorem dX11_least_46 : decode cX11_least 46 = .ok (.ireturn, 1) := dX11_least_45g.2.1
theorem dX11_least_47 : decode cX11_least 47 = .ok (.aload_n 0, 1) := dX11_least_45g.2.2.1
theorem dX11_least_48 : decode cX11_least 48 = .ok (.getfield 78, 3) := dX11_least_45g.2.2.2.1
theorem dX11_least_51 : decode cX11_least 51 = .ok (.iload_n 1, 1) := dX11_least_45g.2.2.2.2.1
theorem dX11_least_52 : decode cX11_least 52 = .ok (.iload_n 2, 1) := dX11_least_45g.2.2.2.2.2.1
theorem dX11_least_53 : decode cX11_least 53 = .ok (.iload_n 3, 1) := dX11_least_45g.2.2.2.2.2.2.1
theorem dX11_least_54 : decode cX11_least 54 = .ok (.iload 4, 2) := dX11_least_45g.2.2.2.2.2.2.2.1
theorem dX11_least_56 : decode cX11_least 56 = .ok (.iload 5, 2) := dX11_least_45g.2.2.2.2.2.2.2.2.1
theorem dX11_least_58 : decode cX11_least 58 = .ok (.invokevirtual 288, 3) := dX11_least_45g.2.2.2.2.2.2.2.2.2
theorem dX11_least_61 : decode cX11_least 61 = .ok (.ireturn, 1) := by decide +kernel
set_option maxHeartbeats 4000000 in
set_option maxRecDepth 100000 in
theorem c_X11_least (l : Launch) (E : Nat → Nat) (D : va_G) (G : th_G) (h0 n : Nat) (hG0 : G h0 = some (15, n)) (x1 x2 x3 x4 x5 : Int32) : Met l yX11_least (tb (.code yX11_least cX11_least 6 (some .int))) (rm 7) (va_Pc [.ref h0, .int x1, .int x2, .int x3, .int x4, .int x5] (th_P E D G)) (QI E D G (fun r => True)) 0 0 (th_A G) := by
  refine Met.ofW (cc := cX11_least) (maxL := 6) (ret := (some .int)) (by decide) rfl ?_
  intro p e s m args below meth c s₁ B hml hv
  obtain ⟨hav, hI, hN, hK⟩ := hv
  have hx := B.exec
  have hb := B.bytes
  have hr := B.returns
  have hts := atoms_spec (ws := tb (.code yX11_least cX11_least 6 (some .int))) B.pre
  have hown : s.vm.findClass RX11 = some m.cls := findClass_of_methodNamed B.named
  have hlocks := B.notSynchronized
  have hS : va_S (th_A G) s.heap s.heap [] := va_S.rf
  have hl := lv_entry ([.ref h0, .int x1, .int x2, .int x3, .int x4, .int x5]) (n := 6) (Nat.le_of_ble_eq_true rfl)
  rw [show entryFrame m args 6 = entryFrame m ([.ref h0, .int x1, .int x2, .int x3, .int x4, .int x5] : List Value).toArray 6 from by rw [hav], lg_entry_eq]
  generalize (lg_sl ([.ref h0, .int x1, .int x2, .int x3, .int x4, .int x5]) ++ List.replicate (6 - (lg_sl ([.ref h0, .int x1, .int x2, .int x3, .int x4, .int x5])).length) Slot.unset).toArray = ls at hl ⊢
  have hl : lv_has ls 6 [(0, .ref h0), (1, .int x1), (2, .int x2), (3, .int x3), (4, .int x4), (5, .int x5)] := hl
  generalize hR : (headSpec (tb (.code yX11_least cX11_least 6 (some .int))) (rm 7)).room = R
  have hR := hR.symm
  generalize hQ : MQ below (QI E D G (fun r => True)) args s 0 0 (th_A G) = QF
  have hQ := hQ.symm
  have J_45 : ∀ (H : Heap) (locs : List Loc) (ls : Array Slot) , lv_has ls 6 [(0, .ref h0), (1, .int x1), (2, .int x2), (3, .int x3), (4, .int x4), (5, .int x5)] → th_I (okC E) D G [] H → va_S (th_A G) s.heap H locs → W p l e R s m args below meth c H locs 0 0 QF (F0 m 45 ls []) := by
    intro H locs ls  hl  hI hS
    refine lv_iconst (v := (-1)) hx hb dX11_least_45 (by decide) ?_
    have hpost : True := trivial
    rw [hQ]
    exact W.iret (v := (-1)) hx hb hr (fun t ht hW => ⟨⟨(-1), (), rfl, hpost, by rw [ht]; exact hI, hN.warm hW, va_K.moved hW.alike hK⟩, hS.F ht⟩) hS.2.2 dX11_least_46
  refine lv_iload_n hx hb dX11_least_0 rfl (lv_at hl 1 rfl) ?_
  refine th_cSs (As := [.int x1]) (rest := []) (n := 1) (d := 0) ⟨hx, hb, hml, hown, hts⟩ (c_X11_isPlace l s.heap x1) wd_847 wd_848 wd_1 wd_849 (by decide +kernel) ⟨by rw [hR]; exact Nat.le_of_ble_eq_true rfl, by rw [hR]; exact Nat.le_of_ble_eq_true rfl⟩ hN hS rfl hl.1 rfl (Nat.le_of_ble_eq_true rfl) dX11_least_1 ⟨Nat.zero_le _, Nat.zero_le _⟩ (fun r441 locs hp hS => ?_)
  rcases hp with ⟨rfl, hp⟩ | ⟨rfl, hp⟩
  · skip
    try simp only [rg, not_and, Int.not_le] at hp
    have hp442 := hp
    refine lv_if_eq (tgt := 45) hx hb dX11_least_4 (by decide) (fun c => absurd c (by decide)) (fun _ => ?_)
    refine lv_iload_n hx hb dX11_least_7 rfl (lv_at hl 2 rfl) ?_
    refine th_cSs (As := [.int x2]) (rest := []) (n := 1) (d := 0) ⟨hx, hb, hml, hown, hts⟩ (c_X11_isMoment l s.heap x2) wd_826 wd_827 wd_1 wd_828 (by decide +kernel) ⟨by rw [hR]; exact Nat.le_of_ble_eq_true rfl, by rw [hR]; exact Nat.le_of_ble_eq_true rfl⟩ hN hS rfl hl.1 rfl (Nat.le_of_ble_eq_true rfl) dX11_least_8 ⟨Nat.zero_le _, Nat.zero_le _⟩ (fun r443 locs hp hS => ?_)
    rcases hp with ⟨rfl, hp⟩ | ⟨rfl, hp⟩
    · skip
      try simp only [rg, not_and, Int.not_le] at hp
      have hp444 := hp
      refine lv_if_eq (tgt := 45) hx hb dX11_least_11 (by decide) (fun c => absurd c (by decide)) (fun _ => ?_)
      refine lv_iload_n hx hb dX11_least_14 rfl (lv_at hl 3 rfl) ?_
      refine th_cSs (As := [.int x3]) (rest := []) (n := 1) (d := 0) ⟨hx, hb, hml, hown, hts⟩ (c_X11_isMoment l s.heap x3) wd_826 wd_827 wd_1 wd_828 (by decide +kernel) ⟨by rw [hR]; exact Nat.le_of_ble_eq_true rfl, by rw [hR]; exact Nat.le_of_ble_eq_true rfl⟩ hN hS rfl hl.1 rfl (Nat.le_of_ble_eq_true rfl) dX11_least_15 ⟨Nat.zero_le _, Nat.zero_le _⟩ (fun r445 locs hp hS => ?_)
      rcases hp with ⟨rfl, hp⟩ | ⟨rfl, hp⟩
      · skip
        try simp only [rg, not_and, Int.not_le] at hp
        have hp446 := hp
        refine lv_if_eq (tgt := 45) hx hb dX11_least_18 (by decide) (fun c => absurd c (by decide)) (fun _ => ?_)
        refine lv_iload_n hx hb dX11_least_21 rfl (lv_at hl 2 rfl) ?_
        refine lv_iload_n hx hb dX11_least_22 rfl (lv_at hl 3 rfl) ?_
        refine lv_icmp_gt (tgt := 45) hx hb dX11_least_23 (by decide) (fun c447 => ?_) (fun c447 => ?_)
        · skip
          have k448 := iv_lt (X := x3.toInt) (Y := x2.toInt) rfl rfl c447
          exact J_45 s.heap locs ls  (lv_sub hl [0, 1, 2, 3, 4, 5] rfl)  hI hS
        · skip
          have k449 := iv_nlt (X := x3.toInt) (Y := x2.toInt) rfl rfl c447
          refine lv_iload hx hb dX11_least_26 (lv_at hl 4 rfl) ?_
          refine th_cSs (As := [.int x4]) (rest := []) (n := 1) (d := 0) ⟨hx, hb, hml, hown, hts⟩ (c_X11_isHour l s.heap x4) wd_466 wd_467 wd_1 wd_468 (by decide +kernel) ⟨by rw [hR]; exact Nat.le_of_ble_eq_true rfl, by rw [hR]; exact Nat.le_of_ble_eq_true rfl⟩ hN hS rfl hl.1 rfl (Nat.le_of_ble_eq_true rfl) dX11_least_28 ⟨Nat.zero_le _, Nat.zero_le _⟩ (fun r450 locs hp hS => ?_)
          rcases hp with ⟨rfl, hp⟩ | ⟨rfl, hp⟩
          · skip
            try simp only [rg, not_and, Int.not_le] at hp
            have hp451 := hp
            refine lv_if_eq (tgt := 45) hx hb dX11_least_31 (by decide) (fun c => absurd c (by decide)) (fun _ => ?_)
            refine lv_iload hx hb dX11_least_34 (lv_at hl 5 rfl) ?_
            have k452 := iv_lo x5
            have k453 := iv_hi x5
            refine lv_if_lt (tgt := 45) hx hb dX11_least_36 (by decide) (fun c454 => ?_) (fun c454 => ?_)
            · skip
              have k455 := iv_lt (X := x5.toInt) (Y := (0)) rfl (by decide) c454
              exact J_45 s.heap locs ls  (lv_sub hl [0, 1, 2, 3, 4, 5] rfl)  hI hS
            · skip
              have k456 := iv_nlt (X := x5.toInt) (Y := (0)) rfl (by decide) c454
              refine lv_iload hx hb dX11_least_39 (lv_at hl 5 rfl) ?_
              refine lv_iconst (v := 3) hx hb dX11_least_41 (by decide) ?_
              refine lv_icmp_le (tgt := 47) hx hb dX11_least_42 (by decide) (fun c457 => ?_) (fun c457 => ?_)
              · skip
                have k458 := iv_le (X := x5.toInt) (Y := (3)) rfl (by decide) c457
                refine lv_aload_n hx hb dX11_least_47 rfl (lv_at hl 0 rfl) ?_
                obtain ⟨a459, a462, a464, a466, a468, a470, a472, a474, a476, a478, a480, w482, w485, w486, w487, w488, hO, hq460, hq461, hq463, hq465, hq467, hq469, hq471, hq473, hq475, hq477, hq479, hq481, ⟨k483, k484⟩, k489⟩ := op_15 hI hG0 List.not_mem_nil
                have hI := th_I.weak (a := h0) hI
                refine th_get hx hb hts inT11 hown hK hO rfl 10 (by decide) (hts _ (tb_c wd_355)) rfl rfl dX11_least_48 ?_
                refine lv_iload_n hx hb dX11_least_51 rfl (lv_at hl 1 rfl) ?_
                refine lv_iload_n hx hb dX11_least_52 rfl (lv_at hl 2 rfl) ?_
                refine lv_iload_n hx hb dX11_least_53 rfl (lv_at hl 3 rfl) ?_
                refine lv_iload hx hb dX11_least_54 (lv_at hl 4 rfl) ?_
                refine lv_iload hx hb dX11_least_56 (lv_at hl 5 rfl) ?_
                have hI := th_I.close hI hG0 hO (ok_15 hq460 hq461 hq463 hq465 hq467 hq469 hq471 hq473 hq475 hq477 hq479 hq481 ⟨by omega, by omega⟩ k489)
                refine th_cVi (As := [.int x1, .int x2, .int x3, .int x4, .int x5]) (rest := []) (n := 5) (d := 6) ⟨hx, hb, hml, hown, hts⟩ (c_X8_cheapest l E D G a478 hq479 x1 x2 x3 x4 x5) wd_959 wd_960 wd_961 wd_11 wd_962 (by decide +kernel) ⟨by rw [hR]; exact Nat.le_of_ble_eq_true rfl, by rw [hR]; exact Nat.le_of_ble_eq_true rfl⟩ hI hN hK hS (rc_13 hI hq479 List.not_mem_nil) rfl rfl hl.1 rfl (Nat.le_of_ble_eq_true rfl) dX11_least_58 ⟨Nat.zero_le _, Nat.zero_le _⟩ (fun r490 H locs hp hI hS => ?_)
                have hpost : True := trivial
                rw [hQ]
                exact W.iret (v := r490) hx hb hr (fun t ht hW => ⟨⟨r490, (), rfl, hpost, by rw [ht]; exact hI, hN.warm hW, va_K.moved hW.alike hK⟩, hS.F ht⟩) hS.2.2 dX11_least_61
              · skip
                have k491 := iv_nle (X := x5.toInt) (Y := (3)) rfl (by decide) c457
                exact J_45 s.heap locs ls  (lv_sub hl [0, 1, 2, 3, 4, 5] rfl)  hI hS
          · skip
            try simp only [rg, not_and, Int.not_le] at hp
            have hp492 := hp
            refine lv_if_eq (tgt := 45) hx hb dX11_least_31 (by decide) (fun _ => ?_) (fun c => absurd c (by decide))
            exact J_45 s.heap locs ls  (lv_sub hl [0, 1, 2, 3, 4, 5] rfl)  hI hS
      · skip
        try simp only [rg, not_and, Int.not_le] at hp
        have hp493 := hp
        refine lv_if_eq (tgt := 45) hx hb dX11_least_18 (by decide) (fun _ => ?_) (fun c => absurd c (by decide))
        exact J_45 s.heap locs ls  (lv_sub hl [0, 1, 2, 3, 4, 5] rfl)  hI hS
    · skip
      try simp only [rg, not_and, Int.not_le] at hp
      have hp494 := hp
      refine lv_if_eq (tgt := 45) hx hb dX11_least_11 (by decide) (fun _ => ?_) (fun c => absurd c (by decide))
      exact J_45 s.heap locs ls  (lv_sub hl [0, 1, 2, 3, 4, 5] rfl)  hI hS
  · skip
    try simp only [rg, not_and, Int.not_le] at hp
    have hp495 := hp
    refine lv_if_eq (tgt := 45) hx hb dX11_least_4 (by decide) (fun _ => ?_) (fun c => absurd c (by decide))
    exact J_45 s.heap locs ls  (lv_sub hl [0, 1, 2, 3, 4, 5] rfl)  hI hS
theorem dX11_sight_0g : (decode cX11_sight 0 = .ok (.iload_n 1, 1)) ∧ (decode cX11_sight 1 = .ok (.invokestatic 106, 3)) ∧ (decode cX11_sight 4 = .ok (.ifCond .eq 25, 3)) ∧ (decode cX11_sight 7 = .ok (.iload_n 2, 1)) ∧ (decode cX11_sight 8 = .ok (.invokestatic 226, 3)) ∧ (decode cX11_sight 11 = .ok (.ifCond .eq 18, 3)) ∧ (decode cX11_sight 14 = .ok (.iload_n 3, 1)) ∧ (decode cX11_sight 15 = .ok (.invokestatic 269, 3)) ∧ (decode cX11_sight 18 = .ok (.ifCond .eq 11, 3)) ∧ (decode cX11_sight 21 = .ok (.iload 4, 2)) := by decide +kernel
theorem dX11_sight_0 : decode cX11_sight 0 = .ok (.iload_n 1, 1) := dX11_sight_0g.1
theorem dX11_sight_1 : decode cX11_sight 1 = .ok (.invokestatic 106, 3) := dX11_sight_0g.2.1
theorem dX11_sight_4 : decode cX11_sight 4 = .ok (.ifCond .eq 25, 3) := dX11_sight_0g.2.2.1
theorem dX11_sight_7 : decode cX11_sight 7 = .ok (.iload_n 2, 1) := dX11_sight_0g.2.2.2.1
theorem dX11_sight_8 : decode cX11_sight 8 = .ok (.invokestatic 226, 3) := dX11_sight_0g.2.2.2.2.1
theorem dX11_sight_11 : decode cX11_sight 11 = .ok (.ifCond .eq 18, 3) := dX11_sight_0g.2.2.2.2.2.1
theorem dX11_sight_14 : decode cX11_sight 14 = .ok (.iload_n 3, 1) := dX11_sight_0g.2.2.2.2.2.2.1
theorem dX11_sight_15 : decode cX11_sight 15 = .ok (.invokestatic 269, 3) := dX11_sight_0g.2.2.2.2.2.2.2.1
theorem dX11_sight_18 : decode cX11_sight 18 = .ok (.ifCond .eq 11, 3) := dX11_sight_0g.2.2.2.2.2.2.2.2.1
theorem dX11_sight_21 : decode cX11_sight 21 = .ok (.iload 4, 2) := dX11_sight_0g.2.2.2.2.2.2.2.2.2
theorem dX11_sight_23g : (decode cX11_sight 23 = .ok (.invokestatic 138, 3)) ∧ (decode cX11_sight 26 = .ok (.ifCond .ne 9, 3)) ∧ (decode cX11_sight 29 = .ok (.aload_n 0, 1)) ∧ (decode cX11_sight 30 = .ok (.iconst (-1), 1)) ∧ (decode cX11_sight 31 = .ok (.invokevirtual 113, 3)) ∧ (decode cX11_sight 34 = .ok (.ireturn, 1)) ∧ (decode cX11_sight 35 = .ok (.aload_n 0, 1)) ∧ (decode cX11_sight 36 = .ok (.getfield 12, 3)) ∧ (decode cX11_sight 39 = .ok (.getfield 292, 3)) ∧ (decode cX11_sight 42 = .ok (.invokevirtual 149, 3)) := by decide +kernel
theorem dX11_sight_23 : decode cX11_sight 23 = .ok (.invokestatic 138, 3) := dX11_sight_23g.1
theorem dX11_sight_26 : decode cX11_sight 26 = .ok (.ifCond .ne 9, 3) := dX11_sight_23g.2.1
theorem dX11_sight_29 : decode cX11_sight 29 = .ok (.aload_n 0, 1) := dX11_sight_23g.2.2.1
theorem dX11_sight_30 : decode cX11_sight 30 = .ok (.iconst (-1), 1) := dX11_sight_23g.2.2.2.1
theorem dX11_sight_31 : decode cX11_sight 31 = .ok (.invokevirtual 113, 3) := dX11_sight_23g.2.2.2.2.1
theorem dX11_sight_34 : decode cX11_sight 34 = .ok (.ireturn, 1) := dX11_sight_23g.2.2.2.2.2.1
theorem dX11_sight_35 : decode cX11_sight 35 = .ok (.aload_n 0, 1) := dX11_sight_23g.2.2.2.2.2.2.1
theorem dX11_sight_36 : decode cX11_sight 36 = .ok (.getfield 12, 3) := dX11_sight_23g.2.2.2.2.2.2.2.1
theorem dX11_sight_39 : decode cX11_sight 39 = .ok (.getfield 292, 3) := dX11_sight_23g.2.2.2.2.2.2.2.2.1
theorem dX11_sight_42 : decode cX11_sight 42 = .ok (.invokevirtual 149, 3) := dX11_sight_23g.2.2.2.2.2.2.2.2.2
theorem dX11_sight_45g : (decode cX11_sight 45 = .ok (.ifCond .eq 10, 3)) ∧ (decode cX11_sight 48 = .ok (.aload_n 0, 1)) ∧ (decode cX11_sight 49 = .ok (.bipush (-5), 2)) ∧ (decode cX11_sight 51 = .ok (.invokevirtual 113, 3)) ∧ (decode cX11_sight 54 = .ok (.ireturn, 1)) ∧ (decode cX11_sight 55 = .ok (.aload_n 0, 1)) ∧ (decode cX11_sight 56 = .ok (.getfield 12, 3)) ∧ (decode cX11_sight 59 = .ok (.getfield 292, 3)) ∧ (decode cX11_sight 62 = .ok (.iload_n 1, 1)) ∧ (decode cX11_sight 63 = .ok (.iload_n 2, 1)) := by decide +kernel
theorem dX11_sight_45 : decode cX11_sight 45 = .ok (.ifCond .eq 10, 3) := dX11_sight_45g.1
theorem dX11_sight_48 : decode cX11_sight 48 = .ok (.aload_n 0, 1) := dX11_sight_45g.2.1
theorem dX11_sight_49 : decode cX11_sight 49 = .ok (.bipush (-5), 2) := dX11_sight_45g.2.2.1
theorem dX11_sight_51 : decode cX11_sight 51 = .ok (.invokevirtual 113, 3) := dX11_sight_45g.2.2.2.1
theorem dX11_sight_54 : decode cX11_sight 54 = .ok (.ireturn, 1) := dX11_sight_45g.2.2.2.2.1
theorem dX11_sight_55 : decode cX11_sight 55 = .ok (.aload_n 0, 1) := dX11_sight_45g.2.2.2.2.2.1
theorem dX11_sight_56 : decode cX11_sight 56 = .ok (.getfield 12, 3) := dX11_sight_45g.2.2.2.2.2.2.1
theorem dX11_sight_59 : decode cX11_sight 59 = .ok (.getfield 292, 3) := dX11_sight_45g.2.2.2.2.2.2.2.1
theorem dX11_sight_62 : decode cX11_sight 62 = .ok (.iload_n 1, 1) := dX11_sight_45g.2.2.2.2.2.2.2.2.1
theorem dX11_sight_63 : decode cX11_sight 63 = .ok (.iload_n 2, 1) := dX11_sight_45g.2.2.2.2.2.2.2.2.2
theorem dX11_sight_64g : (decode cX11_sight 64 = .ok (.iload_n 3, 1)) ∧ (decode cX11_sight 65 = .ok (.iload 4, 2)) ∧ (decode cX11_sight 67 = .ok (.invokevirtual 155, 3)) ∧ (decode cX11_sight 70 = .ok (.pop, 1)) ∧ (decode cX11_sight 71 = .ok (.aload_n 0, 1)) ∧ (decode cX11_sight 72 = .ok (.invokevirtual 191, 3)) ∧ (decode cX11_sight 75 = .ok (.aload_n 0, 1)) ∧ (decode cX11_sight 76 = .ok (.aload_n 0, 1)) ∧ (decode cX11_sight 77 = .ok (.getfield 12, 3)) ∧ (decode cX11_sight 80 = .ok (.getfield 292, 3)) := by decide +kernel
theorem dX11_sight_64 : decode cX11_sight 64 = .ok (.iload_n 3, 1) := dX11_sight_64g.1
theorem dX11_sight_65 : decode cX11_sight 65 = .ok (.iload 4, 2) := dX11_sight_64g.2.1
theorem dX11_sight_67 : decode cX11_sight 67 = .ok (.invokevirtual 155, 3) := dX11_sight_64g.2.2.1
theorem dX11_sight_70 : decode cX11_sight 70 = .ok (.pop, 1) := dX11_sight_64g.2.2.2.1
theorem dX11_sight_71 : decode cX11_sight 71 = .ok (.aload_n 0, 1) := dX11_sight_64g.2.2.2.2.1
theorem dX11_sight_72 : decode cX11_sight 72 = .ok (.invokevirtual 191, 3) := dX11_sight_64g.2.2.2.2.2.1
theorem dX11_sight_75 : decode cX11_sight 75 = .ok (.aload_n 0, 1) := dX11_sight_64g.2.2.2.2.2.2.1
theorem dX11_sight_76 : decode cX11_sight 76 = .ok (.aload_n 0, 1) := dX11_sight_64g.2.2.2.2.2.2.2.1
theorem dX11_sight_77 : decode cX11_sight 77 = .ok (.getfield 12, 3) := dX11_sight_64g.2.2.2.2.2.2.2.2.1
theorem dX11_sight_80 : decode cX11_sight 80 = .ok (.getfield 292, 3) := dX11_sight_64g.2.2.2.2.2.2.2.2.2
theorem dX11_sight_83g : (decode cX11_sight 83 = .ok (.invokevirtual 166, 3)) ∧ (decode cX11_sight 86 = .ok (.invokevirtual 127, 3)) ∧ (decode cX11_sight 89 = .ok (.ireturn, 1)) := by decide +kernel
theorem dX11_sight_83 : decode cX11_sight 83 = .ok (.invokevirtual 166, 3) := dX11_sight_83g.1
theorem dX11_sight_86 : decode cX11_sight 86 = .ok (.invokevirtual 127, 3) := dX11_sight_83g.2.1
theorem dX11_sight_89 : decode cX11_sight 89 = .ok (.ireturn, 1) := dX11_sight_83g.2.2
set_option maxHeartbeats 4000000 in
set_option maxRecDepth 100000 in
theorem c_X11_sight (l : Launch) (E : Nat → Nat) (D : va_G) (G : th_G) (h0 n : Nat) (hG0 : G h0 = some (15, n)) (x1 x2 x3 x4 : Int32) (sa t : Nat) (e1 : E (32 + 8 * h0) = sa + 1) (e2 : E (32 + 8 * sa) = t + 1) : Met l yX11_sight (tb (.code yX11_sight cX11_sight 5 (some .int))) (rm 2) (va_Pc [.ref h0, .int x1, .int x2, .int x3, .int x4] (th_P E D G)) (QI (eu E (32 + 8 * t) (gI ((rg x1 0 23 ∧ rg x2 0 96 ∧ rg x3 0 3 ∧ rg x4 0 1) ∧ E (32 + 8 * t) < 10) (E (32 + 8 * t)))) D G (fun r => ((r : Int32) = -1 ∧ ¬ (rg x1 0 23 ∧ rg x2 0 96 ∧ rg x3 0 3 ∧ rg x4 0 1)) ∨ ((r : Int32) = -5 ∧ (rg x1 0 23 ∧ rg x2 0 96 ∧ rg x3 0 3 ∧ rg x4 0 1) ∧ ¬ E (32 + 8 * t) < 10) ∨ ((r : Int32).toInt = ((E (32 + 8 * t) : Nat) : Int) + 1 ∧ (rg x1 0 23 ∧ rg x2 0 96 ∧ rg x3 0 3 ∧ rg x4 0 1) ∧ E (32 + 8 * t) < 10))) 0 0 (th_A G) := by
  refine Met.ofW (cc := cX11_sight) (maxL := 5) (ret := (some .int)) (by decide) rfl ?_
  intro p e s m args below meth c s₁ B hml hv
  obtain ⟨hav, hI, hN, hK⟩ := hv
  have hx := B.exec
  have hb := B.bytes
  have hr := B.returns
  have hts := atoms_spec (ws := tb (.code yX11_sight cX11_sight 5 (some .int))) B.pre
  have hown : s.vm.findClass RX11 = some m.cls := findClass_of_methodNamed B.named
  have hlocks := B.notSynchronized
  have hS : va_S (th_A G) s.heap s.heap [] := va_S.rf
  have hl := lv_entry ([.ref h0, .int x1, .int x2, .int x3, .int x4]) (n := 5) (Nat.le_of_ble_eq_true rfl)
  rw [show entryFrame m args 5 = entryFrame m ([.ref h0, .int x1, .int x2, .int x3, .int x4] : List Value).toArray 5 from by rw [hav], lg_entry_eq]
  generalize (lg_sl ([.ref h0, .int x1, .int x2, .int x3, .int x4]) ++ List.replicate (5 - (lg_sl ([.ref h0, .int x1, .int x2, .int x3, .int x4])).length) Slot.unset).toArray = ls at hl ⊢
  have hl : lv_has ls 5 [(0, .ref h0), (1, .int x1), (2, .int x2), (3, .int x3), (4, .int x4)] := hl
  generalize hR : (headSpec (tb (.code yX11_sight cX11_sight 5 (some .int))) (rm 2)).room = R
  have hR := hR.symm
  generalize hQ : MQ below (QI (eu E (32 + 8 * t) (gI ((rg x1 0 23 ∧ rg x2 0 96 ∧ rg x3 0 3 ∧ rg x4 0 1) ∧ E (32 + 8 * t) < 10) (E (32 + 8 * t)))) D G (fun r => ((r : Int32) = -1 ∧ ¬ (rg x1 0 23 ∧ rg x2 0 96 ∧ rg x3 0 3 ∧ rg x4 0 1)) ∨ ((r : Int32) = -5 ∧ (rg x1 0 23 ∧ rg x2 0 96 ∧ rg x3 0 3 ∧ rg x4 0 1) ∧ ¬ E (32 + 8 * t) < 10) ∨ ((r : Int32).toInt = ((E (32 + 8 * t) : Nat) : Int) + 1 ∧ (rg x1 0 23 ∧ rg x2 0 96 ∧ rg x3 0 3 ∧ rg x4 0 1) ∧ E (32 + 8 * t) < 10))) args s 0 0 (th_A G) = QF
  have hQ := hQ.symm
  refine lv_iload_n hx hb dX11_sight_0 rfl (lv_at hl 1 rfl) ?_
  refine th_cSs (As := [.int x1]) (rest := []) (n := 1) (d := 0) ⟨hx, hb, hml, hown, hts⟩ (c_X11_isCell l s.heap x1) wd_401 wd_402 wd_1 wd_403 (by decide +kernel) ⟨by rw [hR]; exact Nat.le_of_ble_eq_true rfl, by rw [hR]; exact Nat.le_of_ble_eq_true rfl⟩ hN hS rfl hl.1 rfl (Nat.le_of_ble_eq_true rfl) dX11_sight_1 ⟨Nat.zero_le _, Nat.zero_le _⟩ (fun r1 locs hp hS => ?_)
  rcases hp with ⟨rfl, hp⟩ | ⟨rfl, hp⟩
  · skip
    try simp only [rg, not_and, Int.not_le] at hp
    have hp2 := hp
    refine lv_if_eq (tgt := 29) hx hb dX11_sight_4 (by decide) (fun c => absurd c (by decide)) (fun _ => ?_)
    refine lv_iload_n hx hb dX11_sight_7 rfl (lv_at hl 2 rfl) ?_
    refine th_cSs (As := [.int x2]) (rest := []) (n := 1) (d := 0) ⟨hx, hb, hml, hown, hts⟩ (c_X11_isMoment l s.heap x2) wd_826 wd_827 wd_1 wd_828 (by decide +kernel) ⟨by rw [hR]; exact Nat.le_of_ble_eq_true rfl, by rw [hR]; exact Nat.le_of_ble_eq_true rfl⟩ hN hS rfl hl.1 rfl (Nat.le_of_ble_eq_true rfl) dX11_sight_8 ⟨Nat.zero_le _, Nat.zero_le _⟩ (fun r3 locs hp hS => ?_)
    rcases hp with ⟨rfl, hp⟩ | ⟨rfl, hp⟩
    · skip
      try simp only [rg, not_and, Int.not_le] at hp
      have hp4 := hp
      refine lv_if_eq (tgt := 29) hx hb dX11_sight_11 (by decide) (fun c => absurd c (by decide)) (fun _ => ?_)
      refine lv_iload_n hx hb dX11_sight_14 rfl (lv_at hl 3 rfl) ?_
      refine th_cSs (As := [.int x3]) (rest := []) (n := 1) (d := 0) ⟨hx, hb, hml, hown, hts⟩ (c_X11_isColour l s.heap x3) wd_620 wd_621 wd_1 wd_622 (by decide +kernel) ⟨by rw [hR]; exact Nat.le_of_ble_eq_true rfl, by rw [hR]; exact Nat.le_of_ble_eq_true rfl⟩ hN hS rfl hl.1 rfl (Nat.le_of_ble_eq_true rfl) dX11_sight_15 ⟨Nat.zero_le _, Nat.zero_le _⟩ (fun r5 locs hp hS => ?_)
      rcases hp with ⟨rfl, hp⟩ | ⟨rfl, hp⟩
      · skip
        try simp only [rg, not_and, Int.not_le] at hp
        have hp6 := hp
        refine lv_if_eq (tgt := 29) hx hb dX11_sight_18 (by decide) (fun c => absurd c (by decide)) (fun _ => ?_)
        refine lv_iload hx hb dX11_sight_21 (lv_at hl 4 rfl) ?_
        refine th_cSs (As := [.int x4]) (rest := []) (n := 1) (d := 0) ⟨hx, hb, hml, hown, hts⟩ (c_X11_isFlag l s.heap x4) wd_469 wd_470 wd_1 wd_471 (by decide +kernel) ⟨by rw [hR]; exact Nat.le_of_ble_eq_true rfl, by rw [hR]; exact Nat.le_of_ble_eq_true rfl⟩ hN hS rfl hl.1 rfl (Nat.le_of_ble_eq_true rfl) dX11_sight_23 ⟨Nat.zero_le _, Nat.zero_le _⟩ (fun r7 locs hp hS => ?_)
        rcases hp with ⟨rfl, hp⟩ | ⟨rfl, hp⟩
        · skip
          try simp only [rg, not_and, Int.not_le] at hp
          have hp8 := hp
          refine lv_if_ne (tgt := 35) hx hb dX11_sight_26 (by decide) (fun _ => ?_) (fun c => absurd c (by decide))
          refine lv_aload_n hx hb dX11_sight_35 rfl (lv_at hl 0 rfl) ?_
          obtain ⟨a9, a12, a14, a16, a18, a20, a22, a24, a26, a28, a30, w32, w35, w36, w37, w38, hO, hq10, hq11, hq13, hq15, hq17, hq19, hq21, hq23, hq25, hq27, hq29, hq31, ⟨k33, k34⟩, k39⟩ := op_15 hI hG0 List.not_mem_nil
          have hI := th_I.weak (a := h0) hI
          obtain rfl := eaU_q k39 e1
          refine th_get hx hb hts inT11 hown hK hO rfl 0 (by decide) (hts _ (tb_c wd_345)) rfl rfl dX11_sight_36 ?_
          have hI := th_I.close hI hG0 hO (ok_15 hq10 hq11 hq13 hq15 hq17 hq19 hq21 hq23 hq25 hq27 hq29 hq31 ⟨by omega, by omega⟩ k39)
          obtain ⟨a40, a42, a44, a46, a48, a50, a52, a54, a56, a58, w60, w63, w64, w65, hO, hq41, hq43, hq45, hq47, hq49, hq51, hq53, hq55, hq57, hq59, ⟨k61, k62⟩, k66⟩ := op_6 hI hq10 List.not_mem_nil
          have hI := th_I.weak (a := sa) hI
          obtain rfl := eaU_q k66.1 e2
          refine th_getN hx hb hts inT6 hown hK hN hO rfl 6 (by decide) wn_74 rfl rfl dX11_sight_39 ?_
          have hI := th_I.close hI hq10 hO (ok_6 hq41 hq43 hq45 hq47 hq49 hq51 hq53 hq55 hq57 hq59 ⟨by omega, by omega⟩ k66)
          obtain ⟨a68, w70, hO, hq69, ⟨k71, k72⟩, k73⟩ := op_4 hI hq53 List.not_mem_nil
          have hI := th_I.weak (a := t) hI
          have k74 : (nI (42 % 32)).toInt = ((42 % 32 : Nat) : Int) := nI_toInt (by omega)
          have k75 := k73.1
          have k76 := eaV_t k73.2 (by omega)
          refine th_cVs (As := []) (rest := []) (n := 0) (d := 0) ⟨hx, hb, hml, hown, hts⟩ (c_X4_isFull l E D s.heap t (42 % 32) a68 w70 hO (by omega) (by omega) (by omega)) wd_481 wd_482 wd_483 wd_3 wd_484 (by decide +kernel) ⟨by rw [hR]; exact Nat.le_of_ble_eq_true rfl, by rw [hR]; exact Nat.le_of_ble_eq_true rfl⟩ hN hK hS ⟨_, hO⟩ rfl rfl hl.1 rfl (Nat.le_of_ble_eq_true rfl) dX11_sight_42 ⟨Nat.zero_le _, Nat.zero_le _⟩ (fun r67 locs hp hS => ?_)
          rcases hp with ⟨rfl, hp⟩ | ⟨rfl, hp⟩
          · skip
            try simp only [rg, not_and, Int.not_le] at hp
            have hp77 := hp
            refine lv_if_eq (tgt := 55) hx hb dX11_sight_45 (by decide) (fun c => absurd c (by decide)) (fun _ => ?_)
            refine lv_aload_n hx hb dX11_sight_48 rfl (lv_at hl 0 rfl) ?_
            refine lv_bipush (v := (-5)) hx hb dX11_sight_49 (by decide) ?_
            have hI := th_I.close hI hq53 hO (ok_4 hq69 ⟨by omega, by omega⟩ k73)
            refine th_cVi (As := [.int (-5)]) (rest := []) (n := 1) (d := 0) ⟨hx, hb, hml, hown, hts⟩ (c_X11_refuse l E D G h0 (n) hG0 (-5)) wd_407 wd_409 wp_0 wd_1 wd_410 (by decide +kernel) ⟨by rw [hR]; exact Nat.le_of_ble_eq_true rfl, by rw [hR]; exact Nat.le_of_ble_eq_true rfl⟩ hI hN hK hS (rc_15 hI hG0 List.not_mem_nil) rfl rfl hl.1 rfl (Nat.le_of_ble_eq_true rfl) dX11_sight_51 ⟨Nat.zero_le _, Nat.zero_le _⟩ (fun r78 H locs hp hI hS => ?_)
            have hp := hp.symm
            subst hp
            have hEt : eu E (32 + 8 * t) (gI ((rg x1 0 23 ∧ rg x2 0 96 ∧ rg x3 0 3 ∧ rg x4 0 1) ∧ E (32 + 8 * t) < 10) (E (32 + 8 * t))) = E := eu_id (by first | (exact gI_f (by (try simp only [rg]); omega)) | (exact gD_f (by (try simp only [rg]); omega)) | omega)
            have hI : th_I (okC (eu E (32 + 8 * t) (gI ((rg x1 0 23 ∧ rg x2 0 96 ∧ rg x3 0 3 ∧ rg x4 0 1) ∧ E (32 + 8 * t) < 10) (E (32 + 8 * t))))) D G [] H := by rw [hEt]; exact hI
            have hK : va_K D vwCl (th_tys (eu E (32 + 8 * t) (gI ((rg x1 0 23 ∧ rg x2 0 96 ∧ rg x3 0 3 ∧ rg x4 0 1) ∧ E (32 + 8 * t) < 10) (E (32 + 8 * t))))) s := by rw [hEt]; exact hK
            have hpost : (((-5) : Int32) = -1 ∧ ¬ (rg x1 0 23 ∧ rg x2 0 96 ∧ rg x3 0 3 ∧ rg x4 0 1)) ∨ (((-5) : Int32) = -5 ∧ (rg x1 0 23 ∧ rg x2 0 96 ∧ rg x3 0 3 ∧ rg x4 0 1) ∧ ¬ E (32 + 8 * t) < 10) ∨ (((-5) : Int32).toInt = ((E (32 + 8 * t) : Nat) : Int) + 1 ∧ (rg x1 0 23 ∧ rg x2 0 96 ∧ rg x3 0 3 ∧ rg x4 0 1) ∧ E (32 + 8 * t) < 10) := by first | exact Or.inl ⟨rfl, by (try simp only [rg]); omega⟩ | exact Or.inr (Or.inl ⟨rfl, by (try simp only [rg]); omega⟩) | exact Or.inr (Or.inr ⟨by omega, by (try simp only [rg]); omega⟩)
            rw [hQ]
            exact W.iret (v := (-5)) hx hb hr (fun t ht hW => ⟨⟨(-5), (), rfl, hpost, by rw [ht]; exact hI, hN.warm hW, va_K.moved hW.alike hK⟩, hS.F ht⟩) hS.2.2 dX11_sight_54
          · skip
            have hp79 := hp
            refine lv_if_eq (tgt := 55) hx hb dX11_sight_45 (by decide) (fun _ => ?_) (fun c => absurd c (by decide))
            refine lv_aload_n hx hb dX11_sight_55 rfl (lv_at hl 0 rfl) ?_
            have hI := th_I.close hI hq53 hO (ok_4 hq69 ⟨by omega, by omega⟩ k73)
            obtain ⟨a80, a83, a85, a87, a89, a91, a93, a95, a97, a99, a101, w103, w106, w107, w108, w109, hO, hq81, hq82, hq84, hq86, hq88, hq90, hq92, hq94, hq96, hq98, hq100, hq102, ⟨k104, k105⟩, k110⟩ := op_15 hI hG0 List.not_mem_nil
            have hI := th_I.weak (a := h0) hI
            obtain rfl := eaU_q k110 e1
            refine th_get hx hb hts inT11 hown hK hO rfl 0 (by decide) (hts _ (tb_c wd_345)) rfl rfl dX11_sight_56 ?_
            have hI := th_I.close hI hG0 hO (ok_15 hq81 hq82 hq84 hq86 hq88 hq90 hq92 hq94 hq96 hq98 hq100 hq102 ⟨by omega, by omega⟩ k110)
            obtain ⟨a111, a113, a115, a117, a119, a121, a123, a125, a127, a129, w131, w134, w135, w136, hO, hq112, hq114, hq116, hq118, hq120, hq122, hq124, hq126, hq128, hq130, ⟨k132, k133⟩, k137⟩ := op_6 hI hq81 List.not_mem_nil
            have hI := th_I.weak (a := sa) hI
            obtain rfl := eaU_q k137.1 e2
            refine th_getN hx hb hts inT6 hown hK hN hO rfl 6 (by decide) wn_74 rfl rfl dX11_sight_59 ?_
            refine lv_iload_n hx hb dX11_sight_62 rfl (lv_at hl 1 rfl) ?_
            refine lv_iload_n hx hb dX11_sight_63 rfl (lv_at hl 2 rfl) ?_
            refine lv_iload_n hx hb dX11_sight_64 rfl (lv_at hl 3 rfl) ?_
            refine lv_iload hx hb dX11_sight_65 (lv_at hl 4 rfl) ?_
            have hI := th_I.close hI hq81 hO (ok_6 hq112 hq114 hq116 hq118 hq120 hq122 hq124 hq126 hq128 hq130 ⟨by omega, by omega⟩ k137)
            refine th_cViE (As := [.int x1, .int x2, .int x3, .int x4]) (rest := []) (n := 4) (d := 1) ⟨hx, hb, hml, hown, hts⟩ (c_X4_put_T l E D G t (42) hq124 x1 x2 x3 x4 (by decide)) wd_485 wd_486 wd_487 wd_3 wd_488 (by decide +kernel) ⟨by rw [hR]; exact Nat.le_of_ble_eq_true rfl, by rw [hR]; exact Nat.le_of_ble_eq_true rfl⟩ hI hN hK (by rw [tys_eu (by omega)]; exact hK) hS (rc_4 hI hq124 List.not_mem_nil) rfl rfl hl.1 rfl (Nat.le_of_ble_eq_true rfl) dX11_sight_67 ⟨Nat.zero_le _, Nat.zero_le _⟩ (fun r138 H locs Eu139 hEu139 hp hI hK hS => ?_)
            have hne91 : t ≠ h0 := fun z => th_ne hG0 hq124 (show (15 : Nat) ≠ 4 by decide) (List.mem_singleton.mpr z)
            have e1n : Eu139 (32 + 8 * h0) = sa + 1 := by rw [hEu139, eu_ne (by omega)]; exact e1
            have hne92 : t ≠ sa := fun z => th_ne hq81 hq124 (show (6 : Nat) ≠ 4 by decide) (List.mem_singleton.mpr z)
            have e2n : Eu139 (32 + 8 * sa) = t + 1 := by rw [hEu139, eu_ne (by omega)]; exact e2
            have zvn : Eu139 (32 + 8 * t) = E (32 + 8 * t) + 1 := by rw [hEu139, eu_at, gI_t (by omega)]
            refine lv_pop hx hb dX11_sight_70 rfl ?_
            refine lv_aload_n hx hb dX11_sight_71 rfl (lv_at hl 0 rfl) ?_
            refine th_cVv (As := []) (rest := []) (n := 0) (d := 1) ⟨hx, hb, hml, hown, hts⟩ (c_X11_turnLists l Eu139 D G h0 (n) hG0 ) wd_431 wd_433 wp_2 wd_1 wd_434 (by decide +kernel) ⟨by rw [hR]; exact Nat.le_of_ble_eq_true rfl, by rw [hR]; exact Nat.le_of_ble_eq_true rfl⟩ hI hN hK hS (rc_15 hI hG0 List.not_mem_nil) rfl rfl hl.1 rfl (Nat.le_of_ble_eq_true rfl) dX11_sight_72 ⟨Nat.zero_le _, Nat.zero_le _⟩ (fun H locs hI hS => ?_)
            refine lv_aload_n hx hb dX11_sight_75 rfl (lv_at hl 0 rfl) ?_
            refine lv_aload_n hx hb dX11_sight_76 rfl (lv_at hl 0 rfl) ?_
            obtain ⟨a141, a144, a146, a148, a150, a152, a154, a156, a158, a160, a162, w164, w167, w168, w169, w170, hO, hq142, hq143, hq145, hq147, hq149, hq151, hq153, hq155, hq157, hq159, hq161, hq163, ⟨k165, k166⟩, k171⟩ := op_15 hI hG0 List.not_mem_nil
            have hI := th_I.weak (a := h0) hI
            obtain rfl := eaU_q k171 e1n
            refine th_get hx hb hts inT11 hown hK hO rfl 0 (by decide) (hts _ (tb_c wd_345)) rfl rfl dX11_sight_77 ?_
            have hI := th_I.close hI hG0 hO (ok_15 hq142 hq143 hq145 hq147 hq149 hq151 hq153 hq155 hq157 hq159 hq161 hq163 ⟨by omega, by omega⟩ k171)
            obtain ⟨a172, a174, a176, a178, a180, a182, a184, a186, a188, a190, w192, w195, w196, w197, hO, hq173, hq175, hq177, hq179, hq181, hq183, hq185, hq187, hq189, hq191, ⟨k193, k194⟩, k198⟩ := op_6 hI hq142 List.not_mem_nil
            have hI := th_I.weak (a := sa) hI
            obtain rfl := eaU_q k198.1 e2n
            refine th_getN hx hb hts inT6 hown hK hN hO rfl 6 (by decide) wn_74 rfl rfl dX11_sight_80 ?_
            have hI := th_I.close hI hq142 hO (ok_6 hq173 hq175 hq177 hq179 hq181 hq183 hq185 hq187 hq189 hq191 ⟨by omega, by omega⟩ k198)
            obtain ⟨a200, w202, hO, hq201, ⟨k203, k204⟩, k205⟩ := op_4 hI hq185 List.not_mem_nil
            have hI := th_I.weak (a := t) hI
            have k206 : (nI (42 % 32)).toInt = ((42 % 32 : Nat) : Int) := nI_toInt (by omega)
            have k207 := k205.1
            have k208 := eaV_t k205.2 (by omega)
            refine th_cVs (As := []) (rest := [.ref h0]) (n := 0) (d := 0) ⟨hx, hb, hml, hown, hts⟩ (c_X4_size l Eu139 D H t (42 % 32) a200 w202 hO (by omega) (by omega) (by omega)) wd_506 wd_507 wd_508 wd_3 wd_509 (by decide +kernel) ⟨by rw [hR]; exact Nat.le_of_ble_eq_true rfl, by rw [hR]; exact Nat.le_of_ble_eq_true rfl⟩ hN hK hS ⟨_, hO⟩ rfl rfl hl.1 rfl (Nat.le_of_ble_eq_true rfl) dX11_sight_83 ⟨Nat.zero_le _, Nat.zero_le _⟩ (fun r199 locs hp hS => ?_)
            have hp := hp.symm
            subst hp
            have hI := th_I.close hI hq185 hO (ok_4 hq201 ⟨by omega, by omega⟩ k205)
            refine th_cVi (As := [.int w202]) (rest := []) (n := 1) (d := 0) ⟨hx, hb, hml, hown, hts⟩ (c_X11_accept l Eu139 D G h0 (n) hG0 w202) wd_447 wd_449 wp_3 wd_1 wd_450 (by decide +kernel) ⟨by rw [hR]; exact Nat.le_of_ble_eq_true rfl, by rw [hR]; exact Nat.le_of_ble_eq_true rfl⟩ hI hN hK hS (rc_15 hI hG0 List.not_mem_nil) rfl rfl hl.1 rfl (Nat.le_of_ble_eq_true rfl) dX11_sight_86 ⟨Nat.zero_le _, Nat.zero_le _⟩ (fun r209 H locs hp hI hS => ?_)
            have hp := hp.symm
            subst hp
            have hEt : eu E (32 + 8 * t) (gI ((rg x1 0 23 ∧ rg x2 0 96 ∧ rg x3 0 3 ∧ rg x4 0 1) ∧ E (32 + 8 * t) < 10) (E (32 + 8 * t))) = Eu139 := (congrArg (fun z => eu E (32 + 8 * t) z) (show gI ((rg x1 0 23 ∧ rg x2 0 96 ∧ rg x3 0 3 ∧ rg x4 0 1) ∧ E (32 + 8 * t) < 10) (E (32 + 8 * t)) = _ from by first | rfl | omega | (rw [gI_f (by (try simp only [rg]); omega)]; omega) | (rw [gI_t (by (try simp only [rg]); omega), gI_t (by omega)]) | (rw [gI_t (by (try simp only [rg]); omega)]; omega) | (rw [gD_t (by (try simp only [rg]); omega), gD_t (by omega)]) | (rw [gD_t (by (try simp only [rg]); omega)]; omega))).trans hEu139.symm
            rw [← hEt] at hI hK
            have hpost : ((w202 : Int32) = -1 ∧ ¬ (rg x1 0 23 ∧ rg x2 0 96 ∧ rg x3 0 3 ∧ rg x4 0 1)) ∨ ((w202 : Int32) = -5 ∧ (rg x1 0 23 ∧ rg x2 0 96 ∧ rg x3 0 3 ∧ rg x4 0 1) ∧ ¬ E (32 + 8 * t) < 10) ∨ ((w202 : Int32).toInt = ((E (32 + 8 * t) : Nat) : Int) + 1 ∧ (rg x1 0 23 ∧ rg x2 0 96 ∧ rg x3 0 3 ∧ rg x4 0 1) ∧ E (32 + 8 * t) < 10) := by first | exact Or.inl ⟨rfl, by (try simp only [rg]); omega⟩ | exact Or.inr (Or.inl ⟨rfl, by (try simp only [rg]); omega⟩) | exact Or.inr (Or.inr ⟨by omega, by (try simp only [rg]); omega⟩)
            rw [hQ]
            exact W.iret (v := w202) hx hb hr (fun t ht hW => ⟨⟨w202, (), rfl, hpost, by rw [ht]; exact hI, hN.warm hW, va_K.moved hW.alike hK⟩, hS.F ht⟩) hS.2.2 dX11_sight_89
        · skip
          try simp only [rg, not_and, Int.not_le] at hp
          have hp210 := hp
          refine lv_if_ne (tgt := 35) hx hb dX11_sight_26 (by decide) (fun c => absurd c (by decide)) (fun _ => ?_)
          refine lv_aload_n hx hb dX11_sight_29 rfl (lv_at hl 0 rfl) ?_
          refine lv_iconst (v := (-1)) hx hb dX11_sight_30 (by decide) ?_
          refine th_cVi (As := [.int (-1)]) (rest := []) (n := 1) (d := 0) ⟨hx, hb, hml, hown, hts⟩ (c_X11_refuse l E D G h0 (n) hG0 (-1)) wd_407 wd_409 wp_0 wd_1 wd_410 (by decide +kernel) ⟨by rw [hR]; exact Nat.le_of_ble_eq_true rfl, by rw [hR]; exact Nat.le_of_ble_eq_true rfl⟩ hI hN hK hS (rc_15 hI hG0 List.not_mem_nil) rfl rfl hl.1 rfl (Nat.le_of_ble_eq_true rfl) dX11_sight_31 ⟨Nat.zero_le _, Nat.zero_le _⟩ (fun r211 H locs hp hI hS => ?_)
          have hp := hp.symm
          subst hp
          have hEt : eu E (32 + 8 * t) (gI ((rg x1 0 23 ∧ rg x2 0 96 ∧ rg x3 0 3 ∧ rg x4 0 1) ∧ E (32 + 8 * t) < 10) (E (32 + 8 * t))) = E := eu_id (by first | (exact gI_f (by (try simp only [rg]); omega)) | (exact gD_f (by (try simp only [rg]); omega)) | omega)
          have hI : th_I (okC (eu E (32 + 8 * t) (gI ((rg x1 0 23 ∧ rg x2 0 96 ∧ rg x3 0 3 ∧ rg x4 0 1) ∧ E (32 + 8 * t) < 10) (E (32 + 8 * t))))) D G [] H := by rw [hEt]; exact hI
          have hK : va_K D vwCl (th_tys (eu E (32 + 8 * t) (gI ((rg x1 0 23 ∧ rg x2 0 96 ∧ rg x3 0 3 ∧ rg x4 0 1) ∧ E (32 + 8 * t) < 10) (E (32 + 8 * t))))) s := by rw [hEt]; exact hK
          have hpost : (((-1) : Int32) = -1 ∧ ¬ (rg x1 0 23 ∧ rg x2 0 96 ∧ rg x3 0 3 ∧ rg x4 0 1)) ∨ (((-1) : Int32) = -5 ∧ (rg x1 0 23 ∧ rg x2 0 96 ∧ rg x3 0 3 ∧ rg x4 0 1) ∧ ¬ E (32 + 8 * t) < 10) ∨ (((-1) : Int32).toInt = ((E (32 + 8 * t) : Nat) : Int) + 1 ∧ (rg x1 0 23 ∧ rg x2 0 96 ∧ rg x3 0 3 ∧ rg x4 0 1) ∧ E (32 + 8 * t) < 10) := by first | exact Or.inl ⟨rfl, by (try simp only [rg]); omega⟩ | exact Or.inr (Or.inl ⟨rfl, by (try simp only [rg]); omega⟩) | exact Or.inr (Or.inr ⟨by omega, by (try simp only [rg]); omega⟩)
          rw [hQ]
          exact W.iret (v := (-1)) hx hb hr (fun t ht hW => ⟨⟨(-1), (), rfl, hpost, by rw [ht]; exact hI, hN.warm hW, va_K.moved hW.alike hK⟩, hS.F ht⟩) hS.2.2 dX11_sight_34
      · skip
        try simp only [rg, not_and, Int.not_le] at hp
        have hp212 := hp
        refine lv_if_eq (tgt := 29) hx hb dX11_sight_18 (by decide) (fun _ => ?_) (fun c => absurd c (by decide))
        refine lv_aload_n hx hb dX11_sight_29 rfl (lv_at hl 0 rfl) ?_
        refine lv_iconst (v := (-1)) hx hb dX11_sight_30 (by decide) ?_
        refine th_cVi (As := [.int (-1)]) (rest := []) (n := 1) (d := 0) ⟨hx, hb, hml, hown, hts⟩ (c_X11_refuse l E D G h0 (n) hG0 (-1)) wd_407 wd_409 wp_0 wd_1 wd_410 (by decide +kernel) ⟨by rw [hR]; exact Nat.le_of_ble_eq_true rfl, by rw [hR]; exact Nat.le_of_ble_eq_true rfl⟩ hI hN hK hS (rc_15 hI hG0 List.not_mem_nil) rfl rfl hl.1 rfl (Nat.le_of_ble_eq_true rfl) dX11_sight_31 ⟨Nat.zero_le _, Nat.zero_le _⟩ (fun r213 H locs hp hI hS => ?_)
        have hp := hp.symm
        subst hp
        have hEt : eu E (32 + 8 * t) (gI ((rg x1 0 23 ∧ rg x2 0 96 ∧ rg x3 0 3 ∧ rg x4 0 1) ∧ E (32 + 8 * t) < 10) (E (32 + 8 * t))) = E := eu_id (by first | (exact gI_f (by (try simp only [rg]); omega)) | (exact gD_f (by (try simp only [rg]); omega)) | omega)
        have hI : th_I (okC (eu E (32 + 8 * t) (gI ((rg x1 0 23 ∧ rg x2 0 96 ∧ rg x3 0 3 ∧ rg x4 0 1) ∧ E (32 + 8 * t) < 10) (E (32 + 8 * t))))) D G [] H := by rw [hEt]; exact hI
        have hK : va_K D vwCl (th_tys (eu E (32 + 8 * t) (gI ((rg x1 0 23 ∧ rg x2 0 96 ∧ rg x3 0 3 ∧ rg x4 0 1) ∧ E (32 + 8 * t) < 10) (E (32 + 8 * t))))) s := by rw [hEt]; exact hK
        have hpost : (((-1) : Int32) = -1 ∧ ¬ (rg x1 0 23 ∧ rg x2 0 96 ∧ rg x3 0 3 ∧ rg x4 0 1)) ∨ (((-1) : Int32) = -5 ∧ (rg x1 0 23 ∧ rg x2 0 96 ∧ rg x3 0 3 ∧ rg x4 0 1) ∧ ¬ E (32 + 8 * t) < 10) ∨ (((-1) : Int32).toInt = ((E (32 + 8 * t) : Nat) : Int) + 1 ∧ (rg x1 0 23 ∧ rg x2 0 96 ∧ rg x3 0 3 ∧ rg x4 0 1) ∧ E (32 + 8 * t) < 10) := by first | exact Or.inl ⟨rfl, by (try simp only [rg]); omega⟩ | exact Or.inr (Or.inl ⟨rfl, by (try simp only [rg]); omega⟩) | exact Or.inr (Or.inr ⟨by omega, by (try simp only [rg]); omega⟩)
        rw [hQ]
        exact W.iret (v := (-1)) hx hb hr (fun t ht hW => ⟨⟨(-1), (), rfl, hpost, by rw [ht]; exact hI, hN.warm hW, va_K.moved hW.alike hK⟩, hS.F ht⟩) hS.2.2 dX11_sight_34
    · skip
      try simp only [rg, not_and, Int.not_le] at hp
      have hp214 := hp
      refine lv_if_eq (tgt := 29) hx hb dX11_sight_11 (by decide) (fun _ => ?_) (fun c => absurd c (by decide))
      refine lv_aload_n hx hb dX11_sight_29 rfl (lv_at hl 0 rfl) ?_
      refine lv_iconst (v := (-1)) hx hb dX11_sight_30 (by decide) ?_
      refine th_cVi (As := [.int (-1)]) (rest := []) (n := 1) (d := 0) ⟨hx, hb, hml, hown, hts⟩ (c_X11_refuse l E D G h0 (n) hG0 (-1)) wd_407 wd_409 wp_0 wd_1 wd_410 (by decide +kernel) ⟨by rw [hR]; exact Nat.le_of_ble_eq_true rfl, by rw [hR]; exact Nat.le_of_ble_eq_true rfl⟩ hI hN hK hS (rc_15 hI hG0 List.not_mem_nil) rfl rfl hl.1 rfl (Nat.le_of_ble_eq_true rfl) dX11_sight_31 ⟨Nat.zero_le _, Nat.zero_le _⟩ (fun r215 H locs hp hI hS => ?_)
      have hp := hp.symm
      subst hp
      have hEt : eu E (32 + 8 * t) (gI ((rg x1 0 23 ∧ rg x2 0 96 ∧ rg x3 0 3 ∧ rg x4 0 1) ∧ E (32 + 8 * t) < 10) (E (32 + 8 * t))) = E := eu_id (by first | (exact gI_f (by (try simp only [rg]); omega)) | (exact gD_f (by (try simp only [rg]); omega)) | omega)
      have hI : th_I (okC (eu E (32 + 8 * t) (gI ((rg x1 0 23 ∧ rg x2 0 96 ∧ rg x3 0 3 ∧ rg x4 0 1) ∧ E (32 + 8 * t) < 10) (E (32 + 8 * t))))) D G [] H := by rw [hEt]; exact hI
      have hK : va_K D vwCl (th_tys (eu E (32 + 8 * t) (gI ((rg x1 0 23 ∧ rg x2 0 96 ∧ rg x3 0 3 ∧ rg x4 0 1) ∧ E (32 + 8 * t) < 10) (E (32 + 8 * t))))) s := by rw [hEt]; exact hK
      have hpost : (((-1) : Int32) = -1 ∧ ¬ (rg x1 0 23 ∧ rg x2 0 96 ∧ rg x3 0 3 ∧ rg x4 0 1)) ∨ (((-1) : Int32) = -5 ∧ (rg x1 0 23 ∧ rg x2 0 96 ∧ rg x3 0 3 ∧ rg x4 0 1) ∧ ¬ E (32 + 8 * t) < 10) ∨ (((-1) : Int32).toInt = ((E (32 + 8 * t) : Nat) : Int) + 1 ∧ (rg x1 0 23 ∧ rg x2 0 96 ∧ rg x3 0 3 ∧ rg x4 0 1) ∧ E (32 + 8 * t) < 10) := by first | exact Or.inl ⟨rfl, by (try simp only [rg]); omega⟩ | exact Or.inr (Or.inl ⟨rfl, by (try simp only [rg]); omega⟩) | exact Or.inr (Or.inr ⟨by omega, by (try simp only [rg]); omega⟩)
      rw [hQ]
      exact W.iret (v := (-1)) hx hb hr (fun t ht hW => ⟨⟨(-1), (), rfl, hpost, by rw [ht]; exact hI, hN.warm hW, va_K.moved hW.alike hK⟩, hS.F ht⟩) hS.2.2 dX11_sight_34
  · skip
    try simp only [rg, not_and, Int.not_le] at hp
    have hp216 := hp
    refine lv_if_eq (tgt := 29) hx hb dX11_sight_4 (by decide) (fun _ => ?_) (fun c => absurd c (by decide))
    refine lv_aload_n hx hb dX11_sight_29 rfl (lv_at hl 0 rfl) ?_
    refine lv_iconst (v := (-1)) hx hb dX11_sight_30 (by decide) ?_
    refine th_cVi (As := [.int (-1)]) (rest := []) (n := 1) (d := 0) ⟨hx, hb, hml, hown, hts⟩ (c_X11_refuse l E D G h0 (n) hG0 (-1)) wd_407 wd_409 wp_0 wd_1 wd_410 (by decide +kernel) ⟨by rw [hR]; exact Nat.le_of_ble_eq_true rfl, by rw [hR]; exact Nat.le_of_ble_eq_true rfl⟩ hI hN hK hS (rc_15 hI hG0 List.not_mem_nil) rfl rfl hl.1 rfl (Nat.le_of_ble_eq_true rfl) dX11_sight_31 ⟨Nat.zero_le _, Nat.zero_le _⟩ (fun r217 H locs hp hI hS => ?_)
    have hp := hp.symm
    subst hp
    have hEt : eu E (32 + 8 * t) (gI ((rg x1 0 23 ∧ rg x2 0 96 ∧ rg x3 0 3 ∧ rg x4 0 1) ∧ E (32 + 8 * t) < 10) (E (32 + 8 * t))) = E := eu_id (by first | (exact gI_f (by (try simp only [rg]); omega)) | (exact gD_f (by (try simp only [rg]); omega)) | omega)
    have hI : th_I (okC (eu E (32 + 8 * t) (gI ((rg x1 0 23 ∧ rg x2 0 96 ∧ rg x3 0 3 ∧ rg x4 0 1) ∧ E (32 + 8 * t) < 10) (E (32 + 8 * t))))) D G [] H := by rw [hEt]; exact hI
    have hK : va_K D vwCl (th_tys (eu E (32 + 8 * t) (gI ((rg x1 0 23 ∧ rg x2 0 96 ∧ rg x3 0 3 ∧ rg x4 0 1) ∧ E (32 + 8 * t) < 10) (E (32 + 8 * t))))) s := by rw [hEt]; exact hK
    have hpost : (((-1) : Int32) = -1 ∧ ¬ (rg x1 0 23 ∧ rg x2 0 96 ∧ rg x3 0 3 ∧ rg x4 0 1)) ∨ (((-1) : Int32) = -5 ∧ (rg x1 0 23 ∧ rg x2 0 96 ∧ rg x3 0 3 ∧ rg x4 0 1) ∧ ¬ E (32 + 8 * t) < 10) ∨ (((-1) : Int32).toInt = ((E (32 + 8 * t) : Nat) : Int) + 1 ∧ (rg x1 0 23 ∧ rg x2 0 96 ∧ rg x3 0 3 ∧ rg x4 0 1) ∧ E (32 + 8 * t) < 10) := by first | exact Or.inl ⟨rfl, by (try simp only [rg]); omega⟩ | exact Or.inr (Or.inl ⟨rfl, by (try simp only [rg]); omega⟩) | exact Or.inr (Or.inr ⟨by omega, by (try simp only [rg]); omega⟩)
    rw [hQ]
    exact W.iret (v := (-1)) hx hb hr (fun t ht hW => ⟨⟨(-1), (), rfl, hpost, by rw [ht]; exact hI, hN.warm hW, va_K.moved hW.alike hK⟩, hS.F ht⟩) hS.2.2 dX11_sight_34
theorem dX11_forget_0g : (decode cX11_forget 0 = .ok (.aload_n 0, 1)) ∧ (decode cX11_forget 1 = .ok (.invokevirtual 191, 3)) ∧ (decode cX11_forget 4 = .ok (.aload_n 0, 1)) ∧ (decode cX11_forget 5 = .ok (.getfield 12, 3)) ∧ (decode cX11_forget 8 = .ok (.getfield 292, 3)) ∧ (decode cX11_forget 11 = .ok (.invokevirtual 295, 3)) ∧ (decode cX11_forget 14 = .ok (.ireturn, 1)) := by decide +kernel
theorem dX11_forget_0 : decode cX11_forget 0 = .ok (.aload_n 0, 1) := dX11_forget_0g.1
theorem dX11_forget_1 : decode cX11_forget 1 = .ok (.invokevirtual 191, 3) := dX11_forget_0g.2.1
theorem dX11_forget_4 : decode cX11_forget 4 = .ok (.aload_n 0, 1) := dX11_forget_0g.2.2.1
theorem dX11_forget_5 : decode cX11_forget 5 = .ok (.getfield 12, 3) := dX11_forget_0g.2.2.2.1
theorem dX11_forget_8 : decode cX11_forget 8 = .ok (.getfield 292, 3) := dX11_forget_0g.2.2.2.2.1
theorem dX11_forget_11 : decode cX11_forget 11 = .ok (.invokevirtual 295, 3) := dX11_forget_0g.2.2.2.2.2.1
theorem dX11_forget_14 : decode cX11_forget 14 = .ok (.ireturn, 1) := dX11_forget_0g.2.2.2.2.2.2
set_option maxHeartbeats 4000000 in
set_option maxRecDepth 100000 in
theorem c_X11_forget (l : Launch) (E : Nat → Nat) (D : va_G) (G : th_G) (h0 n : Nat) (hG0 : G h0 = some (15, n)) (sa t : Nat) (e1 : E (32 + 8 * h0) = sa + 1) (e2 : E (32 + 8 * sa) = t + 1) : Met l yX11_forget (tb (.code yX11_forget cX11_forget 1 (some .int))) (rm 2) (va_Pc [.ref h0] (th_P E D G)) (QI (eu E (32 + 8 * t) (0)) D G (fun r => (r : Int32).toInt = ((E (32 + 8 * t) : Nat) : Int))) 0 0 (th_A G) := by
  refine Met.ofW (cc := cX11_forget) (maxL := 1) (ret := (some .int)) (by decide) rfl ?_
  intro p e s m args below meth c s₁ B hml hv
  obtain ⟨hav, hI, hN, hK⟩ := hv
  have hx := B.exec
  have hb := B.bytes
  have hr := B.returns
  have hts := atoms_spec (ws := tb (.code yX11_forget cX11_forget 1 (some .int))) B.pre
  have hown : s.vm.findClass RX11 = some m.cls := findClass_of_methodNamed B.named
  have hlocks := B.notSynchronized
  have hS : va_S (th_A G) s.heap s.heap [] := va_S.rf
  have hl := lv_entry ([.ref h0]) (n := 1) (Nat.le_of_ble_eq_true rfl)
  rw [show entryFrame m args 1 = entryFrame m ([.ref h0] : List Value).toArray 1 from by rw [hav], lg_entry_eq]
  generalize (lg_sl ([.ref h0]) ++ List.replicate (1 - (lg_sl ([.ref h0])).length) Slot.unset).toArray = ls at hl ⊢
  have hl : lv_has ls 1 [(0, .ref h0)] := hl
  generalize hR : (headSpec (tb (.code yX11_forget cX11_forget 1 (some .int))) (rm 2)).room = R
  have hR := hR.symm
  generalize hQ : MQ below (QI (eu E (32 + 8 * t) (0)) D G (fun r => (r : Int32).toInt = ((E (32 + 8 * t) : Nat) : Int))) args s 0 0 (th_A G) = QF
  have hQ := hQ.symm
  refine lv_aload_n hx hb dX11_forget_0 rfl (lv_at hl 0 rfl) ?_
  refine th_cVv (As := []) (rest := []) (n := 0) (d := 1) ⟨hx, hb, hml, hown, hts⟩ (c_X11_turnLists l E D G h0 (n) hG0 ) wd_431 wd_433 wp_2 wd_1 wd_434 (by decide +kernel) ⟨by rw [hR]; exact Nat.le_of_ble_eq_true rfl, by rw [hR]; exact Nat.le_of_ble_eq_true rfl⟩ hI hN hK hS (rc_15 hI hG0 List.not_mem_nil) rfl rfl hl.1 rfl (Nat.le_of_ble_eq_true rfl) dX11_forget_1 ⟨Nat.zero_le _, Nat.zero_le _⟩ (fun H locs hI hS => ?_)
  refine lv_aload_n hx hb dX11_forget_4 rfl (lv_at hl 0 rfl) ?_
  obtain ⟨a2, a5, a7, a9, a11, a13, a15, a17, a19, a21, a23, w25, w28, w29, w30, w31, hO, hq3, hq4, hq6, hq8, hq10, hq12, hq14, hq16, hq18, hq20, hq22, hq24, ⟨k26, k27⟩, k32⟩ := op_15 hI hG0 List.not_mem_nil
  have hI := th_I.weak (a := h0) hI
  obtain rfl := eaU_q k32 e1
  refine th_get hx hb hts inT11 hown hK hO rfl 0 (by decide) (hts _ (tb_c wd_345)) rfl rfl dX11_forget_5 ?_
  have hI := th_I.close hI hG0 hO (ok_15 hq3 hq4 hq6 hq8 hq10 hq12 hq14 hq16 hq18 hq20 hq22 hq24 ⟨by omega, by omega⟩ k32)
  obtain ⟨a33, a35, a37, a39, a41, a43, a45, a47, a49, a51, w53, w56, w57, w58, hO, hq34, hq36, hq38, hq40, hq42, hq44, hq46, hq48, hq50, hq52, ⟨k54, k55⟩, k59⟩ := op_6 hI hq3 List.not_mem_nil
  have hI := th_I.weak (a := sa) hI
  obtain rfl := eaU_q k59.1 e2
  refine th_getN hx hb hts inT6 hown hK hN hO rfl 6 (by decide) wn_74 rfl rfl dX11_forget_8 ?_
  have hI := th_I.close hI hq3 hO (ok_6 hq34 hq36 hq38 hq40 hq42 hq44 hq46 hq48 hq50 hq52 ⟨by omega, by omega⟩ k59)
  refine th_cViE (As := []) (rest := []) (n := 0) (d := 0) ⟨hx, hb, hml, hown, hts⟩ (c_X4_clear_T l E D G t (42) hq46  (by decide)) wd_983 wd_984 wd_985 wd_3 wd_986 (by decide +kernel) ⟨by rw [hR]; exact Nat.le_of_ble_eq_true rfl, by rw [hR]; exact Nat.le_of_ble_eq_true rfl⟩ hI hN hK (by rw [tys_eu (by omega)]; exact hK) hS (rc_4 hI hq46 List.not_mem_nil) rfl rfl hl.1 rfl (Nat.le_of_ble_eq_true rfl) dX11_forget_11 ⟨Nat.zero_le _, Nat.zero_le _⟩ (fun r60 H locs Eu61 hEu61 hp hI hK hS => ?_)
  have hEt : eu E (32 + 8 * t) (0) = Eu61 := (congrArg (fun z => eu E (32 + 8 * t) z) (show 0 = _ from by first | rfl | omega | (rw [gI_f (by (try simp only [rg]); omega)]; omega) | (rw [gI_t (by (try simp only [rg]); omega), gI_t (by omega)]) | (rw [gI_t (by (try simp only [rg]); omega)]; omega) | (rw [gD_t (by (try simp only [rg]); omega), gD_t (by omega)]) | (rw [gD_t (by (try simp only [rg]); omega)]; omega))).trans hEu61.symm
  rw [← hEt] at hI hK
  have hpost : (r60 : Int32).toInt = ((E (32 + 8 * t) : Nat) : Int) := by omega
  rw [hQ]
  exact W.iret (v := r60) hx hb hr (fun t ht hW => ⟨⟨r60, (), rfl, hpost, by rw [ht]; exact hI, hN.warm hW, va_K.moved hW.alike hK⟩, hS.F ht⟩) hS.2.2 dX11_forget_14
theorem dX11_so_0g : (decode cX11_so 0 = .ok (.aload_n 0, 1)) ∧ (decode cX11_so 1 = .ok (.getfield 12, 3)) ∧ (decode cX11_so 4 = .ok (.getfield 292, 3)) ∧ (decode cX11_so 7 = .ok (.iload_n 1, 1)) ∧ (decode cX11_so 8 = .ok (.invokevirtual 159, 3)) ∧ (decode cX11_so 11 = .ok (.ifCond .ne 5, 3)) ∧ (decode cX11_so 14 = .ok (.iconst (-1), 1)) ∧ (decode cX11_so 15 = .ok (.ireturn, 1)) ∧ (decode cX11_so 16 = .ok (.aload_n 0, 1)) ∧ (decode cX11_so 17 = .ok (.getfield 60, 3)) := by decide +kernel
theorem dX11_so_0 : decode cX11_so 0 = .ok (.aload_n 0, 1) := dX11_so_0g.1
theorem dX11_so_1 : decode cX11_so 1 = .ok (.getfield 12, 3) := dX11_so_0g.2.1
theorem dX11_so_4 : decode cX11_so 4 = .ok (.getfield 292, 3) := dX11_so_0g.2.2.1
theorem dX11_so_7 : decode cX11_so 7 = .ok (.iload_n 1, 1) := dX11_so_0g.2.2.2.1
theorem dX11_so_8 : decode cX11_so 8 = .ok (.invokevirtual 159, 3) := dX11_so_0g.2.2.2.2.1
theorem dX11_so_11 : decode cX11_so 11 = .ok (.ifCond .ne 5, 3) := dX11_so_0g.2.2.2.2.2.1
theorem dX11_so_14 : decode cX11_so 14 = .ok (.iconst (-1), 1) := dX11_so_0g.2.2.2.2.2.2.1
theorem dX11_so_15 : decode cX11_so 15 = .ok (.ireturn, 1) := dX11_so_0g.2.2.2.2.2.2.2.1
theorem dX11_so_16 : decode cX11_so 16 = .ok (.aload_n 0, 1) := dX11_so_0g.2.2.2.2.2.2.2.2.1
theorem dX11_so_17 : decode cX11_so 17 = .ok (.getfield 60, 3) := dX11_so_0g.2.2.2.2.2.2.2.2.2
theorem dX11_so_20g : (decode cX11_so 20 = .ok (.aload_n 0, 1)) ∧ (decode cX11_so 21 = .ok (.getfield 12, 3)) ∧ (decode cX11_so 24 = .ok (.getfield 292, 3)) ∧ (decode cX11_so 27 = .ok (.iload_n 1, 1)) ∧ (decode cX11_so 28 = .ok (.iconst 0, 1)) ∧ (decode cX11_so 29 = .ok (.invokevirtual 173, 3)) ∧ (decode cX11_so 32 = .ok (.aload_n 0, 1)) ∧ (decode cX11_so 33 = .ok (.getfield 12, 3)) ∧ (decode cX11_so 36 = .ok (.getfield 292, 3)) ∧ (decode cX11_so 39 = .ok (.iload_n 1, 1)) := by decide +kernel
theorem dX11_so_20 : decode cX11_so 20 = .ok (.aload_n 0, 1) := dX11_so_20g.1
theorem dX11_so_21 : decode cX11_so 21 = .ok (.getfield 12, 3) := dX11_so_20g.2.1
theorem dX11_so_24 : decode cX11_so 24 = .ok (.getfield 292, 3) := dX11_so_20g.2.2.1
theorem dX11_so_27 : decode cX11_so 27 = .ok (.iload_n 1, 1) := dX11_so_20g.2.2.2.1
theorem dX11_so_28 : decode cX11_so 28 = .ok (.iconst 0, 1) := dX11_so_20g.2.2.2.2.1
theorem dX11_so_29 : decode cX11_so 29 = .ok (.invokevirtual 173, 3) := dX11_so_20g.2.2.2.2.2.1
theorem dX11_so_32 : decode cX11_so 32 = .ok (.aload_n 0, 1) := dX11_so_20g.2.2.2.2.2.2.1
theorem dX11_so_33 : decode cX11_so 33 = .ok (.getfield 12, 3) := dX11_so_20g.2.2.2.2.2.2.2.1
theorem dX11_so_36 : decode cX11_so 36 = .ok (.getfield 292, 3) := dX11_so_20g.2.2.2.2.2.2.2.2.1
theorem dX11_so_39 : decode cX11_so 39 = .ok (.iload_n 1, 1) := dX11_so_20g.2.2.2.2.2.2.2.2.2
theorem dX11_so_40g : (decode cX11_so 40 = .ok (.iconst 1, 1)) ∧ (decode cX11_so 41 = .ok (.invokevirtual 173, 3)) ∧ (decode cX11_so 44 = .ok (.aload_n 0, 1)) ∧ (decode cX11_so 45 = .ok (.getfield 12, 3)) ∧ (decode cX11_so 48 = .ok (.getfield 292, 3)) ∧ (decode cX11_so 51 = .ok (.iload_n 1, 1)) ∧ (decode cX11_so 52 = .ok (.iconst 2, 1)) ∧ (decode cX11_so 53 = .ok (.invokevirtual 173, 3)) ∧ (decode cX11_so 56 = .ok (.invokevirtual 272, 3)) ∧ (decode cX11_so 59 = .ok (.istore_n 2, 1)) := by decide +kernel
theorem dX11_so_40 : decode cX11_so 40 = .ok (.iconst 1, 1) := dX11_so_40g.1
theorem dX11_so_41 : decode cX11_so 41 = .ok (.invokevirtual 173, 3) := dX11_so_40g.2.1
theorem dX11_so_44 : decode cX11_so 44 = .ok (.aload_n 0, 1) := dX11_so_40g.2.2.1
theorem dX11_so_45 : decode cX11_so 45 = .ok (.getfield 12, 3) := dX11_so_40g.2.2.2.1
theorem dX11_so_48 : decode cX11_so 48 = .ok (.getfield 292, 3) := dX11_so_40g.2.2.2.2.1
theorem dX11_so_51 : decode cX11_so 51 = .ok (.iload_n 1, 1) := dX11_so_40g.2.2.2.2.2.1
theorem dX11_so_52 : decode cX11_so 52 = .ok (.iconst 2, 1) := dX11_so_40g.2.2.2.2.2.2.1
theorem dX11_so_53 : decode cX11_so 53 = .ok (.invokevirtual 173, 3) := dX11_so_40g.2.2.2.2.2.2.2.1
theorem dX11_so_56 : decode cX11_so 56 = .ok (.invokevirtual 272, 3) := dX11_so_40g.2.2.2.2.2.2.2.2.1
theorem dX11_so_59 : decode cX11_so 59 = .ok (.istore_n 2, 1) := dX11_so_40g.2.2.2.2.2.2.2.2.2
theorem dX11_so_60g : (decode cX11_so 60 = .ok (.aload_n 0, 1)) ∧ (decode cX11_so 61 = .ok (.getfield 12, 3)) ∧ (decode cX11_so 64 = .ok (.getfield 292, 3)) ∧ (decode cX11_so 67 = .ok (.iload_n 1, 1)) ∧ (decode cX11_so 68 = .ok (.iconst 3, 1)) ∧ (decode cX11_so 69 = .ok (.invokevirtual 173, 3)) ∧ (decode cX11_so 72 = .ok (.iconst 1, 1)) ∧ (decode cX11_so 73 = .ok (.if_icmp .ne 7, 3)) ∧ (decode cX11_so 76 = .ok (.iconst 1, 1)) ∧ (decode cX11_so 77 = .ok (.goto 4, 3)) := by decide +kernel
theorem dX11_so_60 : decode cX11_so 60 = .ok (.aload_n 0, 1) := dX11_so_60g.1
theorem dX11_so_61 : decode cX11_so 61 = .ok (.getfield 12, 3) := dX11_so_60g.2.1
theorem dX11_so_64 : decode cX11_so 64 = .ok (.getfield 292, 3) := dX11_so_60g.2.2.1
theorem dX11_so_67 : decode cX11_so 67 = .ok (.iload_n 1, 1) := dX11_so_60g.2.2.2.1
theorem dX11_so_68 : decode cX11_so 68 = .ok (.iconst 3, 1) := dX11_so_60g.2.2.2.2.1
theorem dX11_so_69 : decode cX11_so 69 = .ok (.invokevirtual 173, 3) := dX11_so_60g.2.2.2.2.2.1
theorem dX11_so_72 : decode cX11_so 72 = .ok (.iconst 1, 1) := dX11_so_60g.2.2.2.2.2.2.1
theorem dX11_so_73 : decode cX11_so 73 = .ok (.if_icmp .ne 7, 3) := dX11_so_60g.2.2.2.2.2.2.2.1
theorem dX11_so_76 : decode cX11_so 76 = .ok (.iconst 1, 1) := dX11_so_60g.2.2.2.2.2.2.2.2.1
theorem dX11_so_77 : decode cX11_so 77 = .ok (.goto 4, 3) := dX11_so_60g.2.2.2.2.2.2.2.2.2
theorem dX11_so_80g : (decode cX11_so 80 = .ok (.iconst 0, 1)) ∧ (decode cX11_so 81 = .ok (.istore_n 3, 1)) ∧ (decode cX11_so 82 = .ok (.iload_n 2, 1)) ∧ (decode cX11_so 83 = .ok (.ifCond .le 7, 3)) ∧ (decode cX11_so 86 = .ok (.iconst 1, 1)) ∧ (decode cX11_so 87 = .ok (.goto 4, 3)) ∧ (decode cX11_so 90 = .ok (.iconst 0, 1)) ∧ (decode cX11_so 91 = .ok (.iload_n 3, 1)) ∧ (decode cX11_so 92 = .ok (.if_icmp .ne 7, 3)) ∧ (decode cX11_so 95 = .ok (.iconst 1, 1)) := by decide +kernel
theorem dX11_so_80 : decode cX11_so 80 = .ok (.iconst 0, 1) := dX11_so_80g.1
theorem dX11_so_81 : decode cX11_so 81 = .ok (.istore_n 3, 1) := dX11_so_80g.2.1
theorem dX11_so_82 : decode cX11_so 82 = .ok (.iload_n 2, 1) := dX11_so_80g.2.2.1
theorem dX11_so_83 : decode cX11_so 83 = .ok (.ifCond .le 7, 3) := dX11_so_80g.2.2.2.1
theorem dX11_so_86 : decode cX11_so 86 = .ok (.iconst 1, 1) := dX11_so_80g.2.2.2.2.1
theorem dX11_so_87 : decode cX11_so 87 = .ok (.goto 4, 3) := dX11_so_80g.2.2.2.2.2.1
theorem dX11_so_90 : decode cX11_so 90 = .ok (.iconst 0, 1) := dX11_so_80g.2.2.2.2.2.2.1
theorem dX11_so_91 : decode cX11_so 91 = .ok (.iload_n 3, 1) := dX11_so_80g.2.2.2.2.2.2.2.1
theorem dX11_so_92 : decode cX11_so 92 = .ok (.if_icmp .ne 7, 3) := dX11_so_80g.2.2.2.2.2.2.2.2.1
theorem dX11_so_95 : decode cX11_so 95 = .ok (.iconst 1, 1) := dX11_so_80g.2.2.2.2.2.2.2.2.2
theorem dX11_so_96g : (decode cX11_so 96 = .ok (.goto 4, 3)) ∧ (decode cX11_so 99 = .ok (.iconst 0, 1)) ∧ (decode cX11_so 100 = .ok (.ireturn, 1)) := by decide +kernel
theorem dX11_so_96 : decode cX11_so 96 = .ok (.goto 4, 3) := dX11_so_96g.1
theorem dX11_so_99 : decode cX11_so 99 = .ok (.iconst 0, 1) := dX11_so_96g.2.1
theorem dX11_so_100 : decode cX11_so 100 = .ok (.ireturn, 1) := dX11_so_96g.2.2
set_option maxHeartbeats 4000000 in
set_option maxRecDepth 100000 in
theorem c_X11_so (l : Launch) (E : Nat → Nat) (D : va_G) (G : th_G) (h0 n : Nat) (hG0 : G h0 = some (15, n)) (x1 : Int32) : Met l yX11_so (tb (.code yX11_so cX11_so 4 (some .int))) (rm 8) (va_Pc [.ref h0, .int x1] (th_P E D G)) (QI E D G (fun r => True)) 0 0 (th_A G) := by
  refine Met.ofW (cc := cX11_so) (maxL := 4) (ret := (some .int)) (by decide) rfl ?_
  intro p e s m args below meth c s₁ B hml hv
  obtain ⟨hav, hI, hN, hK⟩ := hv
  have hx := B.exec
  have hb := B.bytes
  have hr := B.returns
  have hts := atoms_spec (ws := tb (.code yX11_so cX11_so 4 (some .int))) B.pre
  have hown : s.vm.findClass RX11 = some m.cls := findClass_of_methodNamed B.named
  have hlocks := B.notSynchronized
  have hS : va_S (th_A G) s.heap s.heap [] := va_S.rf
  have hl := lv_entry ([.ref h0, .int x1]) (n := 4) (Nat.le_of_ble_eq_true rfl)
  rw [show entryFrame m args 4 = entryFrame m ([.ref h0, .int x1] : List Value).toArray 4 from by rw [hav], lg_entry_eq]
  generalize (lg_sl ([.ref h0, .int x1]) ++ List.replicate (4 - (lg_sl ([.ref h0, .int x1])).length) Slot.unset).toArray = ls at hl ⊢
  have hl : lv_has ls 4 [(0, .ref h0), (1, .int x1)] := hl
  generalize hR : (headSpec (tb (.code yX11_so cX11_so 4 (some .int))) (rm 8)).room = R
  have hR := hR.symm
  generalize hQ : MQ below (QI E D G (fun r => True)) args s 0 0 (th_A G) = QF
  have hQ := hQ.symm
  have J_81 : ∀ (H : Heap) (locs : List Loc) (ls : Array Slot) (v2580 : Int32) (v2581 : Int32), lv_has ls 4 [(2, .int v2580), (0, .ref h0), (1, .int x1)] → ((0 : Int) ≤ x1.toInt ∧ x1.toInt ≤ 15) → ((0 : Int) ≤ v2581.toInt ∧ v2581.toInt ≤ 1) → th_I (okC E) D G [] H → va_S (th_A G) s.heap H locs → W p l e R s m args below meth c H locs 0 0 QF (F0 m 81 ls [.int v2581]) := by
    intro H locs ls v2580 v2581 hl k2582 k2583 hI hS
    refine lv_istore_n (lv' := [(3, .int v2581), (2, .int v2580), (0, .ref h0), (1, .int x1)]) hx hb dX11_so_81 rfl hl (by decide) rfl (fun ls hl => ?_)
    refine lv_iload_n hx hb dX11_so_82 rfl (lv_at hl 1 rfl) ?_
    have k2584 := iv_lo v2580
    have k2585 := iv_hi v2580
    refine lv_if_le (tgt := 90) hx hb dX11_so_83 (by decide) (fun c2586 => ?_) (fun c2586 => ?_)
    · skip
      have k2587 := iv_le (X := v2580.toInt) (Y := (0)) rfl (by decide) c2586
      refine lv_iconst (v := 0) hx hb dX11_so_90 (by decide) ?_
      refine lv_iload_n hx hb dX11_so_91 rfl (lv_at hl 0 rfl) ?_
      refine lv_icmp_ne (tgt := 99) hx hb dX11_so_92 (by decide) (fun c2588 => ?_) (fun c2588 => ?_)
      · skip
        have k2589 := iv_ne (X := (0)) (Y := v2581.toInt) (by decide) rfl c2588
        refine lv_iconst (v := 0) hx hb dX11_so_99 (by decide) ?_
        have hpost : True := trivial
        rw [hQ]
        exact W.iret (v := 0) hx hb hr (fun t ht hW => ⟨⟨0, (), rfl, hpost, by rw [ht]; exact hI, hN.warm hW, va_K.moved hW.alike hK⟩, hS.F ht⟩) hS.2.2 dX11_so_100
      · skip
        have k2590 := iv_eq (X := (0)) (Y := v2581.toInt) (by decide) rfl c2588
        refine lv_iconst (v := 1) hx hb dX11_so_95 (by decide) ?_
        refine lv_goto (tgt := 100) hx hb dX11_so_96 (by decide) ?_
        have hpost : True := trivial
        rw [hQ]
        exact W.iret (v := 1) hx hb hr (fun t ht hW => ⟨⟨1, (), rfl, hpost, by rw [ht]; exact hI, hN.warm hW, va_K.moved hW.alike hK⟩, hS.F ht⟩) hS.2.2 dX11_so_100
    · skip
      have k2591 := iv_nle (X := v2580.toInt) (Y := (0)) rfl (by decide) c2586
      refine lv_iconst (v := 1) hx hb dX11_so_86 (by decide) ?_
      refine lv_goto (tgt := 91) hx hb dX11_so_87 (by decide) ?_
      refine lv_iload_n hx hb dX11_so_91 rfl (lv_at hl 0 rfl) ?_
      refine lv_icmp_ne (tgt := 99) hx hb dX11_so_92 (by decide) (fun c2592 => ?_) (fun c2592 => ?_)
      · skip
        have k2593 := iv_ne (X := (1)) (Y := v2581.toInt) (by decide) rfl c2592
        refine lv_iconst (v := 0) hx hb dX11_so_99 (by decide) ?_
        have hpost : True := trivial
        rw [hQ]
        exact W.iret (v := 0) hx hb hr (fun t ht hW => ⟨⟨0, (), rfl, hpost, by rw [ht]; exact hI, hN.warm hW, va_K.moved hW.alike hK⟩, hS.F ht⟩) hS.2.2 dX11_so_100
      · skip
        have k2594 := iv_eq (X := (1)) (Y := v2581.toInt) (by decide) rfl c2592
        refine lv_iconst (v := 1) hx hb dX11_so_95 (by decide) ?_
        refine lv_goto (tgt := 100) hx hb dX11_so_96 (by decide) ?_
        have hpost : True := trivial
        rw [hQ]
        exact W.iret (v := 1) hx hb hr (fun t ht hW => ⟨⟨1, (), rfl, hpost, by rw [ht]; exact hI, hN.warm hW, va_K.moved hW.alike hK⟩, hS.F ht⟩) hS.2.2 dX11_so_100
  refine lv_aload_n hx hb dX11_so_0 rfl (lv_at hl 0 rfl) ?_
  obtain ⟨a2595, a2598, a2600, a2602, a2604, a2606, a2608, a2610, a2612, a2614, a2616, w2618, w2621, w2622, w2623, w2624, hO, hq2596, hq2597, hq2599, hq2601, hq2603, hq2605, hq2607, hq2609, hq2611, hq2613, hq2615, hq2617, ⟨k2619, k2620⟩, k2625⟩ := op_15 hI hG0 List.not_mem_nil
  have hI := th_I.weak (a := h0) hI
  refine th_get hx hb hts inT11 hown hK hO rfl 0 (by decide) (hts _ (tb_c wd_345)) rfl rfl dX11_so_1 ?_
  have hI := th_I.close hI hG0 hO (ok_15 hq2596 hq2597 hq2599 hq2601 hq2603 hq2605 hq2607 hq2609 hq2611 hq2613 hq2615 hq2617 ⟨by omega, by omega⟩ k2625)
  obtain ⟨a2626, a2628, a2630, a2632, a2634, a2636, a2638, a2640, a2642, a2644, w2646, w2649, w2650, w2651, hO, hq2627, hq2629, hq2631, hq2633, hq2635, hq2637, hq2639, hq2641, hq2643, hq2645, ⟨k2647, k2648⟩, k2652⟩ := op_6 hI hq2596 List.not_mem_nil
  have hI := th_I.weak (a := a2595) hI
  refine th_getN hx hb hts inT6 hown hK hN hO rfl 6 (by decide) wn_74 rfl rfl dX11_so_4 ?_
  refine lv_iload_n hx hb dX11_so_7 rfl (lv_at hl 1 rfl) ?_
  have hI := th_I.close hI hq2596 hO (ok_6 hq2627 hq2629 hq2631 hq2633 hq2635 hq2637 hq2639 hq2641 hq2643 hq2645 ⟨by omega, by omega⟩ k2652)
  obtain ⟨a2654, w2656, hO, hq2655, ⟨k2657, k2658⟩, k2659⟩ := op_4 hI hq2639 List.not_mem_nil
  have hI := th_I.weak (a := a2638) hI
  have k2660 : (nI (42 % 32)).toInt = ((42 % 32 : Nat) : Int) := nI_toInt (by omega)
  have k2661 := k2659.1
  refine th_cVs (As := [.int x1]) (rest := []) (n := 1) (d := 0) ⟨hx, hb, hml, hown, hts⟩ (c_X4_has l E D s.heap a2638 (42 % 32) a2654 w2656 hO (by omega) (by omega) (by omega) x1) wd_494 wd_495 wd_496 wd_3 wd_497 (by decide +kernel) ⟨by rw [hR]; exact Nat.le_of_ble_eq_true rfl, by rw [hR]; exact Nat.le_of_ble_eq_true rfl⟩ hN hK hS ⟨_, hO⟩ rfl rfl hl.1 rfl (Nat.le_of_ble_eq_true rfl) dX11_so_8 ⟨Nat.zero_le _, Nat.zero_le _⟩ (fun r2653 locs hp hS => ?_)
  rcases hp with ⟨rfl, hp⟩ | ⟨rfl, hp⟩
  · skip
    try simp only [rg, not_and, Int.not_le] at hp
    have hp2662 := hp
    refine lv_if_ne (tgt := 16) hx hb dX11_so_11 (by decide) (fun _ => ?_) (fun c => absurd c (by decide))
    refine lv_aload_n hx hb dX11_so_16 rfl (lv_at hl 0 rfl) ?_
    have hI := th_I.close hI hq2639 hO (ok_4 hq2655 ⟨by omega, by omega⟩ k2659)
    obtain ⟨a2663, a2666, a2668, a2670, a2672, a2674, a2676, a2678, a2680, a2682, a2684, w2686, w2689, w2690, w2691, w2692, hO, hq2664, hq2665, hq2667, hq2669, hq2671, hq2673, hq2675, hq2677, hq2679, hq2681, hq2683, hq2685, ⟨k2687, k2688⟩, k2693⟩ := op_15 hI hG0 List.not_mem_nil
    have hI := th_I.weak (a := h0) hI
    refine th_get hx hb hts inT11 hown hK hO rfl 8 (by decide) (hts _ (tb_c wd_353)) rfl rfl dX11_so_17 ?_
    refine lv_aload_n hx hb dX11_so_20 rfl (lv_at hl 0 rfl) ?_
    refine th_get hx hb hts inT11 hown hK hO rfl 0 (by decide) (hts _ (tb_c wd_345)) rfl rfl dX11_so_21 ?_
    have hI := th_I.close hI hG0 hO (ok_15 hq2664 hq2665 hq2667 hq2669 hq2671 hq2673 hq2675 hq2677 hq2679 hq2681 hq2683 hq2685 ⟨by omega, by omega⟩ k2693)
    obtain ⟨a2694, a2696, a2698, a2700, a2702, a2704, a2706, a2708, a2710, a2712, w2714, w2717, w2718, w2719, hO, hq2695, hq2697, hq2699, hq2701, hq2703, hq2705, hq2707, hq2709, hq2711, hq2713, ⟨k2715, k2716⟩, k2720⟩ := op_6 hI hq2664 List.not_mem_nil
    have hI := th_I.weak (a := a2663) hI
    refine th_getN hx hb hts inT6 hown hK hN hO rfl 6 (by decide) wn_74 rfl rfl dX11_so_24 ?_
    refine lv_iload_n hx hb dX11_so_27 rfl (lv_at hl 1 rfl) ?_
    refine lv_iconst (v := 0) hx hb dX11_so_28 (by decide) ?_
    have hI := th_I.close hI hq2664 hO (ok_6 hq2695 hq2697 hq2699 hq2701 hq2703 hq2705 hq2707 hq2709 hq2711 hq2713 ⟨by omega, by omega⟩ k2720)
    refine th_cVi (As := [.int x1, .int 0]) (rest := [.ref a2678]) (n := 2) (d := 0) ⟨hx, hb, hml, hown, hts⟩ (c_X4_at l E D G a2706 (42) hq2707 x1 0) wd_518 wd_519 wd_520 wd_3 wd_521 (by decide +kernel) ⟨by rw [hR]; exact Nat.le_of_ble_eq_true rfl, by rw [hR]; exact Nat.le_of_ble_eq_true rfl⟩ hI hN hK hS (rc_4 hI hq2707 List.not_mem_nil) rfl rfl hl.1 rfl (Nat.le_of_ble_eq_true rfl) dX11_so_29 ⟨Nat.zero_le _, Nat.zero_le _⟩ (fun r2721 H locs hp hI hS => ?_)
    refine lv_aload_n hx hb dX11_so_32 rfl (lv_at hl 0 rfl) ?_
    obtain ⟨a2722, a2725, a2727, a2729, a2731, a2733, a2735, a2737, a2739, a2741, a2743, w2745, w2748, w2749, w2750, w2751, hO, hq2723, hq2724, hq2726, hq2728, hq2730, hq2732, hq2734, hq2736, hq2738, hq2740, hq2742, hq2744, ⟨k2746, k2747⟩, k2752⟩ := op_15 hI hG0 List.not_mem_nil
    have hI := th_I.weak (a := h0) hI
    refine th_get hx hb hts inT11 hown hK hO rfl 0 (by decide) (hts _ (tb_c wd_345)) rfl rfl dX11_so_33 ?_
    have hI := th_I.close hI hG0 hO (ok_15 hq2723 hq2724 hq2726 hq2728 hq2730 hq2732 hq2734 hq2736 hq2738 hq2740 hq2742 hq2744 ⟨by omega, by omega⟩ k2752)
    obtain ⟨a2753, a2755, a2757, a2759, a2761, a2763, a2765, a2767, a2769, a2771, w2773, w2776, w2777, w2778, hO, hq2754, hq2756, hq2758, hq2760, hq2762, hq2764, hq2766, hq2768, hq2770, hq2772, ⟨k2774, k2775⟩, k2779⟩ := op_6 hI hq2723 List.not_mem_nil
    have hI := th_I.weak (a := a2722) hI
    refine th_getN hx hb hts inT6 hown hK hN hO rfl 6 (by decide) wn_74 rfl rfl dX11_so_36 ?_
    refine lv_iload_n hx hb dX11_so_39 rfl (lv_at hl 1 rfl) ?_
    refine lv_iconst (v := 1) hx hb dX11_so_40 (by decide) ?_
    have hI := th_I.close hI hq2723 hO (ok_6 hq2754 hq2756 hq2758 hq2760 hq2762 hq2764 hq2766 hq2768 hq2770 hq2772 ⟨by omega, by omega⟩ k2779)
    refine th_cVi (As := [.int x1, .int 1]) (rest := [.int r2721, .ref a2678]) (n := 2) (d := 0) ⟨hx, hb, hml, hown, hts⟩ (c_X4_at l E D G a2765 (42) hq2766 x1 1) wd_518 wd_519 wd_520 wd_3 wd_521 (by decide +kernel) ⟨by rw [hR]; exact Nat.le_of_ble_eq_true rfl, by rw [hR]; exact Nat.le_of_ble_eq_true rfl⟩ hI hN hK hS (rc_4 hI hq2766 List.not_mem_nil) rfl rfl hl.1 rfl (Nat.le_of_ble_eq_true rfl) dX11_so_41 ⟨Nat.zero_le _, Nat.zero_le _⟩ (fun r2780 H locs hp hI hS => ?_)
    refine lv_aload_n hx hb dX11_so_44 rfl (lv_at hl 0 rfl) ?_
    obtain ⟨a2781, a2784, a2786, a2788, a2790, a2792, a2794, a2796, a2798, a2800, a2802, w2804, w2807, w2808, w2809, w2810, hO, hq2782, hq2783, hq2785, hq2787, hq2789, hq2791, hq2793, hq2795, hq2797, hq2799, hq2801, hq2803, ⟨k2805, k2806⟩, k2811⟩ := op_15 hI hG0 List.not_mem_nil
    have hI := th_I.weak (a := h0) hI
    refine th_get hx hb hts inT11 hown hK hO rfl 0 (by decide) (hts _ (tb_c wd_345)) rfl rfl dX11_so_45 ?_
    have hI := th_I.close hI hG0 hO (ok_15 hq2782 hq2783 hq2785 hq2787 hq2789 hq2791 hq2793 hq2795 hq2797 hq2799 hq2801 hq2803 ⟨by omega, by omega⟩ k2811)
    obtain ⟨a2812, a2814, a2816, a2818, a2820, a2822, a2824, a2826, a2828, a2830, w2832, w2835, w2836, w2837, hO, hq2813, hq2815, hq2817, hq2819, hq2821, hq2823, hq2825, hq2827, hq2829, hq2831, ⟨k2833, k2834⟩, k2838⟩ := op_6 hI hq2782 List.not_mem_nil
    have hI := th_I.weak (a := a2781) hI
    refine th_getN hx hb hts inT6 hown hK hN hO rfl 6 (by decide) wn_74 rfl rfl dX11_so_48 ?_
    refine lv_iload_n hx hb dX11_so_51 rfl (lv_at hl 1 rfl) ?_
    refine lv_iconst (v := 2) hx hb dX11_so_52 (by decide) ?_
    have hI := th_I.close hI hq2782 hO (ok_6 hq2813 hq2815 hq2817 hq2819 hq2821 hq2823 hq2825 hq2827 hq2829 hq2831 ⟨by omega, by omega⟩ k2838)
    refine th_cVi (As := [.int x1, .int 2]) (rest := [.int r2780, .int r2721, .ref a2678]) (n := 2) (d := 0) ⟨hx, hb, hml, hown, hts⟩ (c_X4_at l E D G a2824 (42) hq2825 x1 2) wd_518 wd_519 wd_520 wd_3 wd_521 (by decide +kernel) ⟨by rw [hR]; exact Nat.le_of_ble_eq_true rfl, by rw [hR]; exact Nat.le_of_ble_eq_true rfl⟩ hI hN hK hS (rc_4 hI hq2825 List.not_mem_nil) rfl rfl hl.1 rfl (Nat.le_of_ble_eq_true rfl) dX11_so_53 ⟨Nat.zero_le _, Nat.zero_le _⟩ (fun r2839 H locs hp hI hS => ?_)
    refine th_cVi (As := [.int r2721, .int r2780, .int r2839]) (rest := []) (n := 3) (d := 7) ⟨hx, hb, hml, hown, hts⟩ (c_X1_amountAt l E D G a2678 hq2679 r2721 r2780 r2839) wd_916 wd_917 wd_918 wd_9 wd_919 (by decide +kernel) ⟨by rw [hR]; exact Nat.le_of_ble_eq_true rfl, by rw [hR]; exact Nat.le_of_ble_eq_true rfl⟩ hI hN hK hS (rc_11 hI hq2679 List.not_mem_nil) rfl rfl hl.1 rfl (Nat.le_of_ble_eq_true rfl) dX11_so_56 ⟨Nat.zero_le _, Nat.zero_le _⟩ (fun r2840 H locs hp hI hS => ?_)
    refine lv_istore_n (lv' := [(2, .int r2840), (0, .ref h0), (1, .int x1)]) hx hb dX11_so_59 rfl hl (by decide) rfl (fun ls hl => ?_)
    refine lv_aload_n hx hb dX11_so_60 rfl (lv_at hl 1 rfl) ?_
    obtain ⟨a2841, a2844, a2846, a2848, a2850, a2852, a2854, a2856, a2858, a2860, a2862, w2864, w2867, w2868, w2869, w2870, hO, hq2842, hq2843, hq2845, hq2847, hq2849, hq2851, hq2853, hq2855, hq2857, hq2859, hq2861, hq2863, ⟨k2865, k2866⟩, k2871⟩ := op_15 hI hG0 List.not_mem_nil
    have hI := th_I.weak (a := h0) hI
    refine th_get hx hb hts inT11 hown hK hO rfl 0 (by decide) (hts _ (tb_c wd_345)) rfl rfl dX11_so_61 ?_
    have hI := th_I.close hI hG0 hO (ok_15 hq2842 hq2843 hq2845 hq2847 hq2849 hq2851 hq2853 hq2855 hq2857 hq2859 hq2861 hq2863 ⟨by omega, by omega⟩ k2871)
    obtain ⟨a2872, a2874, a2876, a2878, a2880, a2882, a2884, a2886, a2888, a2890, w2892, w2895, w2896, w2897, hO, hq2873, hq2875, hq2877, hq2879, hq2881, hq2883, hq2885, hq2887, hq2889, hq2891, ⟨k2893, k2894⟩, k2898⟩ := op_6 hI hq2842 List.not_mem_nil
    have hI := th_I.weak (a := a2841) hI
    refine th_getN hx hb hts inT6 hown hK hN hO rfl 6 (by decide) wn_74 rfl rfl dX11_so_64 ?_
    refine lv_iload_n hx hb dX11_so_67 rfl (lv_at hl 2 rfl) ?_
    refine lv_iconst (v := 3) hx hb dX11_so_68 (by decide) ?_
    have hI := th_I.close hI hq2842 hO (ok_6 hq2873 hq2875 hq2877 hq2879 hq2881 hq2883 hq2885 hq2887 hq2889 hq2891 ⟨by omega, by omega⟩ k2898)
    refine th_cVi (As := [.int x1, .int 3]) (rest := []) (n := 2) (d := 0) ⟨hx, hb, hml, hown, hts⟩ (c_X4_at l E D G a2884 (42) hq2885 x1 3) wd_518 wd_519 wd_520 wd_3 wd_521 (by decide +kernel) ⟨by rw [hR]; exact Nat.le_of_ble_eq_true rfl, by rw [hR]; exact Nat.le_of_ble_eq_true rfl⟩ hI hN hK hS (rc_4 hI hq2885 List.not_mem_nil) rfl rfl hl.1 rfl (Nat.le_of_ble_eq_true rfl) dX11_so_69 ⟨Nat.zero_le _, Nat.zero_le _⟩ (fun r2899 H locs hp hI hS => ?_)
    refine lv_iconst (v := 1) hx hb dX11_so_72 (by decide) ?_
    have k2900 := iv_lo r2899
    have k2901 := iv_hi r2899
    refine lv_icmp_ne (tgt := 80) hx hb dX11_so_73 (by decide) (fun c2902 => ?_) (fun c2902 => ?_)
    · skip
      have k2903 := iv_ne (X := r2899.toInt) (Y := (1)) rfl (by decide) c2902
      refine lv_iconst (v := 0) hx hb dX11_so_80 (by decide) ?_
      exact J_81 H locs ls r2840 0 (lv_sub hl [0, 1, 2] rfl) ⟨by omega, by omega⟩ ⟨by decide, by decide⟩ hI hS
    · skip
      have k2904 := iv_eq (X := r2899.toInt) (Y := (1)) rfl (by decide) c2902
      refine lv_iconst (v := 1) hx hb dX11_so_76 (by decide) ?_
      refine lv_goto (tgt := 81) hx hb dX11_so_77 (by decide) ?_
      exact J_81 H locs ls r2840 1 (lv_sub hl [0, 1, 2] rfl) ⟨by omega, by omega⟩ ⟨by decide, by decide⟩ hI hS
  · skip
    have hp2905 := hp
    refine lv_if_ne (tgt := 16) hx hb dX11_so_11 (by decide) (fun c => absurd c (by decide)) (fun _ => ?_)
    refine lv_iconst (v := (-1)) hx hb dX11_so_14 (by decide) ?_
    have hI := th_I.close hI hq2639 hO (ok_4 hq2655 ⟨by omega, by omega⟩ k2659)
    have hpost : True := trivial
    rw [hQ]
    exact W.iret (v := (-1)) hx hb hr (fun t ht hW => ⟨⟨(-1), (), rfl, hpost, by rw [ht]; exact hI, hN.warm hW, va_K.moved hW.alike hK⟩, hS.F ht⟩) hS.2.2 dX11_so_15
