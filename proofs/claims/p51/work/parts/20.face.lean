theorem wn_61 : (Cond.fieldLinkNest RX11 (145 : Nat) "NineRiver$State" "gates" "LNineRiver$Rows;" "NineRiver") ∈ lw_tbl := List.mem_append_right _ (List.mem_of_getElem? (i := 61) (by decide +kernel))
theorem wn_64 : (Cond.fieldLinkNest RX11 (170 : Nat) "NineRiver$State" "mills" "LNineRiver$Rows;" "NineRiver") ∈ lw_tbl := List.mem_append_right _ (List.mem_of_getElem? (i := 64) (by decide +kernel))
theorem wn_68 : (Cond.fieldLinkNest RX11 (246 : Nat) "NineRiver$State" "boats" "LNineRiver$Rows;" "NineRiver") ∈ lw_tbl := List.mem_append_right _ (List.mem_of_getElem? (i := 68) (by decide +kernel))
theorem wn_71 : (Cond.fieldLinkNest RX11 (266 : Nat) "NineRiver$State" "pours" "LNineRiver$Rows;" "NineRiver") ∈ lw_tbl := List.mem_append_right _ (List.mem_of_getElem? (i := 71) (by decide +kernel))
theorem wn_74 : (Cond.fieldLinkNest RX11 (292 : Nat) "NineRiver$State" "sights" "LNineRiver$Rows;" "NineRiver") ∈ lw_tbl := List.mem_append_right _ (List.mem_of_getElem? (i := 74) (by decide +kernel))
theorem wd_352 : (Cond.fieldLink RX11 (51 : Nat) "NineRiver" "travel" "LNineRiver$Travel;") ∈ TB := tw 352 (by decide +kernel) (by decide +kernel)
theorem wd_355 : (Cond.fieldLink RX11 (78 : Nat) "NineRiver" "thrower" "LNineRiver$Thrower;") ∈ TB := tw 355 (by decide +kernel) (by decide +kernel)
theorem wd_481 : (Cond.methodLink RX11 (149 : Nat) yX4_isFull) ∈ TB := tw 481 (by decide +kernel) (by decide +kernel)
theorem wd_485 : (Cond.methodLink RX11 (155 : Nat) yX4_put) ∈ TB := tw 485 (by decide +kernel) (by decide +kernel)
theorem wd_486 : (Jvm.Cond.instanceMethod yX4_put) ∈ TB := tw 486 (by decide +kernel) (by decide +kernel)
theorem wd_487 : (Cond.selects RX4 yX4_put yX4_put) ∈ TB := tw 487 (by decide +kernel) (by decide +kernel)
theorem wd_488 : (Cond.code yX4_put cX4_put 6 (Option.some Jvm.ClassFile.FieldType.int)) ∈ TB := tw 488 (by decide +kernel) (by decide +kernel)
theorem wd_494 : (Cond.methodLink RX11 (159 : Nat) yX4_has) ∈ TB := tw 494 (by decide +kernel) (by decide +kernel)
theorem wd_498 : (Cond.methodLink RX11 (162 : Nat) yX4_takeOut) ∈ TB := tw 498 (by decide +kernel) (by decide +kernel)
theorem wd_499 : (Jvm.Cond.instanceMethod yX4_takeOut) ∈ TB := tw 499 (by decide +kernel) (by decide +kernel)
theorem wd_500 : (Cond.selects RX4 yX4_takeOut yX4_takeOut) ∈ TB := tw 500 (by decide +kernel) (by decide +kernel)
theorem wd_501 : (Cond.code yX4_takeOut cX4_takeOut 2 (Option.none : Option Jvm.ClassFile.FieldType)) ∈ TB := tw 501 (by decide +kernel) (by decide +kernel)
theorem wd_506 : (Cond.methodLink RX11 (166 : Nat) yX4_size) ∈ TB := tw 506 (by decide +kernel) (by decide +kernel)
theorem wd_518 : (Cond.methodLink RX11 (173 : Nat) yX4_at) ∈ TB := tw 518 (by decide +kernel) (by decide +kernel)
theorem wd_522 : (Cond.methodLink RX11 (176 : Nat) yX7_turns) ∈ TB := tw 522 (by decide +kernel) (by decide +kernel)
theorem wd_523 : (Jvm.Cond.instanceMethod yX7_turns) ∈ TB := tw 523 (by decide +kernel) (by decide +kernel)
theorem wd_524 : (Cond.selects RX7 yX7_turns yX7_turns) ∈ TB := tw 524 (by decide +kernel) (by decide +kernel)
theorem wd_525 : (Cond.code yX7_turns cX7_turns 6 (Option.some Jvm.ClassFile.FieldType.int)) ∈ TB := tw 525 (by decide +kernel) (by decide +kernel)
theorem wd_617 : (Cond.methodLink RX11 (262 : Nat) yX11_isPour) ∈ TB := tw 617 (by decide +kernel) (by decide +kernel)
theorem wd_618 : (Jvm.Cond.static yX11_isPour) ∈ TB := tw 618 (by decide +kernel) (by decide +kernel)
theorem wd_619 : (Cond.code yX11_isPour cX11_isPour 4 (Option.some Jvm.ClassFile.FieldType.boolean)) ∈ TB := tw 619 (by decide +kernel) (by decide +kernel)
theorem wd_623 : (Cond.methodLink RX11 (220 : Nat) yX7_isBarred) ∈ TB := tw 623 (by decide +kernel) (by decide +kernel)
theorem wd_805 : (Cond.methodLink RX11 (214 : Nat) yX7_flowAt) ∈ TB := tw 805 (by decide +kernel) (by decide +kernel)
theorem wd_810 : (Cond.methodLink RX11 (217 : Nat) yX7_costAt) ∈ TB := tw 810 (by decide +kernel) (by decide +kernel)
theorem wd_811 : (Jvm.Cond.instanceMethod yX7_costAt) ∈ TB := tw 811 (by decide +kernel) (by decide +kernel)
theorem wd_812 : (Cond.selects RX7 yX7_costAt yX7_costAt) ∈ TB := tw 812 (by decide +kernel) (by decide +kernel)
theorem wd_813 : (Cond.code yX7_costAt cX7_costAt 3 (Option.some Jvm.ClassFile.FieldType.int)) ∈ TB := tw 813 (by decide +kernel) (by decide +kernel)
theorem wd_814 : (Cond.methodLink RX11 (223 : Nat) yX7_tollAt) ∈ TB := tw 814 (by decide +kernel) (by decide +kernel)
theorem wd_826 : (Cond.methodLink RX11 (226 : Nat) yX11_isMoment) ∈ TB := tw 826 (by decide +kernel) (by decide +kernel)
theorem wd_829 : (Cond.methodLink RX11 (229 : Nat) yX9_drift) ∈ TB := tw 829 (by decide +kernel) (by decide +kernel)
theorem wd_838 : (Cond.methodLink RX11 (232 : Nat) Lib.Math.min.name) ∈ TB := tw 838 (by decide +kernel) (by decide +kernel)
theorem wd_839 : (Cond.methodLink RX11 (237 : Nat) yX9_downstream) ∈ TB := tw 839 (by decide +kernel) (by decide +kernel)
theorem wd_840 : (Jvm.Cond.instanceMethod yX9_downstream) ∈ TB := tw 840 (by decide +kernel) (by decide +kernel)
theorem wd_841 : (Cond.selects RX9 yX9_downstream yX9_downstream) ∈ TB := tw 841 (by decide +kernel) (by decide +kernel)
theorem wd_842 : (Cond.code yX9_downstream cX9_downstream 7 (Option.some Jvm.ClassFile.FieldType.int)) ∈ TB := tw 842 (by decide +kernel) (by decide +kernel)
theorem wd_847 : (Cond.methodLink RX11 (240 : Nat) yX11_isPlace) ∈ TB := tw 847 (by decide +kernel) (by decide +kernel)
theorem wd_850 : (Cond.methodLink RX11 (243 : Nat) yX9_traceBack) ∈ TB := tw 850 (by decide +kernel) (by decide +kernel)
theorem wd_864 : (Cond.methodLink RX11 (249 : Nat) yX4_change) ∈ TB := tw 864 (by decide +kernel) (by decide +kernel)
theorem wd_865 : (Jvm.Cond.instanceMethod yX4_change) ∈ TB := tw 865 (by decide +kernel) (by decide +kernel)
theorem wd_866 : (Cond.selects RX4 yX4_change yX4_change) ∈ TB := tw 866 (by decide +kernel) (by decide +kernel)
theorem wd_867 : (Cond.code yX4_change cX4_change 4 (Option.none : Option Jvm.ClassFile.FieldType)) ∈ TB := tw 867 (by decide +kernel) (by decide +kernel)
theorem wd_872 : (Cond.methodLink RX11 (253 : Nat) yX9_boatAt) ∈ TB := tw 872 (by decide +kernel) (by decide +kernel)
theorem wd_885 : (Cond.methodLink RX11 (256 : Nat) yX9_tollTill) ∈ TB := tw 885 (by decide +kernel) (by decide +kernel)
theorem wd_886 : (Jvm.Cond.instanceMethod yX9_tollTill) ∈ TB := tw 886 (by decide +kernel) (by decide +kernel)
theorem wd_887 : (Cond.selects RX9 yX9_tollTill yX9_tollTill) ∈ TB := tw 887 (by decide +kernel) (by decide +kernel)
theorem wd_888 : (Cond.code yX9_tollTill cX9_tollTill 6 (Option.some Jvm.ClassFile.FieldType.int)) ∈ TB := tw 888 (by decide +kernel) (by decide +kernel)
theorem wd_898 : (Cond.methodLink RX11 (259 : Nat) yX9_meeting) ∈ TB := tw 898 (by decide +kernel) (by decide +kernel)
theorem wd_899 : (Jvm.Cond.instanceMethod yX9_meeting) ∈ TB := tw 899 (by decide +kernel) (by decide +kernel)
theorem wd_900 : (Cond.selects RX9 yX9_meeting yX9_meeting) ∈ TB := tw 900 (by decide +kernel) (by decide +kernel)
theorem wd_901 : (Cond.code yX9_meeting cX9_meeting 6 (Option.some Jvm.ClassFile.FieldType.int)) ∈ TB := tw 901 (by decide +kernel) (by decide +kernel)
theorem wd_916 : (Cond.methodLink RX11 (272 : Nat) yX1_amountAt) ∈ TB := tw 916 (by decide +kernel) (by decide +kernel)
theorem wd_917 : (Jvm.Cond.instanceMethod yX1_amountAt) ∈ TB := tw 917 (by decide +kernel) (by decide +kernel)
theorem wd_918 : (Cond.selects RX1 yX1_amountAt yX1_amountAt) ∈ TB := tw 918 (by decide +kernel) (by decide +kernel)
theorem wd_919 : (Cond.code yX1_amountAt cX1_amountAt 6 (Option.some Jvm.ClassFile.FieldType.int)) ∈ TB := tw 919 (by decide +kernel) (by decide +kernel)
theorem wd_931 : (Cond.methodLink RX11 (275 : Nat) yX1_firstComing) ∈ TB := tw 931 (by decide +kernel) (by decide +kernel)
theorem wd_932 : (Jvm.Cond.instanceMethod yX1_firstComing) ∈ TB := tw 932 (by decide +kernel) (by decide +kernel)
theorem wd_933 : (Cond.selects RX1 yX1_firstComing yX1_firstComing) ∈ TB := tw 933 (by decide +kernel) (by decide +kernel)
theorem wd_934 : (Cond.code yX1_firstComing cX1_firstComing 8 (Option.some Jvm.ClassFile.FieldType.int)) ∈ TB := tw 934 (by decide +kernel) (by decide +kernel)
theorem wd_941 : (Cond.methodLink RX11 (278 : Nat) yX1_spread) ∈ TB := tw 941 (by decide +kernel) (by decide +kernel)
theorem wd_942 : (Jvm.Cond.instanceMethod yX1_spread) ∈ TB := tw 942 (by decide +kernel) (by decide +kernel)
theorem wd_943 : (Cond.selects RX1 yX1_spread yX1_spread) ∈ TB := tw 943 (by decide +kernel) (by decide +kernel)
theorem wd_944 : (Cond.code yX1_spread cX1_spread 5 (Option.none : Option Jvm.ClassFile.FieldType)) ∈ TB := tw 944 (by decide +kernel) (by decide +kernel)
theorem wd_947 : (Cond.methodLink RX11 (282 : Nat) yX1_fullest) ∈ TB := tw 947 (by decide +kernel) (by decide +kernel)
theorem wd_948 : (Jvm.Cond.instanceMethod yX1_fullest) ∈ TB := tw 948 (by decide +kernel) (by decide +kernel)
theorem wd_949 : (Cond.selects RX1 yX1_fullest yX1_fullest) ∈ TB := tw 949 (by decide +kernel) (by decide +kernel)
theorem wd_950 : (Cond.code yX1_fullest cX1_fullest 4 (Option.some Jvm.ClassFile.FieldType.int)) ∈ TB := tw 950 (by decide +kernel) (by decide +kernel)
theorem wd_951 : (Cond.methodLink RX11 (285 : Nat) yX1_coloured) ∈ TB := tw 951 (by decide +kernel) (by decide +kernel)
theorem wd_952 : (Jvm.Cond.instanceMethod yX1_coloured) ∈ TB := tw 952 (by decide +kernel) (by decide +kernel)
theorem wd_953 : (Cond.selects RX1 yX1_coloured yX1_coloured) ∈ TB := tw 953 (by decide +kernel) (by decide +kernel)
theorem wd_954 : (Cond.code yX1_coloured cX1_coloured 6 (Option.some Jvm.ClassFile.FieldType.int)) ∈ TB := tw 954 (by decide +kernel) (by decide +kernel)
theorem wd_959 : (Cond.methodLink RX11 (288 : Nat) yX8_cheapest) ∈ TB := tw 959 (by decide +kernel) (by decide +kernel)
theorem wd_960 : (Jvm.Cond.instanceMethod yX8_cheapest) ∈ TB := tw 960 (by decide +kernel) (by decide +kernel)
theorem wd_961 : (Cond.selects RX8 yX8_cheapest yX8_cheapest) ∈ TB := tw 961 (by decide +kernel) (by decide +kernel)
theorem wd_962 : (Cond.code yX8_cheapest cX8_cheapest 8 (Option.some Jvm.ClassFile.FieldType.int)) ∈ TB := tw 962 (by decide +kernel) (by decide +kernel)
theorem wd_983 : (Cond.methodLink RX11 (295 : Nat) yX4_clear) ∈ TB := tw 983 (by decide +kernel) (by decide +kernel)
theorem wd_984 : (Jvm.Cond.instanceMethod yX4_clear) ∈ TB := tw 984 (by decide +kernel) (by decide +kernel)
theorem wd_985 : (Cond.selects RX4 yX4_clear yX4_clear) ∈ TB := tw 985 (by decide +kernel) (by decide +kernel)
theorem wd_986 : (Cond.code yX4_clear cX4_clear 2 (Option.some Jvm.ClassFile.FieldType.int)) ∈ TB := tw 986 (by decide +kernel) (by decide +kernel)
theorem dX11_gate_0 : decode cX11_gate 0 = .ok (.iload_n 1, 1) := by decide +kernel
theorem dX11_gate_1 : decode cX11_gate 1 = .ok (.invokestatic 106, 3) := by decide +kernel
theorem dX11_gate_4 : decode cX11_gate 4 = .ok (.ifCond .eq 11, 3) := by decide +kernel
theorem dX11_gate_7 : decode cX11_gate 7 = .ok (.iload_n 2, 1) := by decide +kernel
theorem dX11_gate_8 : decode cX11_gate 8 = .ok (.iload_n 3, 1) := by decide +kernel
theorem dX11_gate_9 : decode cX11_gate 9 = .ok (.invokestatic 134, 3) := by decide +kernel
theorem dX11_gate_12 : decode cX11_gate 12 = .ok (.ifCond .ne 9, 3) := by decide +kernel
theorem dX11_gate_15 : decode cX11_gate 15 = .ok (.aload_n 0, 1) := by decide +kernel
theorem dX11_gate_16 : decode cX11_gate 16 = .ok (.iconst (-1), 1) := by decide +kernel
theorem dX11_gate_17 : decode cX11_gate 17 = .ok (.invokevirtual 113, 3) := by decide +kernel
theorem dX11_gate_20 : decode cX11_gate 20 = .ok (.ireturn, 1) := by decide +kernel
theorem dX11_gate_21 : decode cX11_gate 21 = .ok (.aload_n 0, 1) := by decide +kernel
theorem dX11_gate_22 : decode cX11_gate 22 = .ok (.getfield 12, 3) := by decide +kernel
theorem dX11_gate_25 : decode cX11_gate 25 = .ok (.getfield 145, 3) := by decide +kernel
theorem dX11_gate_28 : decode cX11_gate 28 = .ok (.invokevirtual 149, 3) := by decide +kernel
theorem dX11_gate_31 : decode cX11_gate 31 = .ok (.ifCond .eq 10, 3) := by decide +kernel
theorem dX11_gate_34 : decode cX11_gate 34 = .ok (.aload_n 0, 1) := by decide +kernel
theorem dX11_gate_35 : decode cX11_gate 35 = .ok (.bipush (-5), 2) := by decide +kernel
theorem dX11_gate_37 : decode cX11_gate 37 = .ok (.invokevirtual 113, 3) := by decide +kernel
theorem dX11_gate_40 : decode cX11_gate 40 = .ok (.ireturn, 1) := by decide +kernel
theorem dX11_gate_41 : decode cX11_gate 41 = .ok (.aload_n 0, 1) := by decide +kernel
theorem dX11_gate_42 : decode cX11_gate 42 = .ok (.invokevirtual 124, 3) := by decide +kernel
theorem dX11_gate_45 : decode cX11_gate 45 = .ok (.aload_n 0, 1) := by decide +kernel
theorem dX11_gate_46 : decode cX11_gate 46 = .ok (.aload_n 0, 1) := by decide +kernel
theorem dX11_gate_47 : decode cX11_gate 47 = .ok (.getfield 12, 3) := by decide +kernel
theorem dX11_gate_50 : decode cX11_gate 50 = .ok (.getfield 145, 3) := by decide +kernel
theorem dX11_gate_53 : decode cX11_gate 53 = .ok (.iload_n 1, 1) := by decide +kernel
theorem dX11_gate_54 : decode cX11_gate 54 = .ok (.iload_n 2, 1) := by decide +kernel
theorem dX11_gate_55 : decode cX11_gate 55 = .ok (.iload_n 3, 1) := by decide +kernel
theorem dX11_gate_56 : decode cX11_gate 56 = .ok (.iconst 0, 1) := by decide +kernel
theorem dX11_gate_57 : decode cX11_gate 57 = .ok (.invokevirtual 155, 3) := by decide +kernel
theorem dX11_gate_60 : decode cX11_gate 60 = .ok (.invokevirtual 127, 3) := by decide +kernel
theorem dX11_gate_63 : decode cX11_gate 63 = .ok (.ireturn, 1) := by decide +kernel
set_option maxHeartbeats 4000000 in
set_option maxRecDepth 100000 in
theorem c_X11_gate (l : Launch) (E : Nat → ClassId) (D : va_G) (G : th_G) (h0 n : Nat) (hG0 : G h0 = some (15, n)) (x1 x2 x3 : Int32) : Met l yX11_gate (tb (.code yX11_gate cX11_gate 4 (some .int))) (rm 3) (va_Pc [.ref h0, .int x1, .int x2, .int x3] (th_P E D G)) (QI E D G (fun r => True)) 0 0 (th_A G) := by
  refine Met.ofW (cc := cX11_gate) (maxL := 4) (ret := (some .int)) (by decide) rfl ?_
  intro p e s m args below meth c s₁ B hml hv
  obtain ⟨hav, hI, hN, hK⟩ := hv
  have hx := B.exec
  have hb := B.bytes
  have hr := B.returns
  have hts := atoms_spec (ws := tb (.code yX11_gate cX11_gate 4 (some .int))) B.pre
  have hown : s.vm.findClass RX11 = some m.cls := findClass_of_methodNamed B.named
  have hlocks := B.notSynchronized
  have hS : va_S (th_A G) s.heap s.heap [] := va_S.rf
  have hl := lv_entry ([.ref h0, .int x1, .int x2, .int x3]) (n := 4) (Nat.le_of_ble_eq_true rfl)
  rw [show entryFrame m args 4 = entryFrame m ([.ref h0, .int x1, .int x2, .int x3] : List Value).toArray 4 from by rw [hav], lg_entry_eq]
  generalize (lg_sl ([.ref h0, .int x1, .int x2, .int x3]) ++ List.replicate (4 - (lg_sl ([.ref h0, .int x1, .int x2, .int x3])).length) Slot.unset).toArray = ls at hl ⊢
  have hl : lv_has ls 4 [(0, .ref h0), (1, .int x1), (2, .int x2), (3, .int x3)] := hl
  generalize hR : (headSpec (tb (.code yX11_gate cX11_gate 4 (some .int))) (rm 3)).room = R
  have hR := hR.symm
  generalize hQ : MQ below (QI E D G (fun r => True)) args s 0 0 (th_A G) = QF
  have hQ := hQ.symm
  have J_15 : ∀ (H : Heap) (locs : List Loc) (ls : Array Slot) , lv_has ls 4 [(0, .ref h0), (1, .int x1), (2, .int x2), (3, .int x3)] → th_I (okC E) D G [] H → va_S (th_A G) s.heap H locs → W p l e R s m args below meth c H locs 0 0 QF (F0 m 15 ls []) := by
    intro H locs ls  hl  hI hS
    refine lv_aload_n hx hb dX11_gate_15 rfl (lv_at hl 0 rfl) ?_
    refine lv_iconst (v := (-1)) hx hb dX11_gate_16 (by decide) ?_
    refine th_cVi (As := [.int (-1)]) (rest := []) (n := 1) (d := 0) ⟨hx, hb, hml, hown, hts⟩ (c_X11_refuse l E D G h0 (n) hG0 (-1)) wd_407 wd_409 wp_0 wd_1 wd_410 (by decide +kernel) ⟨by rw [hR]; exact Nat.le_of_ble_eq_true rfl, by rw [hR]; exact Nat.le_of_ble_eq_true rfl⟩ hI hN hK hS (rc_15 hI hG0 List.not_mem_nil) rfl rfl hl.1 rfl (Nat.le_of_ble_eq_true rfl) dX11_gate_17 ⟨Nat.zero_le _, Nat.zero_le _⟩ (fun r1080 H locs hp hI hS => ?_)
    have hp := hp.symm
    subst hp
    have hpost : True := trivial
    rw [hQ]
    exact W.iret (v := (-1)) hx hb hr (fun t ht hW => ⟨⟨(-1), (), rfl, hpost, by rw [ht]; exact hI, hN.warm hW, va_K.moved hW.alike hK⟩, hS.F ht⟩) hS.2.2 dX11_gate_20
  refine lv_iload_n hx hb dX11_gate_0 rfl (lv_at hl 1 rfl) ?_
  refine th_cSs (As := [.int x1]) (rest := []) (n := 1) (d := 0) ⟨hx, hb, hml, hown, hts⟩ (c_X11_isCell l s.heap x1) wd_401 wd_402 wd_1 wd_403 (by decide +kernel) ⟨by rw [hR]; exact Nat.le_of_ble_eq_true rfl, by rw [hR]; exact Nat.le_of_ble_eq_true rfl⟩ hN hS rfl hl.1 rfl (Nat.le_of_ble_eq_true rfl) dX11_gate_1 ⟨Nat.zero_le _, Nat.zero_le _⟩ (fun r1081 locs hp hS => ?_)
  rcases hp with ⟨rfl, hp⟩ | ⟨rfl, hp⟩
  · skip
    try simp only [rg, not_and, Int.not_le] at hp
    have hp1082 := hp
    refine lv_if_eq (tgt := 15) hx hb dX11_gate_4 (by decide) (fun c => absurd c (by decide)) (fun _ => ?_)
    refine lv_iload_n hx hb dX11_gate_7 rfl (lv_at hl 2 rfl) ?_
    refine lv_iload_n hx hb dX11_gate_8 rfl (lv_at hl 3 rfl) ?_
    refine th_cSs (As := [.int x2, .int x3]) (rest := []) (n := 2) (d := 1) ⟨hx, hb, hml, hown, hts⟩ (c_X11_isSpan l s.heap x2 x3) wd_463 wd_464 wd_1 wd_465 (by decide +kernel) ⟨by rw [hR]; exact Nat.le_of_ble_eq_true rfl, by rw [hR]; exact Nat.le_of_ble_eq_true rfl⟩ hN hS rfl hl.1 rfl (Nat.le_of_ble_eq_true rfl) dX11_gate_9 ⟨Nat.zero_le _, Nat.zero_le _⟩ (fun r1083 locs hp hS => ?_)
    rcases hp with ⟨rfl, hp⟩ | ⟨rfl, hp⟩
    · skip
      try simp only [rg, not_and, Int.not_le] at hp
      have hp1084 := hp
      refine lv_if_ne (tgt := 21) hx hb dX11_gate_12 (by decide) (fun _ => ?_) (fun c => absurd c (by decide))
      refine lv_aload_n hx hb dX11_gate_21 rfl (lv_at hl 0 rfl) ?_
      obtain ⟨a1085, a1089, a1091, a1093, a1095, a1097, a1099, a1101, a1103, a1105, a1107, w1109, w1112, w1113, w1114, w1115, hO, hq1086, ⟨m1088, hq1087⟩, hq1090, hq1092, hq1094, hq1096, hq1098, hq1100, hq1102, hq1104, hq1106, hq1108, ⟨k1110, k1111⟩⟩ := op_15 hI hG0 List.not_mem_nil
      have hI := th_I.weak (a := h0) hI
      refine th_get hx hb hts inT11 hown hK hO rfl 0 (by decide) (hts _ (tb_c wd_345)) rfl rfl dX11_gate_22 ?_
      have hI := th_I.close hI hG0 hO (ok_15 hq1086 ⟨_, hq1087⟩ hq1090 hq1092 hq1094 hq1096 hq1098 hq1100 hq1102 hq1104 hq1106 hq1108 ⟨by omega, by omega⟩)
      obtain ⟨a1116, a1118, a1120, a1122, a1124, a1126, a1128, a1130, a1132, a1134, w1136, w1139, w1140, w1141, hO, hq1117, hq1119, hq1121, hq1123, hq1125, hq1127, hq1129, hq1131, hq1133, hq1135, ⟨k1137, k1138⟩⟩ := op_6 hI hq1086 List.not_mem_nil
      have hI := th_I.weak (a := a1085) hI
      refine th_getN hx hb hts inT6 hown hK hN hO rfl 2 (by decide) wn_61 rfl rfl dX11_gate_25 ?_
      have hI := th_I.close hI hq1086 hO (ok_6 hq1117 hq1119 hq1121 hq1123 hq1125 hq1127 hq1129 hq1131 hq1133 hq1135 ⟨by omega, by omega⟩)
      obtain ⟨a1143, w1145, hO, hq1144, ⟨k1146, k1147⟩, k1148⟩ := op_4 hI hq1121 List.not_mem_nil
      have hI := th_I.weak (a := a1120) hI
      have k1149 : (nI 8).toInt = ((8 : Nat) : Int) := nI_toInt (by omega)
      refine th_cVs (As := []) (rest := []) (n := 0) (d := 0) ⟨hx, hb, hml, hown, hts⟩ (c_X4_isFull l E D s.heap a1120 8 a1143 w1145 hO (by omega) (by omega) (by omega)) wd_481 wd_482 wd_483 wd_3 wd_484 (by decide +kernel) ⟨by rw [hR]; exact Nat.le_of_ble_eq_true rfl, by rw [hR]; exact Nat.le_of_ble_eq_true rfl⟩ hN hK hS ⟨_, hO⟩ rfl rfl hl.1 rfl (Nat.le_of_ble_eq_true rfl) dX11_gate_28 ⟨Nat.zero_le _, Nat.zero_le _⟩ (fun r1142 locs hp hS => ?_)
      rcases hp with ⟨rfl, hp⟩ | ⟨rfl, hp⟩
      · skip
        try simp only [rg, not_and, Int.not_le] at hp
        have hp1150 := hp
        refine lv_if_eq (tgt := 41) hx hb dX11_gate_31 (by decide) (fun c => absurd c (by decide)) (fun _ => ?_)
        refine lv_aload_n hx hb dX11_gate_34 rfl (lv_at hl 0 rfl) ?_
        refine lv_bipush (v := (-5)) hx hb dX11_gate_35 (by decide) ?_
        have hI := th_I.close hI hq1121 hO (ok_4 hq1144 ⟨by omega, by omega⟩ (by omega))
        refine th_cVi (As := [.int (-5)]) (rest := []) (n := 1) (d := 0) ⟨hx, hb, hml, hown, hts⟩ (c_X11_refuse l E D G h0 (n) hG0 (-5)) wd_407 wd_409 wp_0 wd_1 wd_410 (by decide +kernel) ⟨by rw [hR]; exact Nat.le_of_ble_eq_true rfl, by rw [hR]; exact Nat.le_of_ble_eq_true rfl⟩ hI hN hK hS (rc_15 hI hG0 List.not_mem_nil) rfl rfl hl.1 rfl (Nat.le_of_ble_eq_true rfl) dX11_gate_37 ⟨Nat.zero_le _, Nat.zero_le _⟩ (fun r1151 H locs hp hI hS => ?_)
        have hp := hp.symm
        subst hp
        have hpost : True := trivial
        rw [hQ]
        exact W.iret (v := (-5)) hx hb hr (fun t ht hW => ⟨⟨(-5), (), rfl, hpost, by rw [ht]; exact hI, hN.warm hW, va_K.moved hW.alike hK⟩, hS.F ht⟩) hS.2.2 dX11_gate_40
      · skip
        have hp1152 := hp
        refine lv_if_eq (tgt := 41) hx hb dX11_gate_31 (by decide) (fun _ => ?_) (fun c => absurd c (by decide))
        refine lv_aload_n hx hb dX11_gate_41 rfl (lv_at hl 0 rfl) ?_
        have hI := th_I.close hI hq1121 hO (ok_4 hq1144 ⟨by omega, by omega⟩ (by omega))
        refine th_cVv (As := []) (rest := []) (n := 0) (d := 2) ⟨hx, hb, hml, hown, hts⟩ (c_X11_turnRiver l E D G h0 (n) hG0 ) wd_423 wd_425 wp_1 wd_1 wd_426 (by decide +kernel) ⟨by rw [hR]; exact Nat.le_of_ble_eq_true rfl, by rw [hR]; exact Nat.le_of_ble_eq_true rfl⟩ hI hN hK hS (rc_15 hI hG0 List.not_mem_nil) rfl rfl hl.1 rfl (Nat.le_of_ble_eq_true rfl) dX11_gate_42 ⟨Nat.zero_le _, Nat.zero_le _⟩ (fun H locs hI hS => ?_)
        refine lv_aload_n hx hb dX11_gate_45 rfl (lv_at hl 0 rfl) ?_
        refine lv_aload_n hx hb dX11_gate_46 rfl (lv_at hl 0 rfl) ?_
        obtain ⟨a1154, a1158, a1160, a1162, a1164, a1166, a1168, a1170, a1172, a1174, a1176, w1178, w1181, w1182, w1183, w1184, hO, hq1155, ⟨m1157, hq1156⟩, hq1159, hq1161, hq1163, hq1165, hq1167, hq1169, hq1171, hq1173, hq1175, hq1177, ⟨k1179, k1180⟩⟩ := op_15 hI hG0 List.not_mem_nil
        have hI := th_I.weak (a := h0) hI
        refine th_get hx hb hts inT11 hown hK hO rfl 0 (by decide) (hts _ (tb_c wd_345)) rfl rfl dX11_gate_47 ?_
        have hI := th_I.close hI hG0 hO (ok_15 hq1155 ⟨_, hq1156⟩ hq1159 hq1161 hq1163 hq1165 hq1167 hq1169 hq1171 hq1173 hq1175 hq1177 ⟨by omega, by omega⟩)
        obtain ⟨a1185, a1187, a1189, a1191, a1193, a1195, a1197, a1199, a1201, a1203, w1205, w1208, w1209, w1210, hO, hq1186, hq1188, hq1190, hq1192, hq1194, hq1196, hq1198, hq1200, hq1202, hq1204, ⟨k1206, k1207⟩⟩ := op_6 hI hq1155 List.not_mem_nil
        have hI := th_I.weak (a := a1154) hI
        refine th_getN hx hb hts inT6 hown hK hN hO rfl 2 (by decide) wn_61 rfl rfl dX11_gate_50 ?_
        refine lv_iload_n hx hb dX11_gate_53 rfl (lv_at hl 1 rfl) ?_
        refine lv_iload_n hx hb dX11_gate_54 rfl (lv_at hl 2 rfl) ?_
        refine lv_iload_n hx hb dX11_gate_55 rfl (lv_at hl 3 rfl) ?_
        refine lv_iconst (v := 0) hx hb dX11_gate_56 (by decide) ?_
        have hI := th_I.close hI hq1155 hO (ok_6 hq1186 hq1188 hq1190 hq1192 hq1194 hq1196 hq1198 hq1200 hq1202 hq1204 ⟨by omega, by omega⟩)
        refine th_cVi (As := [.int x1, .int x2, .int x3, .int 0]) (rest := [.ref h0]) (n := 4) (d := 1) ⟨hx, hb, hml, hown, hts⟩ (c_X4_put l E D G a1189 (8) hq1190 x1 x2 x3 0) wd_485 wd_486 wd_487 wd_3 wd_488 (by decide +kernel) ⟨by rw [hR]; exact Nat.le_of_ble_eq_true rfl, by rw [hR]; exact Nat.le_of_ble_eq_true rfl⟩ hI hN hK hS (rc_4 hI hq1190 List.not_mem_nil) rfl rfl hl.1 rfl (Nat.le_of_ble_eq_true rfl) dX11_gate_57 ⟨Nat.zero_le _, Nat.zero_le _⟩ (fun r1211 H locs hp hI hS => ?_)
        refine th_cVi (As := [.int r1211]) (rest := []) (n := 1) (d := 0) ⟨hx, hb, hml, hown, hts⟩ (c_X11_accept l E D G h0 (n) hG0 r1211) wd_447 wd_449 wp_3 wd_1 wd_450 (by decide +kernel) ⟨by rw [hR]; exact Nat.le_of_ble_eq_true rfl, by rw [hR]; exact Nat.le_of_ble_eq_true rfl⟩ hI hN hK hS (rc_15 hI hG0 List.not_mem_nil) rfl rfl hl.1 rfl (Nat.le_of_ble_eq_true rfl) dX11_gate_60 ⟨Nat.zero_le _, Nat.zero_le _⟩ (fun r1212 H locs hp hI hS => ?_)
        have hp := hp.symm
        subst hp
        have hpost : True := trivial
        rw [hQ]
        exact W.iret (v := r1211) hx hb hr (fun t ht hW => ⟨⟨r1211, (), rfl, hpost, by rw [ht]; exact hI, hN.warm hW, va_K.moved hW.alike hK⟩, hS.F ht⟩) hS.2.2 dX11_gate_63
    · skip
      try simp only [rg, not_and, Int.not_le] at hp
      have hp1213 := hp
      refine lv_if_ne (tgt := 21) hx hb dX11_gate_12 (by decide) (fun c => absurd c (by decide)) (fun _ => ?_)
      exact J_15 s.heap locs ls  (lv_sub hl [0, 1, 2, 3] rfl)  hI hS
  · skip
    try simp only [rg, not_and, Int.not_le] at hp
    have hp1214 := hp
    refine lv_if_eq (tgt := 15) hx hb dX11_gate_4 (by decide) (fun _ => ?_) (fun c => absurd c (by decide))
    exact J_15 s.heap locs ls  (lv_sub hl [0, 1, 2, 3] rfl)  hI hS
theorem dX11_open_0 : decode cX11_open 0 = .ok (.aload_n 0, 1) := by decide +kernel
theorem dX11_open_1 : decode cX11_open 1 = .ok (.getfield 12, 3) := by decide +kernel
theorem dX11_open_4 : decode cX11_open 4 = .ok (.getfield 145, 3) := by decide +kernel
theorem dX11_open_7 : decode cX11_open 7 = .ok (.iload_n 1, 1) := by decide +kernel
theorem dX11_open_8 : decode cX11_open 8 = .ok (.invokevirtual 159, 3) := by decide +kernel
theorem dX11_open_11 : decode cX11_open 11 = .ok (.ifCond .ne 10, 3) := by decide +kernel
theorem dX11_open_14 : decode cX11_open 14 = .ok (.aload_n 0, 1) := by decide +kernel
theorem dX11_open_15 : decode cX11_open 15 = .ok (.bipush (-2), 2) := by decide +kernel
theorem dX11_open_17 : decode cX11_open 17 = .ok (.invokevirtual 113, 3) := by decide +kernel
theorem dX11_open_20 : decode cX11_open 20 = .ok (.ireturn, 1) := by decide +kernel
theorem dX11_open_21 : decode cX11_open 21 = .ok (.aload_n 0, 1) := by decide +kernel
theorem dX11_open_22 : decode cX11_open 22 = .ok (.getfield 12, 3) := by decide +kernel
theorem dX11_open_25 : decode cX11_open 25 = .ok (.getfield 145, 3) := by decide +kernel
theorem dX11_open_28 : decode cX11_open 28 = .ok (.iload_n 1, 1) := by decide +kernel
theorem dX11_open_29 : decode cX11_open 29 = .ok (.invokevirtual 162, 3) := by decide +kernel
theorem dX11_open_32 : decode cX11_open 32 = .ok (.aload_n 0, 1) := by decide +kernel
theorem dX11_open_33 : decode cX11_open 33 = .ok (.invokevirtual 124, 3) := by decide +kernel
theorem dX11_open_36 : decode cX11_open 36 = .ok (.aload_n 0, 1) := by decide +kernel
theorem dX11_open_37 : decode cX11_open 37 = .ok (.aload_n 0, 1) := by decide +kernel
theorem dX11_open_38 : decode cX11_open 38 = .ok (.getfield 12, 3) := by decide +kernel
theorem dX11_open_41 : decode cX11_open 41 = .ok (.getfield 145, 3) := by decide +kernel
theorem dX11_open_44 : decode cX11_open 44 = .ok (.invokevirtual 166, 3) := by decide +kernel
theorem dX11_open_47 : decode cX11_open 47 = .ok (.invokevirtual 127, 3) := by decide +kernel
theorem dX11_open_50 : decode cX11_open 50 = .ok (.ireturn, 1) := by decide +kernel
set_option maxHeartbeats 4000000 in
set_option maxRecDepth 100000 in
theorem c_X11_open (l : Launch) (E : Nat → ClassId) (D : va_G) (G : th_G) (h0 n : Nat) (hG0 : G h0 = some (15, n)) (x1 : Int32) : Met l yX11_open (tb (.code yX11_open cX11_open 2 (some .int))) (rm 3) (va_Pc [.ref h0, .int x1] (th_P E D G)) (QI E D G (fun r => True)) 0 0 (th_A G) := by
  refine Met.ofW (cc := cX11_open) (maxL := 2) (ret := (some .int)) (by decide) rfl ?_
  intro p e s m args below meth c s₁ B hml hv
  obtain ⟨hav, hI, hN, hK⟩ := hv
  have hx := B.exec
  have hb := B.bytes
  have hr := B.returns
  have hts := atoms_spec (ws := tb (.code yX11_open cX11_open 2 (some .int))) B.pre
  have hown : s.vm.findClass RX11 = some m.cls := findClass_of_methodNamed B.named
  have hlocks := B.notSynchronized
  have hS : va_S (th_A G) s.heap s.heap [] := va_S.rf
  have hl := lv_entry ([.ref h0, .int x1]) (n := 2) (Nat.le_of_ble_eq_true rfl)
  rw [show entryFrame m args 2 = entryFrame m ([.ref h0, .int x1] : List Value).toArray 2 from by rw [hav], lg_entry_eq]
  generalize (lg_sl ([.ref h0, .int x1]) ++ List.replicate (2 - (lg_sl ([.ref h0, .int x1])).length) Slot.unset).toArray = ls at hl ⊢
  have hl : lv_has ls 2 [(0, .ref h0), (1, .int x1)] := hl
  generalize hR : (headSpec (tb (.code yX11_open cX11_open 2 (some .int))) (rm 3)).room = R
  have hR := hR.symm
  generalize hQ : MQ below (QI E D G (fun r => True)) args s 0 0 (th_A G) = QF
  have hQ := hQ.symm
  refine lv_aload_n hx hb dX11_open_0 rfl (lv_at hl 0 rfl) ?_
  obtain ⟨a1, a5, a7, a9, a11, a13, a15, a17, a19, a21, a23, w25, w28, w29, w30, w31, hO, hq2, ⟨m4, hq3⟩, hq6, hq8, hq10, hq12, hq14, hq16, hq18, hq20, hq22, hq24, ⟨k26, k27⟩⟩ := op_15 hI hG0 List.not_mem_nil
  have hI := th_I.weak (a := h0) hI
  refine th_get hx hb hts inT11 hown hK hO rfl 0 (by decide) (hts _ (tb_c wd_345)) rfl rfl dX11_open_1 ?_
  have hI := th_I.close hI hG0 hO (ok_15 hq2 ⟨_, hq3⟩ hq6 hq8 hq10 hq12 hq14 hq16 hq18 hq20 hq22 hq24 ⟨by omega, by omega⟩)
  obtain ⟨a32, a34, a36, a38, a40, a42, a44, a46, a48, a50, w52, w55, w56, w57, hO, hq33, hq35, hq37, hq39, hq41, hq43, hq45, hq47, hq49, hq51, ⟨k53, k54⟩⟩ := op_6 hI hq2 List.not_mem_nil
  have hI := th_I.weak (a := a1) hI
  refine th_getN hx hb hts inT6 hown hK hN hO rfl 2 (by decide) wn_61 rfl rfl dX11_open_4 ?_
  refine lv_iload_n hx hb dX11_open_7 rfl (lv_at hl 1 rfl) ?_
  have hI := th_I.close hI hq2 hO (ok_6 hq33 hq35 hq37 hq39 hq41 hq43 hq45 hq47 hq49 hq51 ⟨by omega, by omega⟩)
  obtain ⟨a59, w61, hO, hq60, ⟨k62, k63⟩, k64⟩ := op_4 hI hq37 List.not_mem_nil
  have hI := th_I.weak (a := a36) hI
  have k65 : (nI 8).toInt = ((8 : Nat) : Int) := nI_toInt (by omega)
  refine th_cVs (As := [.int x1]) (rest := []) (n := 1) (d := 0) ⟨hx, hb, hml, hown, hts⟩ (c_X4_has l E D s.heap a36 8 a59 w61 hO (by omega) (by omega) (by omega) x1) wd_494 wd_495 wd_496 wd_3 wd_497 (by decide +kernel) ⟨by rw [hR]; exact Nat.le_of_ble_eq_true rfl, by rw [hR]; exact Nat.le_of_ble_eq_true rfl⟩ hN hK hS ⟨_, hO⟩ rfl rfl hl.1 rfl (Nat.le_of_ble_eq_true rfl) dX11_open_8 ⟨Nat.zero_le _, Nat.zero_le _⟩ (fun r58 locs hp hS => ?_)
  rcases hp with ⟨rfl, hp⟩ | ⟨rfl, hp⟩
  · skip
    try simp only [rg, not_and, Int.not_le] at hp
    have hp66 := hp
    refine lv_if_ne (tgt := 21) hx hb dX11_open_11 (by decide) (fun _ => ?_) (fun c => absurd c (by decide))
    refine lv_aload_n hx hb dX11_open_21 rfl (lv_at hl 0 rfl) ?_
    have hI := th_I.close hI hq37 hO (ok_4 hq60 ⟨by omega, by omega⟩ (by omega))
    obtain ⟨a67, a71, a73, a75, a77, a79, a81, a83, a85, a87, a89, w91, w94, w95, w96, w97, hO, hq68, ⟨m70, hq69⟩, hq72, hq74, hq76, hq78, hq80, hq82, hq84, hq86, hq88, hq90, ⟨k92, k93⟩⟩ := op_15 hI hG0 List.not_mem_nil
    have hI := th_I.weak (a := h0) hI
    refine th_get hx hb hts inT11 hown hK hO rfl 0 (by decide) (hts _ (tb_c wd_345)) rfl rfl dX11_open_22 ?_
    have hI := th_I.close hI hG0 hO (ok_15 hq68 ⟨_, hq69⟩ hq72 hq74 hq76 hq78 hq80 hq82 hq84 hq86 hq88 hq90 ⟨by omega, by omega⟩)
    obtain ⟨a98, a100, a102, a104, a106, a108, a110, a112, a114, a116, w118, w121, w122, w123, hO, hq99, hq101, hq103, hq105, hq107, hq109, hq111, hq113, hq115, hq117, ⟨k119, k120⟩⟩ := op_6 hI hq68 List.not_mem_nil
    have hI := th_I.weak (a := a67) hI
    refine th_getN hx hb hts inT6 hown hK hN hO rfl 2 (by decide) wn_61 rfl rfl dX11_open_25 ?_
    refine lv_iload_n hx hb dX11_open_28 rfl (lv_at hl 1 rfl) ?_
    have hI := th_I.close hI hq68 hO (ok_6 hq99 hq101 hq103 hq105 hq107 hq109 hq111 hq113 hq115 hq117 ⟨by omega, by omega⟩)
    refine th_cVv (As := [.int x1]) (rest := []) (n := 1) (d := 1) ⟨hx, hb, hml, hown, hts⟩ (c_X4_takeOut l E D G a102 (8) hq103 x1) wd_498 wd_499 wd_500 wd_3 wd_501 (by decide +kernel) ⟨by rw [hR]; exact Nat.le_of_ble_eq_true rfl, by rw [hR]; exact Nat.le_of_ble_eq_true rfl⟩ hI hN hK hS (rc_4 hI hq103 List.not_mem_nil) rfl rfl hl.1 rfl (Nat.le_of_ble_eq_true rfl) dX11_open_29 ⟨Nat.zero_le _, Nat.zero_le _⟩ (fun H locs hI hS => ?_)
    refine lv_aload_n hx hb dX11_open_32 rfl (lv_at hl 0 rfl) ?_
    refine th_cVv (As := []) (rest := []) (n := 0) (d := 2) ⟨hx, hb, hml, hown, hts⟩ (c_X11_turnRiver l E D G h0 (n) hG0 ) wd_423 wd_425 wp_1 wd_1 wd_426 (by decide +kernel) ⟨by rw [hR]; exact Nat.le_of_ble_eq_true rfl, by rw [hR]; exact Nat.le_of_ble_eq_true rfl⟩ hI hN hK hS (rc_15 hI hG0 List.not_mem_nil) rfl rfl hl.1 rfl (Nat.le_of_ble_eq_true rfl) dX11_open_33 ⟨Nat.zero_le _, Nat.zero_le _⟩ (fun H locs hI hS => ?_)
    refine lv_aload_n hx hb dX11_open_36 rfl (lv_at hl 0 rfl) ?_
    refine lv_aload_n hx hb dX11_open_37 rfl (lv_at hl 0 rfl) ?_
    obtain ⟨a126, a130, a132, a134, a136, a138, a140, a142, a144, a146, a148, w150, w153, w154, w155, w156, hO, hq127, ⟨m129, hq128⟩, hq131, hq133, hq135, hq137, hq139, hq141, hq143, hq145, hq147, hq149, ⟨k151, k152⟩⟩ := op_15 hI hG0 List.not_mem_nil
    have hI := th_I.weak (a := h0) hI
    refine th_get hx hb hts inT11 hown hK hO rfl 0 (by decide) (hts _ (tb_c wd_345)) rfl rfl dX11_open_38 ?_
    have hI := th_I.close hI hG0 hO (ok_15 hq127 ⟨_, hq128⟩ hq131 hq133 hq135 hq137 hq139 hq141 hq143 hq145 hq147 hq149 ⟨by omega, by omega⟩)
    obtain ⟨a157, a159, a161, a163, a165, a167, a169, a171, a173, a175, w177, w180, w181, w182, hO, hq158, hq160, hq162, hq164, hq166, hq168, hq170, hq172, hq174, hq176, ⟨k178, k179⟩⟩ := op_6 hI hq127 List.not_mem_nil
    have hI := th_I.weak (a := a126) hI
    refine th_getN hx hb hts inT6 hown hK hN hO rfl 2 (by decide) wn_61 rfl rfl dX11_open_41 ?_
    have hI := th_I.close hI hq127 hO (ok_6 hq158 hq160 hq162 hq164 hq166 hq168 hq170 hq172 hq174 hq176 ⟨by omega, by omega⟩)
    obtain ⟨a184, w186, hO, hq185, ⟨k187, k188⟩, k189⟩ := op_4 hI hq162 List.not_mem_nil
    have hI := th_I.weak (a := a161) hI
    have k190 : (nI 8).toInt = ((8 : Nat) : Int) := nI_toInt (by omega)
    refine th_cVs (As := []) (rest := [.ref h0]) (n := 0) (d := 0) ⟨hx, hb, hml, hown, hts⟩ (c_X4_size l E D H a161 8 a184 w186 hO (by omega) (by omega) (by omega)) wd_506 wd_507 wd_508 wd_3 wd_509 (by decide +kernel) ⟨by rw [hR]; exact Nat.le_of_ble_eq_true rfl, by rw [hR]; exact Nat.le_of_ble_eq_true rfl⟩ hN hK hS ⟨_, hO⟩ rfl rfl hl.1 rfl (Nat.le_of_ble_eq_true rfl) dX11_open_44 ⟨Nat.zero_le _, Nat.zero_le _⟩ (fun r183 locs hp hS => ?_)
    have hp := hp.symm
    subst hp
    have hI := th_I.close hI hq162 hO (ok_4 hq185 ⟨by omega, by omega⟩ (by omega))
    refine th_cVi (As := [.int w186]) (rest := []) (n := 1) (d := 0) ⟨hx, hb, hml, hown, hts⟩ (c_X11_accept l E D G h0 (n) hG0 w186) wd_447 wd_449 wp_3 wd_1 wd_450 (by decide +kernel) ⟨by rw [hR]; exact Nat.le_of_ble_eq_true rfl, by rw [hR]; exact Nat.le_of_ble_eq_true rfl⟩ hI hN hK hS (rc_15 hI hG0 List.not_mem_nil) rfl rfl hl.1 rfl (Nat.le_of_ble_eq_true rfl) dX11_open_47 ⟨Nat.zero_le _, Nat.zero_le _⟩ (fun r191 H locs hp hI hS => ?_)
    have hp := hp.symm
    subst hp
    have hpost : True := trivial
    rw [hQ]
    exact W.iret (v := w186) hx hb hr (fun t ht hW => ⟨⟨w186, (), rfl, hpost, by rw [ht]; exact hI, hN.warm hW, va_K.moved hW.alike hK⟩, hS.F ht⟩) hS.2.2 dX11_open_50
  · skip
    have hp192 := hp
    refine lv_if_ne (tgt := 21) hx hb dX11_open_11 (by decide) (fun c => absurd c (by decide)) (fun _ => ?_)
    refine lv_aload_n hx hb dX11_open_14 rfl (lv_at hl 0 rfl) ?_
    refine lv_bipush (v := (-2)) hx hb dX11_open_15 (by decide) ?_
    have hI := th_I.close hI hq37 hO (ok_4 hq60 ⟨by omega, by omega⟩ (by omega))
    refine th_cVi (As := [.int (-2)]) (rest := []) (n := 1) (d := 0) ⟨hx, hb, hml, hown, hts⟩ (c_X11_refuse l E D G h0 (n) hG0 (-2)) wd_407 wd_409 wp_0 wd_1 wd_410 (by decide +kernel) ⟨by rw [hR]; exact Nat.le_of_ble_eq_true rfl, by rw [hR]; exact Nat.le_of_ble_eq_true rfl⟩ hI hN hK hS (rc_15 hI hG0 List.not_mem_nil) rfl rfl hl.1 rfl (Nat.le_of_ble_eq_true rfl) dX11_open_17 ⟨Nat.zero_le _, Nat.zero_le _⟩ (fun r193 H locs hp hI hS => ?_)
    have hp := hp.symm
    subst hp
    have hpost : True := trivial
    rw [hQ]
    exact W.iret (v := (-2)) hx hb hr (fun t ht hW => ⟨⟨(-2), (), rfl, hpost, by rw [ht]; exact hI, hN.warm hW, va_K.moved hW.alike hK⟩, hS.F ht⟩) hS.2.2 dX11_open_20
theorem dX11_mill_0 : decode cX11_mill 0 = .ok (.iload_n 1, 1) := by decide +kernel
theorem dX11_mill_1 : decode cX11_mill 1 = .ok (.invokestatic 106, 3) := by decide +kernel
theorem dX11_mill_4 : decode cX11_mill 4 = .ok (.ifCond .ne 9, 3) := by decide +kernel
theorem dX11_mill_7 : decode cX11_mill 7 = .ok (.aload_n 0, 1) := by decide +kernel
theorem dX11_mill_8 : decode cX11_mill 8 = .ok (.iconst (-1), 1) := by decide +kernel
theorem dX11_mill_9 : decode cX11_mill 9 = .ok (.invokevirtual 113, 3) := by decide +kernel
theorem dX11_mill_12 : decode cX11_mill 12 = .ok (.ireturn, 1) := by decide +kernel
theorem dX11_mill_13 : decode cX11_mill 13 = .ok (.aload_n 0, 1) := by decide +kernel
theorem dX11_mill_14 : decode cX11_mill 14 = .ok (.getfield 12, 3) := by decide +kernel
theorem dX11_mill_17 : decode cX11_mill 17 = .ok (.getfield 170, 3) := by decide +kernel
theorem dX11_mill_20 : decode cX11_mill 20 = .ok (.invokevirtual 149, 3) := by decide +kernel
theorem dX11_mill_23 : decode cX11_mill 23 = .ok (.ifCond .eq 10, 3) := by decide +kernel
theorem dX11_mill_26 : decode cX11_mill 26 = .ok (.aload_n 0, 1) := by decide +kernel
theorem dX11_mill_27 : decode cX11_mill 27 = .ok (.bipush (-5), 2) := by decide +kernel
theorem dX11_mill_29 : decode cX11_mill 29 = .ok (.invokevirtual 113, 3) := by decide +kernel
theorem dX11_mill_32 : decode cX11_mill 32 = .ok (.ireturn, 1) := by decide +kernel
theorem dX11_mill_33 : decode cX11_mill 33 = .ok (.aload_n 0, 1) := by decide +kernel
theorem dX11_mill_34 : decode cX11_mill 34 = .ok (.invokevirtual 124, 3) := by decide +kernel
theorem dX11_mill_37 : decode cX11_mill 37 = .ok (.aload_n 0, 1) := by decide +kernel
theorem dX11_mill_38 : decode cX11_mill 38 = .ok (.aload_n 0, 1) := by decide +kernel
theorem dX11_mill_39 : decode cX11_mill 39 = .ok (.getfield 12, 3) := by decide +kernel
theorem dX11_mill_42 : decode cX11_mill 42 = .ok (.getfield 170, 3) := by decide +kernel
theorem dX11_mill_45 : decode cX11_mill 45 = .ok (.iload_n 1, 1) := by decide +kernel
theorem dX11_mill_46 : decode cX11_mill 46 = .ok (.iconst 0, 1) := by decide +kernel
theorem dX11_mill_47 : decode cX11_mill 47 = .ok (.iconst 0, 1) := by decide +kernel
theorem dX11_mill_48 : decode cX11_mill 48 = .ok (.iconst 0, 1) := by decide +kernel
theorem dX11_mill_49 : decode cX11_mill 49 = .ok (.invokevirtual 155, 3) := by decide +kernel
theorem dX11_mill_52 : decode cX11_mill 52 = .ok (.invokevirtual 127, 3) := by decide +kernel
theorem dX11_mill_55 : decode cX11_mill 55 = .ok (.ireturn, 1) := by decide +kernel
set_option maxHeartbeats 4000000 in
set_option maxRecDepth 100000 in
theorem c_X11_mill (l : Launch) (E : Nat → ClassId) (D : va_G) (G : th_G) (h0 n : Nat) (hG0 : G h0 = some (15, n)) (x1 : Int32) : Met l yX11_mill (tb (.code yX11_mill cX11_mill 2 (some .int))) (rm 3) (va_Pc [.ref h0, .int x1] (th_P E D G)) (QI E D G (fun r => True)) 0 0 (th_A G) := by
  refine Met.ofW (cc := cX11_mill) (maxL := 2) (ret := (some .int)) (by decide) rfl ?_
  intro p e s m args below meth c s₁ B hml hv
  obtain ⟨hav, hI, hN, hK⟩ := hv
  have hx := B.exec
  have hb := B.bytes
  have hr := B.returns
  have hts := atoms_spec (ws := tb (.code yX11_mill cX11_mill 2 (some .int))) B.pre
  have hown : s.vm.findClass RX11 = some m.cls := findClass_of_methodNamed B.named
  have hlocks := B.notSynchronized
  have hS : va_S (th_A G) s.heap s.heap [] := va_S.rf
  have hl := lv_entry ([.ref h0, .int x1]) (n := 2) (Nat.le_of_ble_eq_true rfl)
  rw [show entryFrame m args 2 = entryFrame m ([.ref h0, .int x1] : List Value).toArray 2 from by rw [hav], lg_entry_eq]
  generalize (lg_sl ([.ref h0, .int x1]) ++ List.replicate (2 - (lg_sl ([.ref h0, .int x1])).length) Slot.unset).toArray = ls at hl ⊢
  have hl : lv_has ls 2 [(0, .ref h0), (1, .int x1)] := hl
  generalize hR : (headSpec (tb (.code yX11_mill cX11_mill 2 (some .int))) (rm 3)).room = R
  have hR := hR.symm
  generalize hQ : MQ below (QI E D G (fun r => True)) args s 0 0 (th_A G) = QF
  have hQ := hQ.symm
  refine lv_iload_n hx hb dX11_mill_0 rfl (lv_at hl 1 rfl) ?_
  refine th_cSs (As := [.int x1]) (rest := []) (n := 1) (d := 0) ⟨hx, hb, hml, hown, hts⟩ (c_X11_isCell l s.heap x1) wd_401 wd_402 wd_1 wd_403 (by decide +kernel) ⟨by rw [hR]; exact Nat.le_of_ble_eq_true rfl, by rw [hR]; exact Nat.le_of_ble_eq_true rfl⟩ hN hS rfl hl.1 rfl (Nat.le_of_ble_eq_true rfl) dX11_mill_1 ⟨Nat.zero_le _, Nat.zero_le _⟩ (fun r1 locs hp hS => ?_)
  rcases hp with ⟨rfl, hp⟩ | ⟨rfl, hp⟩
  · skip
    try simp only [rg, not_and, Int.not_le] at hp
    have hp2 := hp
    refine lv_if_ne (tgt := 13) hx hb dX11_mill_4 (by decide) (fun _ => ?_) (fun c => absurd c (by decide))
    refine lv_aload_n hx hb dX11_mill_13 rfl (lv_at hl 0 rfl) ?_
    obtain ⟨a3, a7, a9, a11, a13, a15, a17, a19, a21, a23, a25, w27, w30, w31, w32, w33, hO, hq4, ⟨m6, hq5⟩, hq8, hq10, hq12, hq14, hq16, hq18, hq20, hq22, hq24, hq26, ⟨k28, k29⟩⟩ := op_15 hI hG0 List.not_mem_nil
    have hI := th_I.weak (a := h0) hI
    refine th_get hx hb hts inT11 hown hK hO rfl 0 (by decide) (hts _ (tb_c wd_345)) rfl rfl dX11_mill_14 ?_
    have hI := th_I.close hI hG0 hO (ok_15 hq4 ⟨_, hq5⟩ hq8 hq10 hq12 hq14 hq16 hq18 hq20 hq22 hq24 hq26 ⟨by omega, by omega⟩)
    obtain ⟨a34, a36, a38, a40, a42, a44, a46, a48, a50, a52, w54, w57, w58, w59, hO, hq35, hq37, hq39, hq41, hq43, hq45, hq47, hq49, hq51, hq53, ⟨k55, k56⟩⟩ := op_6 hI hq4 List.not_mem_nil
    have hI := th_I.weak (a := a3) hI
    refine th_getN hx hb hts inT6 hown hK hN hO rfl 3 (by decide) wn_64 rfl rfl dX11_mill_17 ?_
    have hI := th_I.close hI hq4 hO (ok_6 hq35 hq37 hq39 hq41 hq43 hq45 hq47 hq49 hq51 hq53 ⟨by omega, by omega⟩)
    obtain ⟨a61, w63, hO, hq62, ⟨k64, k65⟩, k66⟩ := op_4 hI hq41 List.not_mem_nil
    have hI := th_I.weak (a := a40) hI
    have k67 : (nI 6).toInt = ((6 : Nat) : Int) := nI_toInt (by omega)
    refine th_cVs (As := []) (rest := []) (n := 0) (d := 0) ⟨hx, hb, hml, hown, hts⟩ (c_X4_isFull l E D s.heap a40 6 a61 w63 hO (by omega) (by omega) (by omega)) wd_481 wd_482 wd_483 wd_3 wd_484 (by decide +kernel) ⟨by rw [hR]; exact Nat.le_of_ble_eq_true rfl, by rw [hR]; exact Nat.le_of_ble_eq_true rfl⟩ hN hK hS ⟨_, hO⟩ rfl rfl hl.1 rfl (Nat.le_of_ble_eq_true rfl) dX11_mill_20 ⟨Nat.zero_le _, Nat.zero_le _⟩ (fun r60 locs hp hS => ?_)
    rcases hp with ⟨rfl, hp⟩ | ⟨rfl, hp⟩
    · skip
      try simp only [rg, not_and, Int.not_le] at hp
      have hp68 := hp
      refine lv_if_eq (tgt := 33) hx hb dX11_mill_23 (by decide) (fun c => absurd c (by decide)) (fun _ => ?_)
      refine lv_aload_n hx hb dX11_mill_26 rfl (lv_at hl 0 rfl) ?_
      refine lv_bipush (v := (-5)) hx hb dX11_mill_27 (by decide) ?_
      have hI := th_I.close hI hq41 hO (ok_4 hq62 ⟨by omega, by omega⟩ (by omega))
      refine th_cVi (As := [.int (-5)]) (rest := []) (n := 1) (d := 0) ⟨hx, hb, hml, hown, hts⟩ (c_X11_refuse l E D G h0 (n) hG0 (-5)) wd_407 wd_409 wp_0 wd_1 wd_410 (by decide +kernel) ⟨by rw [hR]; exact Nat.le_of_ble_eq_true rfl, by rw [hR]; exact Nat.le_of_ble_eq_true rfl⟩ hI hN hK hS (rc_15 hI hG0 List.not_mem_nil) rfl rfl hl.1 rfl (Nat.le_of_ble_eq_true rfl) dX11_mill_29 ⟨Nat.zero_le _, Nat.zero_le _⟩ (fun r69 H locs hp hI hS => ?_)
      have hp := hp.symm
      subst hp
      have hpost : True := trivial
      rw [hQ]
      exact W.iret (v := (-5)) hx hb hr (fun t ht hW => ⟨⟨(-5), (), rfl, hpost, by rw [ht]; exact hI, hN.warm hW, va_K.moved hW.alike hK⟩, hS.F ht⟩) hS.2.2 dX11_mill_32
    · skip
      have hp70 := hp
      refine lv_if_eq (tgt := 33) hx hb dX11_mill_23 (by decide) (fun _ => ?_) (fun c => absurd c (by decide))
      refine lv_aload_n hx hb dX11_mill_33 rfl (lv_at hl 0 rfl) ?_
      have hI := th_I.close hI hq41 hO (ok_4 hq62 ⟨by omega, by omega⟩ (by omega))
      refine th_cVv (As := []) (rest := []) (n := 0) (d := 2) ⟨hx, hb, hml, hown, hts⟩ (c_X11_turnRiver l E D G h0 (n) hG0 ) wd_423 wd_425 wp_1 wd_1 wd_426 (by decide +kernel) ⟨by rw [hR]; exact Nat.le_of_ble_eq_true rfl, by rw [hR]; exact Nat.le_of_ble_eq_true rfl⟩ hI hN hK hS (rc_15 hI hG0 List.not_mem_nil) rfl rfl hl.1 rfl (Nat.le_of_ble_eq_true rfl) dX11_mill_34 ⟨Nat.zero_le _, Nat.zero_le _⟩ (fun H locs hI hS => ?_)
      refine lv_aload_n hx hb dX11_mill_37 rfl (lv_at hl 0 rfl) ?_
      refine lv_aload_n hx hb dX11_mill_38 rfl (lv_at hl 0 rfl) ?_
      obtain ⟨a72, a76, a78, a80, a82, a84, a86, a88, a90, a92, a94, w96, w99, w100, w101, w102, hO, hq73, ⟨m75, hq74⟩, hq77, hq79, hq81, hq83, hq85, hq87, hq89, hq91, hq93, hq95, ⟨k97, k98⟩⟩ := op_15 hI hG0 List.not_mem_nil
      have hI := th_I.weak (a := h0) hI
      refine th_get hx hb hts inT11 hown hK hO rfl 0 (by decide) (hts _ (tb_c wd_345)) rfl rfl dX11_mill_39 ?_
      have hI := th_I.close hI hG0 hO (ok_15 hq73 ⟨_, hq74⟩ hq77 hq79 hq81 hq83 hq85 hq87 hq89 hq91 hq93 hq95 ⟨by omega, by omega⟩)
      obtain ⟨a103, a105, a107, a109, a111, a113, a115, a117, a119, a121, w123, w126, w127, w128, hO, hq104, hq106, hq108, hq110, hq112, hq114, hq116, hq118, hq120, hq122, ⟨k124, k125⟩⟩ := op_6 hI hq73 List.not_mem_nil
      have hI := th_I.weak (a := a72) hI
      refine th_getN hx hb hts inT6 hown hK hN hO rfl 3 (by decide) wn_64 rfl rfl dX11_mill_42 ?_
      refine lv_iload_n hx hb dX11_mill_45 rfl (lv_at hl 1 rfl) ?_
      refine lv_iconst (v := 0) hx hb dX11_mill_46 (by decide) ?_
      refine lv_iconst (v := 0) hx hb dX11_mill_47 (by decide) ?_
      refine lv_iconst (v := 0) hx hb dX11_mill_48 (by decide) ?_
      have hI := th_I.close hI hq73 hO (ok_6 hq104 hq106 hq108 hq110 hq112 hq114 hq116 hq118 hq120 hq122 ⟨by omega, by omega⟩)
      refine th_cVi (As := [.int x1, .int 0, .int 0, .int 0]) (rest := [.ref h0]) (n := 4) (d := 1) ⟨hx, hb, hml, hown, hts⟩ (c_X4_put l E D G a109 (6) hq110 x1 0 0 0) wd_485 wd_486 wd_487 wd_3 wd_488 (by decide +kernel) ⟨by rw [hR]; exact Nat.le_of_ble_eq_true rfl, by rw [hR]; exact Nat.le_of_ble_eq_true rfl⟩ hI hN hK hS (rc_4 hI hq110 List.not_mem_nil) rfl rfl hl.1 rfl (Nat.le_of_ble_eq_true rfl) dX11_mill_49 ⟨Nat.zero_le _, Nat.zero_le _⟩ (fun r129 H locs hp hI hS => ?_)
      refine th_cVi (As := [.int r129]) (rest := []) (n := 1) (d := 0) ⟨hx, hb, hml, hown, hts⟩ (c_X11_accept l E D G h0 (n) hG0 r129) wd_447 wd_449 wp_3 wd_1 wd_450 (by decide +kernel) ⟨by rw [hR]; exact Nat.le_of_ble_eq_true rfl, by rw [hR]; exact Nat.le_of_ble_eq_true rfl⟩ hI hN hK hS (rc_15 hI hG0 List.not_mem_nil) rfl rfl hl.1 rfl (Nat.le_of_ble_eq_true rfl) dX11_mill_52 ⟨Nat.zero_le _, Nat.zero_le _⟩ (fun r130 H locs hp hI hS => ?_)
      have hp := hp.symm
      subst hp
      have hpost : True := trivial
      rw [hQ]
      exact W.iret (v := r129) hx hb hr (fun t ht hW => ⟨⟨r129, (), rfl, hpost, by rw [ht]; exact hI, hN.warm hW, va_K.moved hW.alike hK⟩, hS.F ht⟩) hS.2.2 dX11_mill_55
  · skip
    try simp only [rg, not_and, Int.not_le] at hp
    have hp131 := hp
    refine lv_if_ne (tgt := 13) hx hb dX11_mill_4 (by decide) (fun c => absurd c (by decide)) (fun _ => ?_)
    refine lv_aload_n hx hb dX11_mill_7 rfl (lv_at hl 0 rfl) ?_
    refine lv_iconst (v := (-1)) hx hb dX11_mill_8 (by decide) ?_
    refine th_cVi (As := [.int (-1)]) (rest := []) (n := 1) (d := 0) ⟨hx, hb, hml, hown, hts⟩ (c_X11_refuse l E D G h0 (n) hG0 (-1)) wd_407 wd_409 wp_0 wd_1 wd_410 (by decide +kernel) ⟨by rw [hR]; exact Nat.le_of_ble_eq_true rfl, by rw [hR]; exact Nat.le_of_ble_eq_true rfl⟩ hI hN hK hS (rc_15 hI hG0 List.not_mem_nil) rfl rfl hl.1 rfl (Nat.le_of_ble_eq_true rfl) dX11_mill_9 ⟨Nat.zero_le _, Nat.zero_le _⟩ (fun r132 H locs hp hI hS => ?_)
    have hp := hp.symm
    subst hp
    have hpost : True := trivial
    rw [hQ]
    exact W.iret (v := (-1)) hx hb hr (fun t ht hW => ⟨⟨(-1), (), rfl, hpost, by rw [ht]; exact hI, hN.warm hW, va_K.moved hW.alike hK⟩, hS.F ht⟩) hS.2.2 dX11_mill_12
theorem dX11_grinds_0 : decode cX11_grinds 0 = .ok (.aload_n 0, 1) := by decide +kernel
theorem dX11_grinds_1 : decode cX11_grinds 1 = .ok (.getfield 12, 3) := by decide +kernel
theorem dX11_grinds_4 : decode cX11_grinds 4 = .ok (.getfield 170, 3) := by decide +kernel
theorem dX11_grinds_7 : decode cX11_grinds 7 = .ok (.iload_n 1, 1) := by decide +kernel
theorem dX11_grinds_8 : decode cX11_grinds 8 = .ok (.invokevirtual 159, 3) := by decide +kernel
theorem dX11_grinds_11 : decode cX11_grinds 11 = .ok (.ifCond .eq 11, 3) := by decide +kernel
theorem dX11_grinds_14 : decode cX11_grinds 14 = .ok (.iload_n 2, 1) := by decide +kernel
theorem dX11_grinds_15 : decode cX11_grinds 15 = .ok (.iload_n 3, 1) := by decide +kernel
theorem dX11_grinds_16 : decode cX11_grinds 16 = .ok (.invokestatic 134, 3) := by decide +kernel
theorem dX11_grinds_19 : decode cX11_grinds 19 = .ok (.ifCond .ne 5, 3) := by decide +kernel
theorem dX11_grinds_22 : decode cX11_grinds 22 = .ok (.iconst (-1), 1) := by decide +kernel
theorem dX11_grinds_23 : decode cX11_grinds 23 = .ok (.ireturn, 1) := by decide +kernel
theorem dX11_grinds_24 : decode cX11_grinds 24 = .ok (.aload_n 0, 1) := by decide +kernel
theorem dX11_grinds_25 : decode cX11_grinds 25 = .ok (.getfield 42, 3) := by decide +kernel
theorem dX11_grinds_28 : decode cX11_grinds 28 = .ok (.aload_n 0, 1) := by decide +kernel
theorem dX11_grinds_29 : decode cX11_grinds 29 = .ok (.getfield 12, 3) := by decide +kernel
theorem dX11_grinds_32 : decode cX11_grinds 32 = .ok (.getfield 170, 3) := by decide +kernel
theorem dX11_grinds_35 : decode cX11_grinds 35 = .ok (.iload_n 1, 1) := by decide +kernel
theorem dX11_grinds_36 : decode cX11_grinds 36 = .ok (.iconst 0, 1) := by decide +kernel
theorem dX11_grinds_37 : decode cX11_grinds 37 = .ok (.invokevirtual 173, 3) := by decide +kernel
theorem dX11_grinds_40 : decode cX11_grinds 40 = .ok (.iload_n 2, 1) := by decide +kernel
theorem dX11_grinds_41 : decode cX11_grinds 41 = .ok (.iload_n 3, 1) := by decide +kernel
theorem dX11_grinds_42 : decode cX11_grinds 42 = .ok (.invokevirtual 176, 3) := by decide +kernel
theorem dX11_grinds_45 : decode cX11_grinds 45 = .ok (.ireturn, 1) := by decide +kernel
set_option maxHeartbeats 4000000 in
set_option maxRecDepth 100000 in
theorem c_X11_grinds (l : Launch) (E : Nat → ClassId) (D : va_G) (G : th_G) (h0 n : Nat) (hG0 : G h0 = some (15, n)) (x1 x2 x3 : Int32) : Met l yX11_grinds (tb (.code yX11_grinds cX11_grinds 4 (some .int))) (rm 7) (va_Pc [.ref h0, .int x1, .int x2, .int x3] (th_P E D G)) (QI E D G (fun r => True)) 0 0 (th_A G) := by
  refine Met.ofW (cc := cX11_grinds) (maxL := 4) (ret := (some .int)) (by decide) rfl ?_
  intro p e s m args below meth c s₁ B hml hv
  obtain ⟨hav, hI, hN, hK⟩ := hv
  have hx := B.exec
  have hb := B.bytes
  have hr := B.returns
  have hts := atoms_spec (ws := tb (.code yX11_grinds cX11_grinds 4 (some .int))) B.pre
  have hown : s.vm.findClass RX11 = some m.cls := findClass_of_methodNamed B.named
  have hlocks := B.notSynchronized
  have hS : va_S (th_A G) s.heap s.heap [] := va_S.rf
  have hl := lv_entry ([.ref h0, .int x1, .int x2, .int x3]) (n := 4) (Nat.le_of_ble_eq_true rfl)
  rw [show entryFrame m args 4 = entryFrame m ([.ref h0, .int x1, .int x2, .int x3] : List Value).toArray 4 from by rw [hav], lg_entry_eq]
  generalize (lg_sl ([.ref h0, .int x1, .int x2, .int x3]) ++ List.replicate (4 - (lg_sl ([.ref h0, .int x1, .int x2, .int x3])).length) Slot.unset).toArray = ls at hl ⊢
  have hl : lv_has ls 4 [(0, .ref h0), (1, .int x1), (2, .int x2), (3, .int x3)] := hl
  generalize hR : (headSpec (tb (.code yX11_grinds cX11_grinds 4 (some .int))) (rm 7)).room = R
  have hR := hR.symm
  generalize hQ : MQ below (QI E D G (fun r => True)) args s 0 0 (th_A G) = QF
  have hQ := hQ.symm
  have J_22 : ∀ (H : Heap) (locs : List Loc) (ls : Array Slot) , lv_has ls 4 [(0, .ref h0), (1, .int x1), (2, .int x2), (3, .int x3)] → th_I (okC E) D G [] H → va_S (th_A G) s.heap H locs → W p l e R s m args below meth c H locs 0 0 QF (F0 m 22 ls []) := by
    intro H locs ls  hl  hI hS
    refine lv_iconst (v := (-1)) hx hb dX11_grinds_22 (by decide) ?_
    have hpost : True := trivial
    rw [hQ]
    exact W.iret (v := (-1)) hx hb hr (fun t ht hW => ⟨⟨(-1), (), rfl, hpost, by rw [ht]; exact hI, hN.warm hW, va_K.moved hW.alike hK⟩, hS.F ht⟩) hS.2.2 dX11_grinds_23
  refine lv_aload_n hx hb dX11_grinds_0 rfl (lv_at hl 0 rfl) ?_
  obtain ⟨a1033, a1037, a1039, a1041, a1043, a1045, a1047, a1049, a1051, a1053, a1055, w1057, w1060, w1061, w1062, w1063, hO, hq1034, ⟨m1036, hq1035⟩, hq1038, hq1040, hq1042, hq1044, hq1046, hq1048, hq1050, hq1052, hq1054, hq1056, ⟨k1058, k1059⟩⟩ := op_15 hI hG0 List.not_mem_nil
  have hI := th_I.weak (a := h0) hI
  refine th_get hx hb hts inT11 hown hK hO rfl 0 (by decide) (hts _ (tb_c wd_345)) rfl rfl dX11_grinds_1 ?_
  have hI := th_I.close hI hG0 hO (ok_15 hq1034 ⟨_, hq1035⟩ hq1038 hq1040 hq1042 hq1044 hq1046 hq1048 hq1050 hq1052 hq1054 hq1056 ⟨by omega, by omega⟩)
  obtain ⟨a1064, a1066, a1068, a1070, a1072, a1074, a1076, a1078, a1080, a1082, w1084, w1087, w1088, w1089, hO, hq1065, hq1067, hq1069, hq1071, hq1073, hq1075, hq1077, hq1079, hq1081, hq1083, ⟨k1085, k1086⟩⟩ := op_6 hI hq1034 List.not_mem_nil
  have hI := th_I.weak (a := a1033) hI
  refine th_getN hx hb hts inT6 hown hK hN hO rfl 3 (by decide) wn_64 rfl rfl dX11_grinds_4 ?_
  refine lv_iload_n hx hb dX11_grinds_7 rfl (lv_at hl 1 rfl) ?_
  have hI := th_I.close hI hq1034 hO (ok_6 hq1065 hq1067 hq1069 hq1071 hq1073 hq1075 hq1077 hq1079 hq1081 hq1083 ⟨by omega, by omega⟩)
  obtain ⟨a1091, w1093, hO, hq1092, ⟨k1094, k1095⟩, k1096⟩ := op_4 hI hq1071 List.not_mem_nil
  have hI := th_I.weak (a := a1070) hI
  have k1097 : (nI 6).toInt = ((6 : Nat) : Int) := nI_toInt (by omega)
  refine th_cVs (As := [.int x1]) (rest := []) (n := 1) (d := 0) ⟨hx, hb, hml, hown, hts⟩ (c_X4_has l E D s.heap a1070 6 a1091 w1093 hO (by omega) (by omega) (by omega) x1) wd_494 wd_495 wd_496 wd_3 wd_497 (by decide +kernel) ⟨by rw [hR]; exact Nat.le_of_ble_eq_true rfl, by rw [hR]; exact Nat.le_of_ble_eq_true rfl⟩ hN hK hS ⟨_, hO⟩ rfl rfl hl.1 rfl (Nat.le_of_ble_eq_true rfl) dX11_grinds_8 ⟨Nat.zero_le _, Nat.zero_le _⟩ (fun r1090 locs hp hS => ?_)
  rcases hp with ⟨rfl, hp⟩ | ⟨rfl, hp⟩
  · skip
    try simp only [rg, not_and, Int.not_le] at hp
    have hp1098 := hp
    refine lv_if_eq (tgt := 22) hx hb dX11_grinds_11 (by decide) (fun c => absurd c (by decide)) (fun _ => ?_)
    refine lv_iload_n hx hb dX11_grinds_14 rfl (lv_at hl 2 rfl) ?_
    refine lv_iload_n hx hb dX11_grinds_15 rfl (lv_at hl 3 rfl) ?_
    refine th_cSs (As := [.int x2, .int x3]) (rest := []) (n := 2) (d := 1) ⟨hx, hb, hml, hown, hts⟩ (c_X11_isSpan l s.heap x2 x3) wd_463 wd_464 wd_1 wd_465 (by decide +kernel) ⟨by rw [hR]; exact Nat.le_of_ble_eq_true rfl, by rw [hR]; exact Nat.le_of_ble_eq_true rfl⟩ hN hS rfl hl.1 rfl (Nat.le_of_ble_eq_true rfl) dX11_grinds_16 ⟨Nat.zero_le _, Nat.zero_le _⟩ (fun r1099 locs hp hS => ?_)
    rcases hp with ⟨rfl, hp⟩ | ⟨rfl, hp⟩
    · skip
      try simp only [rg, not_and, Int.not_le] at hp
      have hp1100 := hp
      refine lv_if_ne (tgt := 24) hx hb dX11_grinds_19 (by decide) (fun _ => ?_) (fun c => absurd c (by decide))
      refine lv_aload_n hx hb dX11_grinds_24 rfl (lv_at hl 0 rfl) ?_
      have hI := th_I.close hI hq1071 hO (ok_4 hq1092 ⟨by omega, by omega⟩ (by omega))
      obtain ⟨a1101, a1105, a1107, a1109, a1111, a1113, a1115, a1117, a1119, a1121, a1123, w1125, w1128, w1129, w1130, w1131, hO, hq1102, ⟨m1104, hq1103⟩, hq1106, hq1108, hq1110, hq1112, hq1114, hq1116, hq1118, hq1120, hq1122, hq1124, ⟨k1126, k1127⟩⟩ := op_15 hI hG0 List.not_mem_nil
      have hI := th_I.weak (a := h0) hI
      refine th_get hx hb hts inT11 hown hK hO rfl 6 (by decide) (hts _ (tb_c wd_351)) rfl rfl dX11_grinds_25 ?_
      refine lv_aload_n hx hb dX11_grinds_28 rfl (lv_at hl 0 rfl) ?_
      refine th_get hx hb hts inT11 hown hK hO rfl 0 (by decide) (hts _ (tb_c wd_345)) rfl rfl dX11_grinds_29 ?_
      have hI := th_I.close hI hG0 hO (ok_15 hq1102 ⟨_, hq1103⟩ hq1106 hq1108 hq1110 hq1112 hq1114 hq1116 hq1118 hq1120 hq1122 hq1124 ⟨by omega, by omega⟩)
      obtain ⟨a1132, a1134, a1136, a1138, a1140, a1142, a1144, a1146, a1148, a1150, w1152, w1155, w1156, w1157, hO, hq1133, hq1135, hq1137, hq1139, hq1141, hq1143, hq1145, hq1147, hq1149, hq1151, ⟨k1153, k1154⟩⟩ := op_6 hI hq1102 List.not_mem_nil
      have hI := th_I.weak (a := a1101) hI
      refine th_getN hx hb hts inT6 hown hK hN hO rfl 3 (by decide) wn_64 rfl rfl dX11_grinds_32 ?_
      refine lv_iload_n hx hb dX11_grinds_35 rfl (lv_at hl 1 rfl) ?_
      refine lv_iconst (v := 0) hx hb dX11_grinds_36 (by decide) ?_
      have hI := th_I.close hI hq1102 hO (ok_6 hq1133 hq1135 hq1137 hq1139 hq1141 hq1143 hq1145 hq1147 hq1149 hq1151 ⟨by omega, by omega⟩)
      refine th_cVi (As := [.int x1, .int 0]) (rest := [.ref a1113]) (n := 2) (d := 0) ⟨hx, hb, hml, hown, hts⟩ (c_X4_at l E D G a1138 (6) hq1139 x1 0) wd_518 wd_519 wd_520 wd_3 wd_521 (by decide +kernel) ⟨by rw [hR]; exact Nat.le_of_ble_eq_true rfl, by rw [hR]; exact Nat.le_of_ble_eq_true rfl⟩ hI hN hK hS (rc_4 hI hq1139 List.not_mem_nil) rfl rfl hl.1 rfl (Nat.le_of_ble_eq_true rfl) dX11_grinds_37 ⟨Nat.zero_le _, Nat.zero_le _⟩ (fun r1158 H locs hp hI hS => ?_)
      refine lv_iload_n hx hb dX11_grinds_40 rfl (lv_at hl 2 rfl) ?_
      refine lv_iload_n hx hb dX11_grinds_41 rfl (lv_at hl 3 rfl) ?_
      refine th_cVi (As := [.int r1158, .int x2, .int x3]) (rest := []) (n := 3) (d := 6) ⟨hx, hb, hml, hown, hts⟩ (c_X7_turns l E D G a1113 hq1114 r1158 x2 x3) wd_522 wd_523 wd_524 wd_6 wd_525 (by decide +kernel) ⟨by rw [hR]; exact Nat.le_of_ble_eq_true rfl, by rw [hR]; exact Nat.le_of_ble_eq_true rfl⟩ hI hN hK hS (rc_9 hI hq1114 List.not_mem_nil) rfl rfl hl.1 rfl (Nat.le_of_ble_eq_true rfl) dX11_grinds_42 ⟨Nat.zero_le _, Nat.zero_le _⟩ (fun r1159 H locs hp hI hS => ?_)
      have hpost : True := trivial
      rw [hQ]
      exact W.iret (v := r1159) hx hb hr (fun t ht hW => ⟨⟨r1159, (), rfl, hpost, by rw [ht]; exact hI, hN.warm hW, va_K.moved hW.alike hK⟩, hS.F ht⟩) hS.2.2 dX11_grinds_45
    · skip
      try simp only [rg, not_and, Int.not_le] at hp
      have hp1160 := hp
      refine lv_if_ne (tgt := 24) hx hb dX11_grinds_19 (by decide) (fun c => absurd c (by decide)) (fun _ => ?_)
      have hI := th_I.close hI hq1071 hO (ok_4 hq1092 ⟨by omega, by omega⟩ (by omega))
      exact J_22 s.heap locs ls  (lv_sub hl [0, 1, 2, 3] rfl)  hI hS
  · skip
    have hp1161 := hp
    refine lv_if_eq (tgt := 22) hx hb dX11_grinds_11 (by decide) (fun _ => ?_) (fun c => absurd c (by decide))
    have hI := th_I.close hI hq1071 hO (ok_4 hq1092 ⟨by omega, by omega⟩ (by omega))
    exact J_22 s.heap locs ls  (lv_sub hl [0, 1, 2, 3] rfl)  hI hS
theorem dX11_flow_0 : decode cX11_flow 0 = .ok (.iload_n 1, 1) := by decide +kernel
theorem dX11_flow_1 : decode cX11_flow 1 = .ok (.invokestatic 106, 3) := by decide +kernel
theorem dX11_flow_4 : decode cX11_flow 4 = .ok (.ifCond .eq 22, 3) := by decide +kernel
theorem dX11_flow_7 : decode cX11_flow 7 = .ok (.iload_n 2, 1) := by decide +kernel
theorem dX11_flow_8 : decode cX11_flow 8 = .ok (.invokestatic 211, 3) := by decide +kernel
theorem dX11_flow_11 : decode cX11_flow 11 = .ok (.ifCond .eq 15, 3) := by decide +kernel
theorem dX11_flow_14 : decode cX11_flow 14 = .ok (.aload_n 0, 1) := by decide +kernel
theorem dX11_flow_15 : decode cX11_flow 15 = .ok (.getfield 42, 3) := by decide +kernel
theorem dX11_flow_18 : decode cX11_flow 18 = .ok (.iload_n 1, 1) := by decide +kernel
theorem dX11_flow_19 : decode cX11_flow 19 = .ok (.iload_n 2, 1) := by decide +kernel
theorem dX11_flow_20 : decode cX11_flow 20 = .ok (.invokevirtual 214, 3) := by decide +kernel
theorem dX11_flow_23 : decode cX11_flow 23 = .ok (.goto 6, 3) := by decide +kernel
theorem dX11_flow_26 : decode cX11_flow 26 = .ok (.sipush (-1000), 3) := by decide +kernel
theorem dX11_flow_29 : decode cX11_flow 29 = .ok (.ireturn, 1) := by decide +kernel
set_option maxHeartbeats 4000000 in
set_option maxRecDepth 100000 in
theorem c_X11_flow (l : Launch) (E : Nat → ClassId) (D : va_G) (G : th_G) (h0 n : Nat) (hG0 : G h0 = some (15, n)) (x1 x2 : Int32) : Met l yX11_flow (tb (.code yX11_flow cX11_flow 3 (some .int))) (rm 6) (va_Pc [.ref h0, .int x1, .int x2] (th_P E D G)) (QI E D G (fun r => True)) 0 0 (th_A G) := by
  refine Met.ofW (cc := cX11_flow) (maxL := 3) (ret := (some .int)) (by decide) rfl ?_
  intro p e s m args below meth c s₁ B hml hv
  obtain ⟨hav, hI, hN, hK⟩ := hv
  have hx := B.exec
  have hb := B.bytes
  have hr := B.returns
  have hts := atoms_spec (ws := tb (.code yX11_flow cX11_flow 3 (some .int))) B.pre
  have hown : s.vm.findClass RX11 = some m.cls := findClass_of_methodNamed B.named
  have hlocks := B.notSynchronized
  have hS : va_S (th_A G) s.heap s.heap [] := va_S.rf
  have hl := lv_entry ([.ref h0, .int x1, .int x2]) (n := 3) (Nat.le_of_ble_eq_true rfl)
  rw [show entryFrame m args 3 = entryFrame m ([.ref h0, .int x1, .int x2] : List Value).toArray 3 from by rw [hav], lg_entry_eq]
  generalize (lg_sl ([.ref h0, .int x1, .int x2]) ++ List.replicate (3 - (lg_sl ([.ref h0, .int x1, .int x2])).length) Slot.unset).toArray = ls at hl ⊢
  have hl : lv_has ls 3 [(0, .ref h0), (1, .int x1), (2, .int x2)] := hl
  generalize hR : (headSpec (tb (.code yX11_flow cX11_flow 3 (some .int))) (rm 6)).room = R
  have hR := hR.symm
  generalize hQ : MQ below (QI E D G (fun r => True)) args s 0 0 (th_A G) = QF
  have hQ := hQ.symm
  refine lv_iload_n hx hb dX11_flow_0 rfl (lv_at hl 1 rfl) ?_
  refine th_cSs (As := [.int x1]) (rest := []) (n := 1) (d := 0) ⟨hx, hb, hml, hown, hts⟩ (c_X11_isCell l s.heap x1) wd_401 wd_402 wd_1 wd_403 (by decide +kernel) ⟨by rw [hR]; exact Nat.le_of_ble_eq_true rfl, by rw [hR]; exact Nat.le_of_ble_eq_true rfl⟩ hN hS rfl hl.1 rfl (Nat.le_of_ble_eq_true rfl) dX11_flow_1 ⟨Nat.zero_le _, Nat.zero_le _⟩ (fun r1 locs hp hS => ?_)
  rcases hp with ⟨rfl, hp⟩ | ⟨rfl, hp⟩
  · skip
    try simp only [rg, not_and, Int.not_le] at hp
    have hp2 := hp
    refine lv_if_eq (tgt := 26) hx hb dX11_flow_4 (by decide) (fun c => absurd c (by decide)) (fun _ => ?_)
    refine lv_iload_n hx hb dX11_flow_7 rfl (lv_at hl 2 rfl) ?_
    refine th_cSs (As := [.int x2]) (rest := []) (n := 1) (d := 0) ⟨hx, hb, hml, hown, hts⟩ (c_X11_isHour l s.heap x2) wd_466 wd_467 wd_1 wd_468 (by decide +kernel) ⟨by rw [hR]; exact Nat.le_of_ble_eq_true rfl, by rw [hR]; exact Nat.le_of_ble_eq_true rfl⟩ hN hS rfl hl.1 rfl (Nat.le_of_ble_eq_true rfl) dX11_flow_8 ⟨Nat.zero_le _, Nat.zero_le _⟩ (fun r3 locs hp hS => ?_)
    rcases hp with ⟨rfl, hp⟩ | ⟨rfl, hp⟩
    · skip
      try simp only [rg, not_and, Int.not_le] at hp
      have hp4 := hp
      refine lv_if_eq (tgt := 26) hx hb dX11_flow_11 (by decide) (fun c => absurd c (by decide)) (fun _ => ?_)
      refine lv_aload_n hx hb dX11_flow_14 rfl (lv_at hl 0 rfl) ?_
      obtain ⟨a5, a9, a11, a13, a15, a17, a19, a21, a23, a25, a27, w29, w32, w33, w34, w35, hO, hq6, ⟨m8, hq7⟩, hq10, hq12, hq14, hq16, hq18, hq20, hq22, hq24, hq26, hq28, ⟨k30, k31⟩⟩ := op_15 hI hG0 List.not_mem_nil
      have hI := th_I.weak (a := h0) hI
      refine th_get hx hb hts inT11 hown hK hO rfl 6 (by decide) (hts _ (tb_c wd_351)) rfl rfl dX11_flow_15 ?_
      refine lv_iload_n hx hb dX11_flow_18 rfl (lv_at hl 1 rfl) ?_
      refine lv_iload_n hx hb dX11_flow_19 rfl (lv_at hl 2 rfl) ?_
      have hI := th_I.close hI hG0 hO (ok_15 hq6 ⟨_, hq7⟩ hq10 hq12 hq14 hq16 hq18 hq20 hq22 hq24 hq26 hq28 ⟨by omega, by omega⟩)
      refine th_cVi (As := [.int x1, .int x2]) (rest := []) (n := 2) (d := 5) ⟨hx, hb, hml, hown, hts⟩ (c_X7_flowAt l E D G a17 hq18 x1 x2) wd_805 wd_527 wd_528 wd_6 wd_529 (by decide +kernel) ⟨by rw [hR]; exact Nat.le_of_ble_eq_true rfl, by rw [hR]; exact Nat.le_of_ble_eq_true rfl⟩ hI hN hK hS (rc_9 hI hq18 List.not_mem_nil) rfl rfl hl.1 rfl (Nat.le_of_ble_eq_true rfl) dX11_flow_20 ⟨Nat.zero_le _, Nat.zero_le _⟩ (fun r36 H locs hp hI hS => ?_)
      refine lv_goto (tgt := 29) hx hb dX11_flow_23 (by decide) ?_
      have hpost : True := trivial
      rw [hQ]
      exact W.iret (v := r36) hx hb hr (fun t ht hW => ⟨⟨r36, (), rfl, hpost, by rw [ht]; exact hI, hN.warm hW, va_K.moved hW.alike hK⟩, hS.F ht⟩) hS.2.2 dX11_flow_29
    · skip
      try simp only [rg, not_and, Int.not_le] at hp
      have hp37 := hp
      refine lv_if_eq (tgt := 26) hx hb dX11_flow_11 (by decide) (fun _ => ?_) (fun c => absurd c (by decide))
      refine lv_sipush (v := (-1000)) hx hb dX11_flow_26 (by decide) ?_
      have hpost : True := trivial
      rw [hQ]
      exact W.iret (v := (-1000)) hx hb hr (fun t ht hW => ⟨⟨(-1000), (), rfl, hpost, by rw [ht]; exact hI, hN.warm hW, va_K.moved hW.alike hK⟩, hS.F ht⟩) hS.2.2 dX11_flow_29
  · skip
    try simp only [rg, not_and, Int.not_le] at hp
    have hp38 := hp
    refine lv_if_eq (tgt := 26) hx hb dX11_flow_4 (by decide) (fun _ => ?_) (fun c => absurd c (by decide))
    refine lv_sipush (v := (-1000)) hx hb dX11_flow_26 (by decide) ?_
    have hpost : True := trivial
    rw [hQ]
    exact W.iret (v := (-1000)) hx hb hr (fun t ht hW => ⟨⟨(-1000), (), rfl, hpost, by rw [ht]; exact hI, hN.warm hW, va_K.moved hW.alike hK⟩, hS.F ht⟩) hS.2.2 dX11_flow_29
theorem dX11_asks_0 : decode cX11_asks 0 = .ok (.iload_n 1, 1) := by decide +kernel
theorem dX11_asks_1 : decode cX11_asks 1 = .ok (.invokestatic 106, 3) := by decide +kernel
theorem dX11_asks_4 : decode cX11_asks 4 = .ok (.ifCond .eq 10, 3) := by decide +kernel
theorem dX11_asks_7 : decode cX11_asks 7 = .ok (.iload_n 2, 1) := by decide +kernel
theorem dX11_asks_8 : decode cX11_asks 8 = .ok (.invokestatic 211, 3) := by decide +kernel
theorem dX11_asks_11 : decode cX11_asks 11 = .ok (.ifCond .ne 5, 3) := by decide +kernel
theorem dX11_asks_14 : decode cX11_asks 14 = .ok (.iconst (-1), 1) := by decide +kernel
theorem dX11_asks_15 : decode cX11_asks 15 = .ok (.ireturn, 1) := by decide +kernel
theorem dX11_asks_16 : decode cX11_asks 16 = .ok (.iload_n 3, 1) := by decide +kernel
theorem dX11_asks_17 : decode cX11_asks 17 = .ok (.tableswitch 81 0 3 #[31, 41, 59, 70], 31) := by decide +kernel
theorem dX11_asks_48 : decode cX11_asks 48 = .ok (.aload_n 0, 1) := by decide +kernel
theorem dX11_asks_49 : decode cX11_asks 49 = .ok (.getfield 42, 3) := by decide +kernel
theorem dX11_asks_52 : decode cX11_asks 52 = .ok (.iload_n 1, 1) := by decide +kernel
theorem dX11_asks_53 : decode cX11_asks 53 = .ok (.iload_n 2, 1) := by decide +kernel
theorem dX11_asks_54 : decode cX11_asks 54 = .ok (.invokevirtual 217, 3) := by decide +kernel
theorem dX11_asks_57 : decode cX11_asks 57 = .ok (.ireturn, 1) := by decide +kernel
theorem dX11_asks_58 : decode cX11_asks 58 = .ok (.aload_n 0, 1) := by decide +kernel
theorem dX11_asks_59 : decode cX11_asks 59 = .ok (.getfield 42, 3) := by decide +kernel
theorem dX11_asks_62 : decode cX11_asks 62 = .ok (.iload_n 1, 1) := by decide +kernel
theorem dX11_asks_63 : decode cX11_asks 63 = .ok (.iload_n 2, 1) := by decide +kernel
theorem dX11_asks_64 : decode cX11_asks 64 = .ok (.invokevirtual 220, 3) := by decide +kernel
theorem dX11_asks_67 : decode cX11_asks 67 = .ok (.ifCond .eq 7, 3) := by decide +kernel
theorem dX11_asks_70 : decode cX11_asks 70 = .ok (.iconst 1, 1) := by decide +kernel
theorem dX11_asks_71 : decode cX11_asks 71 = .ok (.goto 4, 3) := by decide +kernel
theorem dX11_asks_74 : decode cX11_asks 74 = .ok (.iconst 0, 1) := by decide +kernel
theorem dX11_asks_75 : decode cX11_asks 75 = .ok (.ireturn, 1) := by decide +kernel
theorem dX11_asks_76 : decode cX11_asks 76 = .ok (.aload_n 0, 1) := by decide +kernel
theorem dX11_asks_77 : decode cX11_asks 77 = .ok (.getfield 42, 3) := by decide +kernel
theorem dX11_asks_80 : decode cX11_asks 80 = .ok (.iload_n 1, 1) := by decide +kernel
theorem dX11_asks_81 : decode cX11_asks 81 = .ok (.iload_n 2, 1) := by decide +kernel
theorem dX11_asks_82 : decode cX11_asks 82 = .ok (.iconst 1, 1) := by decide +kernel
theorem dX11_asks_83 : decode cX11_asks 83 = .ok (.invokevirtual 223, 3) := by decide +kernel
theorem dX11_asks_86 : decode cX11_asks 86 = .ok (.ireturn, 1) := by decide +kernel
theorem dX11_asks_87 : decode cX11_asks 87 = .ok (.aload_n 0, 1) := by decide +kernel
theorem dX11_asks_88 : decode cX11_asks 88 = .ok (.getfield 42, 3) := by decide +kernel
theorem dX11_asks_91 : decode cX11_asks 91 = .ok (.iload_n 1, 1) := by decide +kernel
theorem dX11_asks_92 : decode cX11_asks 92 = .ok (.iload_n 2, 1) := by decide +kernel
theorem dX11_asks_93 : decode cX11_asks 93 = .ok (.iconst 0, 1) := by decide +kernel
theorem dX11_asks_94 : decode cX11_asks 94 = .ok (.invokevirtual 223, 3) := by decide +kernel
theorem dX11_asks_97 : decode cX11_asks 97 = .ok (.ireturn, 1) := by decide +kernel
theorem dX11_asks_98 : decode cX11_asks 98 = .ok (.iconst (-1), 1) := by decide +kernel
theorem dX11_asks_99 : decode cX11_asks 99 = .ok (.ireturn, 1) := by decide +kernel
set_option maxHeartbeats 4000000 in
set_option maxRecDepth 100000 in
theorem c_X11_asks (l : Launch) (E : Nat → ClassId) (D : va_G) (G : th_G) (h0 n : Nat) (hG0 : G h0 = some (15, n)) (x1 x2 x3 : Int32) : Met l yX11_asks (tb (.code yX11_asks cX11_asks 4 (some .int))) (rm 6) (va_Pc [.ref h0, .int x1, .int x2, .int x3] (th_P E D G)) (QI E D G (fun r => True)) 0 0 (th_A G) := by
  refine Met.ofW (cc := cX11_asks) (maxL := 4) (ret := (some .int)) (by decide) rfl ?_
  intro p e s m args below meth c s₁ B hml hv
  obtain ⟨hav, hI, hN, hK⟩ := hv
  have hx := B.exec
  have hb := B.bytes
  have hr := B.returns
  have hts := atoms_spec (ws := tb (.code yX11_asks cX11_asks 4 (some .int))) B.pre
  have hown : s.vm.findClass RX11 = some m.cls := findClass_of_methodNamed B.named
  have hlocks := B.notSynchronized
  have hS : va_S (th_A G) s.heap s.heap [] := va_S.rf
  have hl := lv_entry ([.ref h0, .int x1, .int x2, .int x3]) (n := 4) (Nat.le_of_ble_eq_true rfl)
  rw [show entryFrame m args 4 = entryFrame m ([.ref h0, .int x1, .int x2, .int x3] : List Value).toArray 4 from by rw [hav], lg_entry_eq]
  generalize (lg_sl ([.ref h0, .int x1, .int x2, .int x3]) ++ List.replicate (4 - (lg_sl ([.ref h0, .int x1, .int x2, .int x3])).length) Slot.unset).toArray = ls at hl ⊢
  have hl : lv_has ls 4 [(0, .ref h0), (1, .int x1), (2, .int x2), (3, .int x3)] := hl
  generalize hR : (headSpec (tb (.code yX11_asks cX11_asks 4 (some .int))) (rm 6)).room = R
  have hR := hR.symm
  generalize hQ : MQ below (QI E D G (fun r => True)) args s 0 0 (th_A G) = QF
  have hQ := hQ.symm
  have J_75 : ∀ (H : Heap) (locs : List Loc) (ls : Array Slot) (v1224 : Int32), lv_has ls 4 [(0, .ref h0), (1, .int x1), (2, .int x2), (3, .int x3)] → ((0 : Int) ≤ x1.toInt ∧ x1.toInt ≤ 23) → ((0 : Int) ≤ x2.toInt ∧ x2.toInt ≤ 95) → ((1 : Int) ≤ x3.toInt ∧ x3.toInt ≤ 1) → ((0 : Int) ≤ v1224.toInt ∧ v1224.toInt ≤ 1) → th_I (okC E) D G [] H → va_S (th_A G) s.heap H locs → W p l e R s m args below meth c H locs 0 0 QF (F0 m 75 ls [.int v1224]) := by
    intro H locs ls v1224 hl k1225 k1226 k1227 k1228 hI hS
    have hpost : True := trivial
    rw [hQ]
    exact W.iret (v := v1224) hx hb hr (fun t ht hW => ⟨⟨v1224, (), rfl, hpost, by rw [ht]; exact hI, hN.warm hW, va_K.moved hW.alike hK⟩, hS.F ht⟩) hS.2.2 dX11_asks_75
  have J_14 : ∀ (H : Heap) (locs : List Loc) (ls : Array Slot) , lv_has ls 4 [(0, .ref h0), (1, .int x1), (2, .int x2), (3, .int x3)] → th_I (okC E) D G [] H → va_S (th_A G) s.heap H locs → W p l e R s m args below meth c H locs 0 0 QF (F0 m 14 ls []) := by
    intro H locs ls  hl  hI hS
    refine lv_iconst (v := (-1)) hx hb dX11_asks_14 (by decide) ?_
    have hpost : True := trivial
    rw [hQ]
    exact W.iret (v := (-1)) hx hb hr (fun t ht hW => ⟨⟨(-1), (), rfl, hpost, by rw [ht]; exact hI, hN.warm hW, va_K.moved hW.alike hK⟩, hS.F ht⟩) hS.2.2 dX11_asks_15
  refine lv_iload_n hx hb dX11_asks_0 rfl (lv_at hl 1 rfl) ?_
  refine th_cSs (As := [.int x1]) (rest := []) (n := 1) (d := 0) ⟨hx, hb, hml, hown, hts⟩ (c_X11_isCell l s.heap x1) wd_401 wd_402 wd_1 wd_403 (by decide +kernel) ⟨by rw [hR]; exact Nat.le_of_ble_eq_true rfl, by rw [hR]; exact Nat.le_of_ble_eq_true rfl⟩ hN hS rfl hl.1 rfl (Nat.le_of_ble_eq_true rfl) dX11_asks_1 ⟨Nat.zero_le _, Nat.zero_le _⟩ (fun r1229 locs hp hS => ?_)
  rcases hp with ⟨rfl, hp⟩ | ⟨rfl, hp⟩
  · skip
    try simp only [rg, not_and, Int.not_le] at hp
    have hp1230 := hp
    refine lv_if_eq (tgt := 14) hx hb dX11_asks_4 (by decide) (fun c => absurd c (by decide)) (fun _ => ?_)
    refine lv_iload_n hx hb dX11_asks_7 rfl (lv_at hl 2 rfl) ?_
    refine th_cSs (As := [.int x2]) (rest := []) (n := 1) (d := 0) ⟨hx, hb, hml, hown, hts⟩ (c_X11_isHour l s.heap x2) wd_466 wd_467 wd_1 wd_468 (by decide +kernel) ⟨by rw [hR]; exact Nat.le_of_ble_eq_true rfl, by rw [hR]; exact Nat.le_of_ble_eq_true rfl⟩ hN hS rfl hl.1 rfl (Nat.le_of_ble_eq_true rfl) dX11_asks_8 ⟨Nat.zero_le _, Nat.zero_le _⟩ (fun r1231 locs hp hS => ?_)
    rcases hp with ⟨rfl, hp⟩ | ⟨rfl, hp⟩
    · skip
      try simp only [rg, not_and, Int.not_le] at hp
      have hp1232 := hp
      refine lv_if_ne (tgt := 16) hx hb dX11_asks_11 (by decide) (fun _ => ?_) (fun c => absurd c (by decide))
      refine lv_iload_n hx hb dX11_asks_16 rfl (lv_at hl 3 rfl) ?_
      have k1233 := iv_lo x3
      have k1234 := iv_hi x3
      by_cases c1235 : x3 = 0
      · skip
        have k1236 := iv_eq (X := x3.toInt) (Y := 0) rfl (by decide) c1235
        refine lv_tableIn (tgt := 48) (off := 31) hx hb dX11_asks_17 (by omega) (by omega) (by rw [k1236]; rfl) (by decide) ?_
        refine lv_aload_n hx hb dX11_asks_48 rfl (lv_at hl 0 rfl) ?_
        obtain ⟨a1237, a1241, a1243, a1245, a1247, a1249, a1251, a1253, a1255, a1257, a1259, w1261, w1264, w1265, w1266, w1267, hO, hq1238, ⟨m1240, hq1239⟩, hq1242, hq1244, hq1246, hq1248, hq1250, hq1252, hq1254, hq1256, hq1258, hq1260, ⟨k1262, k1263⟩⟩ := op_15 hI hG0 List.not_mem_nil
        have hI := th_I.weak (a := h0) hI
        refine th_get hx hb hts inT11 hown hK hO rfl 6 (by decide) (hts _ (tb_c wd_351)) rfl rfl dX11_asks_49 ?_
        refine lv_iload_n hx hb dX11_asks_52 rfl (lv_at hl 1 rfl) ?_
        refine lv_iload_n hx hb dX11_asks_53 rfl (lv_at hl 2 rfl) ?_
        have hI := th_I.close hI hG0 hO (ok_15 hq1238 ⟨_, hq1239⟩ hq1242 hq1244 hq1246 hq1248 hq1250 hq1252 hq1254 hq1256 hq1258 hq1260 ⟨by omega, by omega⟩)
        refine th_cVi (As := [.int x1, .int x2]) (rest := []) (n := 2) (d := 5) ⟨hx, hb, hml, hown, hts⟩ (c_X7_costAt l E D G a1249 hq1250 x1 x2) wd_810 wd_811 wd_812 wd_6 wd_813 (by decide +kernel) ⟨by rw [hR]; exact Nat.le_of_ble_eq_true rfl, by rw [hR]; exact Nat.le_of_ble_eq_true rfl⟩ hI hN hK hS (rc_9 hI hq1250 List.not_mem_nil) rfl rfl hl.1 rfl (Nat.le_of_ble_eq_true rfl) dX11_asks_54 ⟨Nat.zero_le _, Nat.zero_le _⟩ (fun r1268 H locs hp hI hS => ?_)
        have hpost : True := trivial
        rw [hQ]
        exact W.iret (v := r1268) hx hb hr (fun t ht hW => ⟨⟨r1268, (), rfl, hpost, by rw [ht]; exact hI, hN.warm hW, va_K.moved hW.alike hK⟩, hS.F ht⟩) hS.2.2 dX11_asks_57
      have k1269 := iv_ne (X := x3.toInt) (Y := 0) rfl (by decide) c1235
      by_cases c1270 : x3 = 1
      · skip
        have k1271 := iv_eq (X := x3.toInt) (Y := 1) rfl (by decide) c1270
        refine lv_tableIn (tgt := 58) (off := 41) hx hb dX11_asks_17 (by omega) (by omega) (by rw [k1271]; rfl) (by decide) ?_
        refine lv_aload_n hx hb dX11_asks_58 rfl (lv_at hl 0 rfl) ?_
        obtain ⟨a1272, a1276, a1278, a1280, a1282, a1284, a1286, a1288, a1290, a1292, a1294, w1296, w1299, w1300, w1301, w1302, hO, hq1273, ⟨m1275, hq1274⟩, hq1277, hq1279, hq1281, hq1283, hq1285, hq1287, hq1289, hq1291, hq1293, hq1295, ⟨k1297, k1298⟩⟩ := op_15 hI hG0 List.not_mem_nil
        have hI := th_I.weak (a := h0) hI
        refine th_get hx hb hts inT11 hown hK hO rfl 6 (by decide) (hts _ (tb_c wd_351)) rfl rfl dX11_asks_59 ?_
        refine lv_iload_n hx hb dX11_asks_62 rfl (lv_at hl 1 rfl) ?_
        refine lv_iload_n hx hb dX11_asks_63 rfl (lv_at hl 2 rfl) ?_
        have hI := th_I.close hI hG0 hO (ok_15 hq1273 ⟨_, hq1274⟩ hq1277 hq1279 hq1281 hq1283 hq1285 hq1287 hq1289 hq1291 hq1293 hq1295 ⟨by omega, by omega⟩)
        refine th_cVi (As := [.int x1, .int x2]) (rest := []) (n := 2) (d := 5) ⟨hx, hb, hml, hown, hts⟩ (c_X7_isBarred l E D G a1284 hq1285 x1 x2) wd_623 wd_624 wd_625 wd_6 wd_626 (by decide +kernel) ⟨by rw [hR]; exact Nat.le_of_ble_eq_true rfl, by rw [hR]; exact Nat.le_of_ble_eq_true rfl⟩ hI hN hK hS (rc_9 hI hq1285 List.not_mem_nil) rfl rfl hl.1 rfl (Nat.le_of_ble_eq_true rfl) dX11_asks_64 ⟨Nat.zero_le _, Nat.zero_le _⟩ (fun r1303 H locs hp hI hS => ?_)
        have hp1304 := hp
        refine lv_if_eq (tgt := 74) hx hb dX11_asks_67 (by decide) (fun c1305 => ?_) (fun c1305 => ?_)
        · skip
          have k1306 := iv_eq (X := r1303.toInt) (Y := (0)) rfl (by decide) c1305
          refine lv_iconst (v := 0) hx hb dX11_asks_74 (by decide) ?_
          exact J_75 H locs ls 0 (lv_sub hl [0, 1, 2, 3] rfl) ⟨by omega, by omega⟩ ⟨by omega, by omega⟩ ⟨by omega, by omega⟩ ⟨by decide, by decide⟩ hI hS
        · skip
          have k1307 := iv_ne (X := r1303.toInt) (Y := (0)) rfl (by decide) c1305
          refine lv_iconst (v := 1) hx hb dX11_asks_70 (by decide) ?_
          refine lv_goto (tgt := 75) hx hb dX11_asks_71 (by decide) ?_
          exact J_75 H locs ls 1 (lv_sub hl [0, 1, 2, 3] rfl) ⟨by omega, by omega⟩ ⟨by omega, by omega⟩ ⟨by omega, by omega⟩ ⟨by decide, by decide⟩ hI hS
      have k1308 := iv_ne (X := x3.toInt) (Y := 1) rfl (by decide) c1270
      by_cases c1309 : x3 = 2
      · skip
        have k1310 := iv_eq (X := x3.toInt) (Y := 2) rfl (by decide) c1309
        refine lv_tableIn (tgt := 76) (off := 59) hx hb dX11_asks_17 (by omega) (by omega) (by rw [k1310]; rfl) (by decide) ?_
        refine lv_aload_n hx hb dX11_asks_76 rfl (lv_at hl 0 rfl) ?_
        obtain ⟨a1311, a1315, a1317, a1319, a1321, a1323, a1325, a1327, a1329, a1331, a1333, w1335, w1338, w1339, w1340, w1341, hO, hq1312, ⟨m1314, hq1313⟩, hq1316, hq1318, hq1320, hq1322, hq1324, hq1326, hq1328, hq1330, hq1332, hq1334, ⟨k1336, k1337⟩⟩ := op_15 hI hG0 List.not_mem_nil
        have hI := th_I.weak (a := h0) hI
        refine th_get hx hb hts inT11 hown hK hO rfl 6 (by decide) (hts _ (tb_c wd_351)) rfl rfl dX11_asks_77 ?_
        refine lv_iload_n hx hb dX11_asks_80 rfl (lv_at hl 1 rfl) ?_
        refine lv_iload_n hx hb dX11_asks_81 rfl (lv_at hl 2 rfl) ?_
        refine lv_iconst (v := 1) hx hb dX11_asks_82 (by decide) ?_
        have hI := th_I.close hI hG0 hO (ok_15 hq1312 ⟨_, hq1313⟩ hq1316 hq1318 hq1320 hq1322 hq1324 hq1326 hq1328 hq1330 hq1332 hq1334 ⟨by omega, by omega⟩)
        refine th_cVi (As := [.int x1, .int x2, .int 1]) (rest := []) (n := 3) (d := 4) ⟨hx, hb, hml, hown, hts⟩ (c_X7_tollAt l E D G a1323 hq1324 x1 x2 1) wd_814 wd_815 wd_816 wd_6 wd_817 (by decide +kernel) ⟨by rw [hR]; exact Nat.le_of_ble_eq_true rfl, by rw [hR]; exact Nat.le_of_ble_eq_true rfl⟩ hI hN hK hS (rc_9 hI hq1324 List.not_mem_nil) rfl rfl hl.1 rfl (Nat.le_of_ble_eq_true rfl) dX11_asks_83 ⟨Nat.zero_le _, Nat.zero_le _⟩ (fun r1342 H locs hp hI hS => ?_)
        have hpost : True := trivial
        rw [hQ]
        exact W.iret (v := r1342) hx hb hr (fun t ht hW => ⟨⟨r1342, (), rfl, hpost, by rw [ht]; exact hI, hN.warm hW, va_K.moved hW.alike hK⟩, hS.F ht⟩) hS.2.2 dX11_asks_86
      have k1343 := iv_ne (X := x3.toInt) (Y := 2) rfl (by decide) c1309
      by_cases c1344 : x3 = 3
      · skip
        have k1345 := iv_eq (X := x3.toInt) (Y := 3) rfl (by decide) c1344
        refine lv_tableIn (tgt := 87) (off := 70) hx hb dX11_asks_17 (by omega) (by omega) (by rw [k1345]; rfl) (by decide) ?_
        refine lv_aload_n hx hb dX11_asks_87 rfl (lv_at hl 0 rfl) ?_
        obtain ⟨a1346, a1350, a1352, a1354, a1356, a1358, a1360, a1362, a1364, a1366, a1368, w1370, w1373, w1374, w1375, w1376, hO, hq1347, ⟨m1349, hq1348⟩, hq1351, hq1353, hq1355, hq1357, hq1359, hq1361, hq1363, hq1365, hq1367, hq1369, ⟨k1371, k1372⟩⟩ := op_15 hI hG0 List.not_mem_nil
        have hI := th_I.weak (a := h0) hI
        refine th_get hx hb hts inT11 hown hK hO rfl 6 (by decide) (hts _ (tb_c wd_351)) rfl rfl dX11_asks_88 ?_
        refine lv_iload_n hx hb dX11_asks_91 rfl (lv_at hl 1 rfl) ?_
        refine lv_iload_n hx hb dX11_asks_92 rfl (lv_at hl 2 rfl) ?_
        refine lv_iconst (v := 0) hx hb dX11_asks_93 (by decide) ?_
        have hI := th_I.close hI hG0 hO (ok_15 hq1347 ⟨_, hq1348⟩ hq1351 hq1353 hq1355 hq1357 hq1359 hq1361 hq1363 hq1365 hq1367 hq1369 ⟨by omega, by omega⟩)
        refine th_cVi (As := [.int x1, .int x2, .int 0]) (rest := []) (n := 3) (d := 4) ⟨hx, hb, hml, hown, hts⟩ (c_X7_tollAt l E D G a1358 hq1359 x1 x2 0) wd_814 wd_815 wd_816 wd_6 wd_817 (by decide +kernel) ⟨by rw [hR]; exact Nat.le_of_ble_eq_true rfl, by rw [hR]; exact Nat.le_of_ble_eq_true rfl⟩ hI hN hK hS (rc_9 hI hq1359 List.not_mem_nil) rfl rfl hl.1 rfl (Nat.le_of_ble_eq_true rfl) dX11_asks_94 ⟨Nat.zero_le _, Nat.zero_le _⟩ (fun r1377 H locs hp hI hS => ?_)
        have hpost : True := trivial
        rw [hQ]
        exact W.iret (v := r1377) hx hb hr (fun t ht hW => ⟨⟨r1377, (), rfl, hpost, by rw [ht]; exact hI, hN.warm hW, va_K.moved hW.alike hK⟩, hS.F ht⟩) hS.2.2 dX11_asks_97
      have k1378 := iv_ne (X := x3.toInt) (Y := 3) rfl (by decide) c1344
      refine lv_tableOut (tgt := 98) hx hb dX11_asks_17 (by omega) (by decide) ?_
      refine lv_iconst (v := (-1)) hx hb dX11_asks_98 (by decide) ?_
      have hpost : True := trivial
      rw [hQ]
      exact W.iret (v := (-1)) hx hb hr (fun t ht hW => ⟨⟨(-1), (), rfl, hpost, by rw [ht]; exact hI, hN.warm hW, va_K.moved hW.alike hK⟩, hS.F ht⟩) hS.2.2 dX11_asks_99
    · skip
      try simp only [rg, not_and, Int.not_le] at hp
      have hp1379 := hp
      refine lv_if_ne (tgt := 16) hx hb dX11_asks_11 (by decide) (fun c => absurd c (by decide)) (fun _ => ?_)
      exact J_14 s.heap locs ls  (lv_sub hl [0, 1, 2, 3] rfl)  hI hS
  · skip
    try simp only [rg, not_and, Int.not_le] at hp
    have hp1380 := hp
    refine lv_if_eq (tgt := 14) hx hb dX11_asks_4 (by decide) (fun _ => ?_) (fun c => absurd c (by decide))
    exact J_14 s.heap locs ls  (lv_sub hl [0, 1, 2, 3] rfl)  hI hS
theorem dX11_where_0 : decode cX11_where 0 = .ok (.iload_n 1, 1) := by decide +kernel
theorem dX11_where_1 : decode cX11_where 1 = .ok (.invokestatic 106, 3) := by decide +kernel
theorem dX11_where_4 : decode cX11_where 4 = .ok (.ifCond .eq 22, 3) := by decide +kernel
theorem dX11_where_7 : decode cX11_where 7 = .ok (.iload_n 2, 1) := by decide +kernel
theorem dX11_where_8 : decode cX11_where 8 = .ok (.invokestatic 211, 3) := by decide +kernel
theorem dX11_where_11 : decode cX11_where 11 = .ok (.ifCond .eq 15, 3) := by decide +kernel
theorem dX11_where_14 : decode cX11_where 14 = .ok (.iload_n 3, 1) := by decide +kernel
theorem dX11_where_15 : decode cX11_where 15 = .ok (.invokestatic 226, 3) := by decide +kernel
theorem dX11_where_18 : decode cX11_where 18 = .ok (.ifCond .eq 8, 3) := by decide +kernel
theorem dX11_where_21 : decode cX11_where 21 = .ok (.iload_n 3, 1) := by decide +kernel
theorem dX11_where_22 : decode cX11_where 22 = .ok (.iload_n 2, 1) := by decide +kernel
theorem dX11_where_23 : decode cX11_where 23 = .ok (.if_icmp .ge 5, 3) := by decide +kernel
theorem dX11_where_26 : decode cX11_where 26 = .ok (.iconst (-1), 1) := by decide +kernel
theorem dX11_where_27 : decode cX11_where 27 = .ok (.ireturn, 1) := by decide +kernel
theorem dX11_where_28 : decode cX11_where 28 = .ok (.aload_n 0, 1) := by decide +kernel
theorem dX11_where_29 : decode cX11_where 29 = .ok (.getfield 51, 3) := by decide +kernel
theorem dX11_where_32 : decode cX11_where 32 = .ok (.iload_n 1, 1) := by decide +kernel
theorem dX11_where_33 : decode cX11_where 33 = .ok (.iload_n 2, 1) := by decide +kernel
theorem dX11_where_34 : decode cX11_where 34 = .ok (.iload_n 3, 1) := by decide +kernel
theorem dX11_where_35 : decode cX11_where 35 = .ok (.invokevirtual 229, 3) := by decide +kernel
theorem dX11_where_38 : decode cX11_where 38 = .ok (.ireturn, 1) := by decide +kernel
set_option maxHeartbeats 4000000 in
set_option maxRecDepth 100000 in
theorem c_X11_where (l : Launch) (E : Nat → ClassId) (D : va_G) (G : th_G) (h0 n : Nat) (hG0 : G h0 = some (15, n)) (x1 x2 x3 : Int32) : Met l yX11_where (tb (.code yX11_where cX11_where 4 (some .int))) (rm 6) (va_Pc [.ref h0, .int x1, .int x2, .int x3] (th_P E D G)) (QI E D G (fun r => True)) 0 0 (th_A G) := by
  refine Met.ofW (cc := cX11_where) (maxL := 4) (ret := (some .int)) (by decide) rfl ?_
  intro p e s m args below meth c s₁ B hml hv
  obtain ⟨hav, hI, hN, hK⟩ := hv
  have hx := B.exec
  have hb := B.bytes
  have hr := B.returns
  have hts := atoms_spec (ws := tb (.code yX11_where cX11_where 4 (some .int))) B.pre
  have hown : s.vm.findClass RX11 = some m.cls := findClass_of_methodNamed B.named
  have hlocks := B.notSynchronized
  have hS : va_S (th_A G) s.heap s.heap [] := va_S.rf
  have hl := lv_entry ([.ref h0, .int x1, .int x2, .int x3]) (n := 4) (Nat.le_of_ble_eq_true rfl)
  rw [show entryFrame m args 4 = entryFrame m ([.ref h0, .int x1, .int x2, .int x3] : List Value).toArray 4 from by rw [hav], lg_entry_eq]
  generalize (lg_sl ([.ref h0, .int x1, .int x2, .int x3]) ++ List.replicate (4 - (lg_sl ([.ref h0, .int x1, .int x2, .int x3])).length) Slot.unset).toArray = ls at hl ⊢
  have hl : lv_has ls 4 [(0, .ref h0), (1, .int x1), (2, .int x2), (3, .int x3)] := hl
  generalize hR : (headSpec (tb (.code yX11_where cX11_where 4 (some .int))) (rm 6)).room = R
  have hR := hR.symm
  generalize hQ : MQ below (QI E D G (fun r => True)) args s 0 0 (th_A G) = QF
  have hQ := hQ.symm
  have J_26 : ∀ (H : Heap) (locs : List Loc) (ls : Array Slot) , lv_has ls 4 [(0, .ref h0), (1, .int x1), (2, .int x2), (3, .int x3)] → th_I (okC E) D G [] H → va_S (th_A G) s.heap H locs → W p l e R s m args below meth c H locs 0 0 QF (F0 m 26 ls []) := by
    intro H locs ls  hl  hI hS
    refine lv_iconst (v := (-1)) hx hb dX11_where_26 (by decide) ?_
    have hpost : True := trivial
    rw [hQ]
    exact W.iret (v := (-1)) hx hb hr (fun t ht hW => ⟨⟨(-1), (), rfl, hpost, by rw [ht]; exact hI, hN.warm hW, va_K.moved hW.alike hK⟩, hS.F ht⟩) hS.2.2 dX11_where_27
  refine lv_iload_n hx hb dX11_where_0 rfl (lv_at hl 1 rfl) ?_
  refine th_cSs (As := [.int x1]) (rest := []) (n := 1) (d := 0) ⟨hx, hb, hml, hown, hts⟩ (c_X11_isCell l s.heap x1) wd_401 wd_402 wd_1 wd_403 (by decide +kernel) ⟨by rw [hR]; exact Nat.le_of_ble_eq_true rfl, by rw [hR]; exact Nat.le_of_ble_eq_true rfl⟩ hN hS rfl hl.1 rfl (Nat.le_of_ble_eq_true rfl) dX11_where_1 ⟨Nat.zero_le _, Nat.zero_le _⟩ (fun r353 locs hp hS => ?_)
  rcases hp with ⟨rfl, hp⟩ | ⟨rfl, hp⟩
  · skip
    try simp only [rg, not_and, Int.not_le] at hp
    have hp354 := hp
    refine lv_if_eq (tgt := 26) hx hb dX11_where_4 (by decide) (fun c => absurd c (by decide)) (fun _ => ?_)
    refine lv_iload_n hx hb dX11_where_7 rfl (lv_at hl 2 rfl) ?_
    refine th_cSs (As := [.int x2]) (rest := []) (n := 1) (d := 0) ⟨hx, hb, hml, hown, hts⟩ (c_X11_isHour l s.heap x2) wd_466 wd_467 wd_1 wd_468 (by decide +kernel) ⟨by rw [hR]; exact Nat.le_of_ble_eq_true rfl, by rw [hR]; exact Nat.le_of_ble_eq_true rfl⟩ hN hS rfl hl.1 rfl (Nat.le_of_ble_eq_true rfl) dX11_where_8 ⟨Nat.zero_le _, Nat.zero_le _⟩ (fun r355 locs hp hS => ?_)
    rcases hp with ⟨rfl, hp⟩ | ⟨rfl, hp⟩
    · skip
      try simp only [rg, not_and, Int.not_le] at hp
      have hp356 := hp
      refine lv_if_eq (tgt := 26) hx hb dX11_where_11 (by decide) (fun c => absurd c (by decide)) (fun _ => ?_)
      refine lv_iload_n hx hb dX11_where_14 rfl (lv_at hl 3 rfl) ?_
      refine th_cSs (As := [.int x3]) (rest := []) (n := 1) (d := 0) ⟨hx, hb, hml, hown, hts⟩ (c_X11_isMoment l s.heap x3) wd_826 wd_827 wd_1 wd_828 (by decide +kernel) ⟨by rw [hR]; exact Nat.le_of_ble_eq_true rfl, by rw [hR]; exact Nat.le_of_ble_eq_true rfl⟩ hN hS rfl hl.1 rfl (Nat.le_of_ble_eq_true rfl) dX11_where_15 ⟨Nat.zero_le _, Nat.zero_le _⟩ (fun r357 locs hp hS => ?_)
      rcases hp with ⟨rfl, hp⟩ | ⟨rfl, hp⟩
      · skip
        try simp only [rg, not_and, Int.not_le] at hp
        have hp358 := hp
        refine lv_if_eq (tgt := 26) hx hb dX11_where_18 (by decide) (fun c => absurd c (by decide)) (fun _ => ?_)
        refine lv_iload_n hx hb dX11_where_21 rfl (lv_at hl 3 rfl) ?_
        refine lv_iload_n hx hb dX11_where_22 rfl (lv_at hl 2 rfl) ?_
        refine lv_icmp_ge (tgt := 28) hx hb dX11_where_23 (by decide) (fun c359 => ?_) (fun c359 => ?_)
        · skip
          have k360 := iv_le (X := x2.toInt) (Y := x3.toInt) rfl rfl c359
          refine lv_aload_n hx hb dX11_where_28 rfl (lv_at hl 0 rfl) ?_
          obtain ⟨a361, a365, a367, a369, a371, a373, a375, a377, a379, a381, a383, w385, w388, w389, w390, w391, hO, hq362, ⟨m364, hq363⟩, hq366, hq368, hq370, hq372, hq374, hq376, hq378, hq380, hq382, hq384, ⟨k386, k387⟩⟩ := op_15 hI hG0 List.not_mem_nil
          have hI := th_I.weak (a := h0) hI
          refine th_get hx hb hts inT11 hown hK hO rfl 7 (by decide) (hts _ (tb_c wd_352)) rfl rfl dX11_where_29 ?_
          refine lv_iload_n hx hb dX11_where_32 rfl (lv_at hl 1 rfl) ?_
          refine lv_iload_n hx hb dX11_where_33 rfl (lv_at hl 2 rfl) ?_
          refine lv_iload_n hx hb dX11_where_34 rfl (lv_at hl 3 rfl) ?_
          have hI := th_I.close hI hG0 hO (ok_15 hq362 ⟨_, hq363⟩ hq366 hq368 hq370 hq372 hq374 hq376 hq378 hq380 hq382 hq384 ⟨by omega, by omega⟩)
          refine th_cVi (As := [.int x1, .int x2, .int x3]) (rest := []) (n := 3) (d := 5) ⟨hx, hb, hml, hown, hts⟩ (c_X9_drift l E D G a375 hq376 x1 x2 x3) wd_829 wd_830 wd_831 wd_8 wd_832 (by decide +kernel) ⟨by rw [hR]; exact Nat.le_of_ble_eq_true rfl, by rw [hR]; exact Nat.le_of_ble_eq_true rfl⟩ hI hN hK hS (rc_10 hI hq376 List.not_mem_nil) rfl rfl hl.1 rfl (Nat.le_of_ble_eq_true rfl) dX11_where_35 ⟨Nat.zero_le _, Nat.zero_le _⟩ (fun r392 H locs hp hI hS => ?_)
          have hpost : True := trivial
          rw [hQ]
          exact W.iret (v := r392) hx hb hr (fun t ht hW => ⟨⟨r392, (), rfl, hpost, by rw [ht]; exact hI, hN.warm hW, va_K.moved hW.alike hK⟩, hS.F ht⟩) hS.2.2 dX11_where_38
        · skip
          have k393 := iv_nle (X := x2.toInt) (Y := x3.toInt) rfl rfl c359
          exact J_26 s.heap locs ls  (lv_sub hl [0, 1, 2, 3] rfl)  hI hS
      · skip
        try simp only [rg, not_and, Int.not_le] at hp
        have hp394 := hp
        refine lv_if_eq (tgt := 26) hx hb dX11_where_18 (by decide) (fun _ => ?_) (fun c => absurd c (by decide))
        exact J_26 s.heap locs ls  (lv_sub hl [0, 1, 2, 3] rfl)  hI hS
    · skip
      try simp only [rg, not_and, Int.not_le] at hp
      have hp395 := hp
      refine lv_if_eq (tgt := 26) hx hb dX11_where_11 (by decide) (fun _ => ?_) (fun c => absurd c (by decide))
      exact J_26 s.heap locs ls  (lv_sub hl [0, 1, 2, 3] rfl)  hI hS
  · skip
    try simp only [rg, not_and, Int.not_le] at hp
    have hp396 := hp
    refine lv_if_eq (tgt := 26) hx hb dX11_where_4 (by decide) (fun _ => ?_) (fun c => absurd c (by decide))
    exact J_26 s.heap locs ls  (lv_sub hl [0, 1, 2, 3] rfl)  hI hS
theorem dX11_below_0 : decode cX11_below 0 = .ok (.iload_n 1, 1) := by decide +kernel
theorem dX11_below_1 : decode cX11_below 1 = .ok (.invokestatic 106, 3) := by decide +kernel
theorem dX11_below_4 : decode cX11_below 4 = .ok (.ifCond .eq 17, 3) := by decide +kernel
theorem dX11_below_7 : decode cX11_below 7 = .ok (.iload_n 2, 1) := by decide +kernel
theorem dX11_below_8 : decode cX11_below 8 = .ok (.invokestatic 211, 3) := by decide +kernel
theorem dX11_below_11 : decode cX11_below 11 = .ok (.ifCond .eq 10, 3) := by decide +kernel
theorem dX11_below_14 : decode cX11_below 14 = .ok (.iload_n 3, 1) := by decide +kernel
theorem dX11_below_15 : decode cX11_below 15 = .ok (.invokestatic 226, 3) := by decide +kernel
theorem dX11_below_18 : decode cX11_below 18 = .ok (.ifCond .ne 5, 3) := by decide +kernel
theorem dX11_below_21 : decode cX11_below 21 = .ok (.iconst (-1), 1) := by decide +kernel
theorem dX11_below_22 : decode cX11_below 22 = .ok (.ireturn, 1) := by decide +kernel
theorem dX11_below_23 : decode cX11_below 23 = .ok (.aload_n 0, 1) := by decide +kernel
theorem dX11_below_24 : decode cX11_below 24 = .ok (.getfield 51, 3) := by decide +kernel
theorem dX11_below_27 : decode cX11_below 27 = .ok (.iload_n 1, 1) := by decide +kernel
theorem dX11_below_28 : decode cX11_below 28 = .ok (.iload_n 2, 1) := by decide +kernel
theorem dX11_below_29 : decode cX11_below 29 = .ok (.iload_n 2, 1) := by decide +kernel
theorem dX11_below_30 : decode cX11_below 30 = .ok (.iload_n 3, 1) := by decide +kernel
theorem dX11_below_31 : decode cX11_below 31 = .ok (.iadd, 1) := by decide +kernel
theorem dX11_below_32 : decode cX11_below 32 = .ok (.bipush 96, 2) := by decide +kernel
theorem dX11_below_34 : decode cX11_below 34 = .ok (.invokestatic 232, 3) := by decide +kernel
theorem dX11_below_37 : decode cX11_below 37 = .ok (.invokevirtual 237, 3) := by decide +kernel
theorem dX11_below_40 : decode cX11_below 40 = .ok (.ireturn, 1) := by decide +kernel
set_option maxHeartbeats 4000000 in
set_option maxRecDepth 100000 in
theorem c_X11_below (l : Launch) (E : Nat → ClassId) (D : va_G) (G : th_G) (h0 n : Nat) (hG0 : G h0 = some (15, n)) (x1 x2 x3 : Int32) : Met l yX11_below (tb (.code yX11_below cX11_below 4 (some .int))) (rm 6) (va_Pc [.ref h0, .int x1, .int x2, .int x3] (th_P E D G)) (QI E D G (fun r => True)) 0 0 (th_A G) := by
  refine Met.ofW (cc := cX11_below) (maxL := 4) (ret := (some .int)) (by decide) rfl ?_
  intro p e s m args below meth c s₁ B hml hv
  obtain ⟨hav, hI, hN, hK⟩ := hv
  have hx := B.exec
  have hb := B.bytes
  have hr := B.returns
  have hts := atoms_spec (ws := tb (.code yX11_below cX11_below 4 (some .int))) B.pre
  have hown : s.vm.findClass RX11 = some m.cls := findClass_of_methodNamed B.named
  have hlocks := B.notSynchronized
  have hS : va_S (th_A G) s.heap s.heap [] := va_S.rf
  have hl := lv_entry ([.ref h0, .int x1, .int x2, .int x3]) (n := 4) (Nat.le_of_ble_eq_true rfl)
  rw [show entryFrame m args 4 = entryFrame m ([.ref h0, .int x1, .int x2, .int x3] : List Value).toArray 4 from by rw [hav], lg_entry_eq]
  generalize (lg_sl ([.ref h0, .int x1, .int x2, .int x3]) ++ List.replicate (4 - (lg_sl ([.ref h0, .int x1, .int x2, .int x3])).length) Slot.unset).toArray = ls at hl ⊢
  have hl : lv_has ls 4 [(0, .ref h0), (1, .int x1), (2, .int x2), (3, .int x3)] := hl
  generalize hR : (headSpec (tb (.code yX11_below cX11_below 4 (some .int))) (rm 6)).room = R
  have hR := hR.symm
  generalize hQ : MQ below (QI E D G (fun r => True)) args s 0 0 (th_A G) = QF
  have hQ := hQ.symm
  have J_21 : ∀ (H : Heap) (locs : List Loc) (ls : Array Slot) , lv_has ls 4 [(0, .ref h0), (1, .int x1), (2, .int x2), (3, .int x3)] → th_I (okC E) D G [] H → va_S (th_A G) s.heap H locs → W p l e R s m args below meth c H locs 0 0 QF (F0 m 21 ls []) := by
    intro H locs ls  hl  hI hS
    refine lv_iconst (v := (-1)) hx hb dX11_below_21 (by decide) ?_
    have hpost : True := trivial
    rw [hQ]
    exact W.iret (v := (-1)) hx hb hr (fun t ht hW => ⟨⟨(-1), (), rfl, hpost, by rw [ht]; exact hI, hN.warm hW, va_K.moved hW.alike hK⟩, hS.F ht⟩) hS.2.2 dX11_below_22
  refine lv_iload_n hx hb dX11_below_0 rfl (lv_at hl 1 rfl) ?_
  refine th_cSs (As := [.int x1]) (rest := []) (n := 1) (d := 0) ⟨hx, hb, hml, hown, hts⟩ (c_X11_isCell l s.heap x1) wd_401 wd_402 wd_1 wd_403 (by decide +kernel) ⟨by rw [hR]; exact Nat.le_of_ble_eq_true rfl, by rw [hR]; exact Nat.le_of_ble_eq_true rfl⟩ hN hS rfl hl.1 rfl (Nat.le_of_ble_eq_true rfl) dX11_below_1 ⟨Nat.zero_le _, Nat.zero_le _⟩ (fun r361 locs hp hS => ?_)
  rcases hp with ⟨rfl, hp⟩ | ⟨rfl, hp⟩
  · skip
    try simp only [rg, not_and, Int.not_le] at hp
    have hp362 := hp
    refine lv_if_eq (tgt := 21) hx hb dX11_below_4 (by decide) (fun c => absurd c (by decide)) (fun _ => ?_)
    refine lv_iload_n hx hb dX11_below_7 rfl (lv_at hl 2 rfl) ?_
    refine th_cSs (As := [.int x2]) (rest := []) (n := 1) (d := 0) ⟨hx, hb, hml, hown, hts⟩ (c_X11_isHour l s.heap x2) wd_466 wd_467 wd_1 wd_468 (by decide +kernel) ⟨by rw [hR]; exact Nat.le_of_ble_eq_true rfl, by rw [hR]; exact Nat.le_of_ble_eq_true rfl⟩ hN hS rfl hl.1 rfl (Nat.le_of_ble_eq_true rfl) dX11_below_8 ⟨Nat.zero_le _, Nat.zero_le _⟩ (fun r363 locs hp hS => ?_)
    rcases hp with ⟨rfl, hp⟩ | ⟨rfl, hp⟩
    · skip
      try simp only [rg, not_and, Int.not_le] at hp
      have hp364 := hp
      refine lv_if_eq (tgt := 21) hx hb dX11_below_11 (by decide) (fun c => absurd c (by decide)) (fun _ => ?_)
      refine lv_iload_n hx hb dX11_below_14 rfl (lv_at hl 3 rfl) ?_
      refine th_cSs (As := [.int x3]) (rest := []) (n := 1) (d := 0) ⟨hx, hb, hml, hown, hts⟩ (c_X11_isMoment l s.heap x3) wd_826 wd_827 wd_1 wd_828 (by decide +kernel) ⟨by rw [hR]; exact Nat.le_of_ble_eq_true rfl, by rw [hR]; exact Nat.le_of_ble_eq_true rfl⟩ hN hS rfl hl.1 rfl (Nat.le_of_ble_eq_true rfl) dX11_below_15 ⟨Nat.zero_le _, Nat.zero_le _⟩ (fun r365 locs hp hS => ?_)
      rcases hp with ⟨rfl, hp⟩ | ⟨rfl, hp⟩
      · skip
        try simp only [rg, not_and, Int.not_le] at hp
        have hp366 := hp
        refine lv_if_ne (tgt := 23) hx hb dX11_below_18 (by decide) (fun _ => ?_) (fun c => absurd c (by decide))
        refine lv_aload_n hx hb dX11_below_23 rfl (lv_at hl 0 rfl) ?_
        obtain ⟨a367, a371, a373, a375, a377, a379, a381, a383, a385, a387, a389, w391, w394, w395, w396, w397, hO, hq368, ⟨m370, hq369⟩, hq372, hq374, hq376, hq378, hq380, hq382, hq384, hq386, hq388, hq390, ⟨k392, k393⟩⟩ := op_15 hI hG0 List.not_mem_nil
        have hI := th_I.weak (a := h0) hI
        refine th_get hx hb hts inT11 hown hK hO rfl 7 (by decide) (hts _ (tb_c wd_352)) rfl rfl dX11_below_24 ?_
        refine lv_iload_n hx hb dX11_below_27 rfl (lv_at hl 1 rfl) ?_
        refine lv_iload_n hx hb dX11_below_28 rfl (lv_at hl 2 rfl) ?_
        refine lv_iload_n hx hb dX11_below_29 rfl (lv_at hl 2 rfl) ?_
        refine lv_iload_n hx hb dX11_below_30 rfl (lv_at hl 3 rfl) ?_
        refine lv_iadd hx hb dX11_below_31 ?_
        refine lv_topi (fun v398 e399 => ?_)
        have tv398 : v398.toInt = x2.toInt + x3.toInt := iv_add rfl rfl e399 (by omega) (by omega)
        refine lv_bipush (v := 96) hx hb dX11_below_32 (by decide) ?_
        refine va_mmin hx hb (hml.trans hl.1.symm) hown (hts _ (tb_c wd_838)) (hts _ (tb_c wd_583)) (hts _ (tb_c wd_4)) (hts _ (tb_c wd_584)) (by rw [hR]; exact Nat.le_of_ble_eq_true rfl) (by rw [hR]; exact Nat.le_of_ble_eq_true rfl) (Nat.zero_le _) (Nat.zero_le _) dX11_below_34 ?_
        refine lv_topi (fun v400 e401 => ?_)
        have tv400 := iv_min e401
        rw [show (96 : Int32).toInt = 96 from by decide] at tv400
        have hI := th_I.close hI hG0 hO (ok_15 hq368 ⟨_, hq369⟩ hq372 hq374 hq376 hq378 hq380 hq382 hq384 hq386 hq388 hq390 ⟨by omega, by omega⟩)
        refine th_cVi (As := [.int x1, .int x2, .int v400]) (rest := []) (n := 3) (d := 5) ⟨hx, hb, hml, hown, hts⟩ (c_X9_downstream l E D G a381 hq382 x1 x2 v400) wd_839 wd_840 wd_841 wd_8 wd_842 (by decide +kernel) ⟨by rw [hR]; exact Nat.le_of_ble_eq_true rfl, by rw [hR]; exact Nat.le_of_ble_eq_true rfl⟩ hI hN hK hS (rc_10 hI hq382 List.not_mem_nil) rfl rfl hl.1 rfl (Nat.le_of_ble_eq_true rfl) dX11_below_37 ⟨Nat.zero_le _, Nat.zero_le _⟩ (fun r402 H locs hp hI hS => ?_)
        have hpost : True := trivial
        rw [hQ]
        exact W.iret (v := r402) hx hb hr (fun t ht hW => ⟨⟨r402, (), rfl, hpost, by rw [ht]; exact hI, hN.warm hW, va_K.moved hW.alike hK⟩, hS.F ht⟩) hS.2.2 dX11_below_40
      · skip
        try simp only [rg, not_and, Int.not_le] at hp
        have hp403 := hp
        refine lv_if_ne (tgt := 23) hx hb dX11_below_18 (by decide) (fun c => absurd c (by decide)) (fun _ => ?_)
        exact J_21 s.heap locs ls  (lv_sub hl [0, 1, 2, 3] rfl)  hI hS
    · skip
      try simp only [rg, not_and, Int.not_le] at hp
      have hp404 := hp
      refine lv_if_eq (tgt := 21) hx hb dX11_below_11 (by decide) (fun _ => ?_) (fun c => absurd c (by decide))
      exact J_21 s.heap locs ls  (lv_sub hl [0, 1, 2, 3] rfl)  hI hS
  · skip
    try simp only [rg, not_and, Int.not_le] at hp
    have hp405 := hp
    refine lv_if_eq (tgt := 21) hx hb dX11_below_4 (by decide) (fun _ => ?_) (fun c => absurd c (by decide))
    exact J_21 s.heap locs ls  (lv_sub hl [0, 1, 2, 3] rfl)  hI hS
theorem dX11_sources_0 : decode cX11_sources 0 = .ok (.iload_n 1, 1) := by decide +kernel
theorem dX11_sources_1 : decode cX11_sources 1 = .ok (.invokestatic 240, 3) := by decide +kernel
theorem dX11_sources_4 : decode cX11_sources 4 = .ok (.ifCond .eq 22, 3) := by decide +kernel
theorem dX11_sources_7 : decode cX11_sources 7 = .ok (.iload_n 2, 1) := by decide +kernel
theorem dX11_sources_8 : decode cX11_sources 8 = .ok (.invokestatic 211, 3) := by decide +kernel
theorem dX11_sources_11 : decode cX11_sources 11 = .ok (.ifCond .eq 15, 3) := by decide +kernel
theorem dX11_sources_14 : decode cX11_sources 14 = .ok (.iload_n 3, 1) := by decide +kernel
theorem dX11_sources_15 : decode cX11_sources 15 = .ok (.invokestatic 211, 3) := by decide +kernel
theorem dX11_sources_18 : decode cX11_sources 18 = .ok (.ifCond .eq 8, 3) := by decide +kernel
theorem dX11_sources_21 : decode cX11_sources 21 = .ok (.iload_n 3, 1) := by decide +kernel
theorem dX11_sources_22 : decode cX11_sources 22 = .ok (.iload_n 2, 1) := by decide +kernel
theorem dX11_sources_23 : decode cX11_sources 23 = .ok (.if_icmp .le 5, 3) := by decide +kernel
theorem dX11_sources_26 : decode cX11_sources 26 = .ok (.iconst (-1), 1) := by decide +kernel
theorem dX11_sources_27 : decode cX11_sources 27 = .ok (.ireturn, 1) := by decide +kernel
theorem dX11_sources_28 : decode cX11_sources 28 = .ok (.aload_n 0, 1) := by decide +kernel
theorem dX11_sources_29 : decode cX11_sources 29 = .ok (.getfield 51, 3) := by decide +kernel
theorem dX11_sources_32 : decode cX11_sources 32 = .ok (.iload_n 1, 1) := by decide +kernel
theorem dX11_sources_33 : decode cX11_sources 33 = .ok (.iload_n 2, 1) := by decide +kernel
theorem dX11_sources_34 : decode cX11_sources 34 = .ok (.iload_n 3, 1) := by decide +kernel
theorem dX11_sources_35 : decode cX11_sources 35 = .ok (.invokevirtual 243, 3) := by decide +kernel
theorem dX11_sources_38 : decode cX11_sources 38 = .ok (.ireturn, 1) := by decide +kernel
set_option maxHeartbeats 4000000 in
set_option maxRecDepth 100000 in
theorem c_X11_sources (l : Launch) (E : Nat → ClassId) (D : va_G) (G : th_G) (h0 n : Nat) (hG0 : G h0 = some (15, n)) (x1 x2 x3 : Int32) : Met l yX11_sources (tb (.code yX11_sources cX11_sources 4 (some .int))) (rm 6) (va_Pc [.ref h0, .int x1, .int x2, .int x3] (th_P E D G)) (QI E D G (fun r => True)) 0 0 (th_A G) := by
  refine Met.ofW (cc := cX11_sources) (maxL := 4) (ret := (some .int)) (by decide) rfl ?_
  intro p e s m args below meth c s₁ B hml hv
  obtain ⟨hav, hI, hN, hK⟩ := hv
  have hx := B.exec
  have hb := B.bytes
  have hr := B.returns
  have hts := atoms_spec (ws := tb (.code yX11_sources cX11_sources 4 (some .int))) B.pre
  have hown : s.vm.findClass RX11 = some m.cls := findClass_of_methodNamed B.named
  have hlocks := B.notSynchronized
  have hS : va_S (th_A G) s.heap s.heap [] := va_S.rf
  have hl := lv_entry ([.ref h0, .int x1, .int x2, .int x3]) (n := 4) (Nat.le_of_ble_eq_true rfl)
  rw [show entryFrame m args 4 = entryFrame m ([.ref h0, .int x1, .int x2, .int x3] : List Value).toArray 4 from by rw [hav], lg_entry_eq]
  generalize (lg_sl ([.ref h0, .int x1, .int x2, .int x3]) ++ List.replicate (4 - (lg_sl ([.ref h0, .int x1, .int x2, .int x3])).length) Slot.unset).toArray = ls at hl ⊢
  have hl : lv_has ls 4 [(0, .ref h0), (1, .int x1), (2, .int x2), (3, .int x3)] := hl
  generalize hR : (headSpec (tb (.code yX11_sources cX11_sources 4 (some .int))) (rm 6)).room = R
  have hR := hR.symm
  generalize hQ : MQ below (QI E D G (fun r => True)) args s 0 0 (th_A G) = QF
  have hQ := hQ.symm
  have J_26 : ∀ (H : Heap) (locs : List Loc) (ls : Array Slot) , lv_has ls 4 [(0, .ref h0), (1, .int x1), (2, .int x2), (3, .int x3)] → th_I (okC E) D G [] H → va_S (th_A G) s.heap H locs → W p l e R s m args below meth c H locs 0 0 QF (F0 m 26 ls []) := by
    intro H locs ls  hl  hI hS
    refine lv_iconst (v := (-1)) hx hb dX11_sources_26 (by decide) ?_
    have hpost : True := trivial
    rw [hQ]
    exact W.iret (v := (-1)) hx hb hr (fun t ht hW => ⟨⟨(-1), (), rfl, hpost, by rw [ht]; exact hI, hN.warm hW, va_K.moved hW.alike hK⟩, hS.F ht⟩) hS.2.2 dX11_sources_27
  refine lv_iload_n hx hb dX11_sources_0 rfl (lv_at hl 1 rfl) ?_
  refine th_cSs (As := [.int x1]) (rest := []) (n := 1) (d := 0) ⟨hx, hb, hml, hown, hts⟩ (c_X11_isPlace l s.heap x1) wd_847 wd_848 wd_1 wd_849 (by decide +kernel) ⟨by rw [hR]; exact Nat.le_of_ble_eq_true rfl, by rw [hR]; exact Nat.le_of_ble_eq_true rfl⟩ hN hS rfl hl.1 rfl (Nat.le_of_ble_eq_true rfl) dX11_sources_1 ⟨Nat.zero_le _, Nat.zero_le _⟩ (fun r353 locs hp hS => ?_)
  rcases hp with ⟨rfl, hp⟩ | ⟨rfl, hp⟩
  · skip
    try simp only [rg, not_and, Int.not_le] at hp
    have hp354 := hp
    refine lv_if_eq (tgt := 26) hx hb dX11_sources_4 (by decide) (fun c => absurd c (by decide)) (fun _ => ?_)
    refine lv_iload_n hx hb dX11_sources_7 rfl (lv_at hl 2 rfl) ?_
    refine th_cSs (As := [.int x2]) (rest := []) (n := 1) (d := 0) ⟨hx, hb, hml, hown, hts⟩ (c_X11_isHour l s.heap x2) wd_466 wd_467 wd_1 wd_468 (by decide +kernel) ⟨by rw [hR]; exact Nat.le_of_ble_eq_true rfl, by rw [hR]; exact Nat.le_of_ble_eq_true rfl⟩ hN hS rfl hl.1 rfl (Nat.le_of_ble_eq_true rfl) dX11_sources_8 ⟨Nat.zero_le _, Nat.zero_le _⟩ (fun r355 locs hp hS => ?_)
    rcases hp with ⟨rfl, hp⟩ | ⟨rfl, hp⟩
    · skip
      try simp only [rg, not_and, Int.not_le] at hp
      have hp356 := hp
      refine lv_if_eq (tgt := 26) hx hb dX11_sources_11 (by decide) (fun c => absurd c (by decide)) (fun _ => ?_)
      refine lv_iload_n hx hb dX11_sources_14 rfl (lv_at hl 3 rfl) ?_
      refine th_cSs (As := [.int x3]) (rest := []) (n := 1) (d := 0) ⟨hx, hb, hml, hown, hts⟩ (c_X11_isHour l s.heap x3) wd_466 wd_467 wd_1 wd_468 (by decide +kernel) ⟨by rw [hR]; exact Nat.le_of_ble_eq_true rfl, by rw [hR]; exact Nat.le_of_ble_eq_true rfl⟩ hN hS rfl hl.1 rfl (Nat.le_of_ble_eq_true rfl) dX11_sources_15 ⟨Nat.zero_le _, Nat.zero_le _⟩ (fun r357 locs hp hS => ?_)
      rcases hp with ⟨rfl, hp⟩ | ⟨rfl, hp⟩
      · skip
        try simp only [rg, not_and, Int.not_le] at hp
        have hp358 := hp
        refine lv_if_eq (tgt := 26) hx hb dX11_sources_18 (by decide) (fun c => absurd c (by decide)) (fun _ => ?_)
        refine lv_iload_n hx hb dX11_sources_21 rfl (lv_at hl 3 rfl) ?_
        refine lv_iload_n hx hb dX11_sources_22 rfl (lv_at hl 2 rfl) ?_
        refine lv_icmp_le (tgt := 28) hx hb dX11_sources_23 (by decide) (fun c359 => ?_) (fun c359 => ?_)
        · skip
          have k360 := iv_le (X := x3.toInt) (Y := x2.toInt) rfl rfl c359
          refine lv_aload_n hx hb dX11_sources_28 rfl (lv_at hl 0 rfl) ?_
          obtain ⟨a361, a365, a367, a369, a371, a373, a375, a377, a379, a381, a383, w385, w388, w389, w390, w391, hO, hq362, ⟨m364, hq363⟩, hq366, hq368, hq370, hq372, hq374, hq376, hq378, hq380, hq382, hq384, ⟨k386, k387⟩⟩ := op_15 hI hG0 List.not_mem_nil
          have hI := th_I.weak (a := h0) hI
          refine th_get hx hb hts inT11 hown hK hO rfl 7 (by decide) (hts _ (tb_c wd_352)) rfl rfl dX11_sources_29 ?_
          refine lv_iload_n hx hb dX11_sources_32 rfl (lv_at hl 1 rfl) ?_
          refine lv_iload_n hx hb dX11_sources_33 rfl (lv_at hl 2 rfl) ?_
          refine lv_iload_n hx hb dX11_sources_34 rfl (lv_at hl 3 rfl) ?_
          have hI := th_I.close hI hG0 hO (ok_15 hq362 ⟨_, hq363⟩ hq366 hq368 hq370 hq372 hq374 hq376 hq378 hq380 hq382 hq384 ⟨by omega, by omega⟩)
          refine th_cVi (As := [.int x1, .int x2, .int x3]) (rest := []) (n := 3) (d := 5) ⟨hx, hb, hml, hown, hts⟩ (c_X9_traceBack l E D G a375 hq376 x1 x2 x3) wd_850 wd_851 wd_852 wd_8 wd_853 (by decide +kernel) ⟨by rw [hR]; exact Nat.le_of_ble_eq_true rfl, by rw [hR]; exact Nat.le_of_ble_eq_true rfl⟩ hI hN hK hS (rc_10 hI hq376 List.not_mem_nil) rfl rfl hl.1 rfl (Nat.le_of_ble_eq_true rfl) dX11_sources_35 ⟨Nat.zero_le _, Nat.zero_le _⟩ (fun r392 H locs hp hI hS => ?_)
          have hpost : True := trivial
          rw [hQ]
          exact W.iret (v := r392) hx hb hr (fun t ht hW => ⟨⟨r392, (), rfl, hpost, by rw [ht]; exact hI, hN.warm hW, va_K.moved hW.alike hK⟩, hS.F ht⟩) hS.2.2 dX11_sources_38
        · skip
          have k393 := iv_nle (X := x3.toInt) (Y := x2.toInt) rfl rfl c359
          exact J_26 s.heap locs ls  (lv_sub hl [0, 1, 2, 3] rfl)  hI hS
      · skip
        try simp only [rg, not_and, Int.not_le] at hp
        have hp394 := hp
        refine lv_if_eq (tgt := 26) hx hb dX11_sources_18 (by decide) (fun _ => ?_) (fun c => absurd c (by decide))
        exact J_26 s.heap locs ls  (lv_sub hl [0, 1, 2, 3] rfl)  hI hS
    · skip
      try simp only [rg, not_and, Int.not_le] at hp
      have hp395 := hp
      refine lv_if_eq (tgt := 26) hx hb dX11_sources_11 (by decide) (fun _ => ?_) (fun c => absurd c (by decide))
      exact J_26 s.heap locs ls  (lv_sub hl [0, 1, 2, 3] rfl)  hI hS
  · skip
    try simp only [rg, not_and, Int.not_le] at hp
    have hp396 := hp
    refine lv_if_eq (tgt := 26) hx hb dX11_sources_4 (by decide) (fun _ => ?_) (fun c => absurd c (by decide))
    exact J_26 s.heap locs ls  (lv_sub hl [0, 1, 2, 3] rfl)  hI hS
theorem dX11_boat_0 : decode cX11_boat 0 = .ok (.iload_n 1, 1) := by decide +kernel
theorem dX11_boat_1 : decode cX11_boat 1 = .ok (.invokestatic 106, 3) := by decide +kernel
theorem dX11_boat_4 : decode cX11_boat 4 = .ok (.ifCond .eq 10, 3) := by decide +kernel
theorem dX11_boat_7 : decode cX11_boat 7 = .ok (.iload_n 2, 1) := by decide +kernel
theorem dX11_boat_8 : decode cX11_boat 8 = .ok (.invokestatic 211, 3) := by decide +kernel
theorem dX11_boat_11 : decode cX11_boat 11 = .ok (.ifCond .ne 9, 3) := by decide +kernel
theorem dX11_boat_14 : decode cX11_boat 14 = .ok (.aload_n 0, 1) := by decide +kernel
theorem dX11_boat_15 : decode cX11_boat 15 = .ok (.iconst (-1), 1) := by decide +kernel
theorem dX11_boat_16 : decode cX11_boat 16 = .ok (.invokevirtual 113, 3) := by decide +kernel
theorem dX11_boat_19 : decode cX11_boat 19 = .ok (.ireturn, 1) := by decide +kernel
theorem dX11_boat_20 : decode cX11_boat 20 = .ok (.aload_n 0, 1) := by decide +kernel
theorem dX11_boat_21 : decode cX11_boat 21 = .ok (.getfield 12, 3) := by decide +kernel
theorem dX11_boat_24 : decode cX11_boat 24 = .ok (.getfield 246, 3) := by decide +kernel
theorem dX11_boat_27 : decode cX11_boat 27 = .ok (.invokevirtual 149, 3) := by decide +kernel
theorem dX11_boat_30 : decode cX11_boat 30 = .ok (.ifCond .eq 10, 3) := by decide +kernel
theorem dX11_boat_33 : decode cX11_boat 33 = .ok (.aload_n 0, 1) := by decide +kernel
theorem dX11_boat_34 : decode cX11_boat 34 = .ok (.bipush (-5), 2) := by decide +kernel
theorem dX11_boat_36 : decode cX11_boat 36 = .ok (.invokevirtual 113, 3) := by decide +kernel
theorem dX11_boat_39 : decode cX11_boat 39 = .ok (.ireturn, 1) := by decide +kernel
theorem dX11_boat_40 : decode cX11_boat 40 = .ok (.aload_n 0, 1) := by decide +kernel
theorem dX11_boat_41 : decode cX11_boat 41 = .ok (.aload_n 0, 1) := by decide +kernel
theorem dX11_boat_42 : decode cX11_boat 42 = .ok (.getfield 12, 3) := by decide +kernel
theorem dX11_boat_45 : decode cX11_boat 45 = .ok (.getfield 246, 3) := by decide +kernel
theorem dX11_boat_48 : decode cX11_boat 48 = .ok (.iload_n 1, 1) := by decide +kernel
theorem dX11_boat_49 : decode cX11_boat 49 = .ok (.iload_n 2, 1) := by decide +kernel
theorem dX11_boat_50 : decode cX11_boat 50 = .ok (.iconst 0, 1) := by decide +kernel
theorem dX11_boat_51 : decode cX11_boat 51 = .ok (.iconst (-1), 1) := by decide +kernel
theorem dX11_boat_52 : decode cX11_boat 52 = .ok (.invokevirtual 155, 3) := by decide +kernel
theorem dX11_boat_55 : decode cX11_boat 55 = .ok (.invokevirtual 127, 3) := by decide +kernel
theorem dX11_boat_58 : decode cX11_boat 58 = .ok (.ireturn, 1) := by decide +kernel
set_option maxHeartbeats 4000000 in
set_option maxRecDepth 100000 in
theorem c_X11_boat (l : Launch) (E : Nat → ClassId) (D : va_G) (G : th_G) (h0 n : Nat) (hG0 : G h0 = some (15, n)) (x1 x2 : Int32) : Met l yX11_boat (tb (.code yX11_boat cX11_boat 3 (some .int))) (rm 2) (va_Pc [.ref h0, .int x1, .int x2] (th_P E D G)) (QI E D G (fun r => True)) 0 0 (th_A G) := by
  refine Met.ofW (cc := cX11_boat) (maxL := 3) (ret := (some .int)) (by decide) rfl ?_
  intro p e s m args below meth c s₁ B hml hv
  obtain ⟨hav, hI, hN, hK⟩ := hv
  have hx := B.exec
  have hb := B.bytes
  have hr := B.returns
  have hts := atoms_spec (ws := tb (.code yX11_boat cX11_boat 3 (some .int))) B.pre
  have hown : s.vm.findClass RX11 = some m.cls := findClass_of_methodNamed B.named
  have hlocks := B.notSynchronized
  have hS : va_S (th_A G) s.heap s.heap [] := va_S.rf
  have hl := lv_entry ([.ref h0, .int x1, .int x2]) (n := 3) (Nat.le_of_ble_eq_true rfl)
  rw [show entryFrame m args 3 = entryFrame m ([.ref h0, .int x1, .int x2] : List Value).toArray 3 from by rw [hav], lg_entry_eq]
  generalize (lg_sl ([.ref h0, .int x1, .int x2]) ++ List.replicate (3 - (lg_sl ([.ref h0, .int x1, .int x2])).length) Slot.unset).toArray = ls at hl ⊢
  have hl : lv_has ls 3 [(0, .ref h0), (1, .int x1), (2, .int x2)] := hl
  generalize hR : (headSpec (tb (.code yX11_boat cX11_boat 3 (some .int))) (rm 2)).room = R
  have hR := hR.symm
  generalize hQ : MQ below (QI E D G (fun r => True)) args s 0 0 (th_A G) = QF
  have hQ := hQ.symm
  have J_14 : ∀ (H : Heap) (locs : List Loc) (ls : Array Slot) , lv_has ls 3 [(0, .ref h0), (1, .int x1), (2, .int x2)] → th_I (okC E) D G [] H → va_S (th_A G) s.heap H locs → W p l e R s m args below meth c H locs 0 0 QF (F0 m 14 ls []) := by
    intro H locs ls  hl  hI hS
    refine lv_aload_n hx hb dX11_boat_14 rfl (lv_at hl 0 rfl) ?_
    refine lv_iconst (v := (-1)) hx hb dX11_boat_15 (by decide) ?_
    refine th_cVi (As := [.int (-1)]) (rest := []) (n := 1) (d := 0) ⟨hx, hb, hml, hown, hts⟩ (c_X11_refuse l E D G h0 (n) hG0 (-1)) wd_407 wd_409 wp_0 wd_1 wd_410 (by decide +kernel) ⟨by rw [hR]; exact Nat.le_of_ble_eq_true rfl, by rw [hR]; exact Nat.le_of_ble_eq_true rfl⟩ hI hN hK hS (rc_15 hI hG0 List.not_mem_nil) rfl rfl hl.1 rfl (Nat.le_of_ble_eq_true rfl) dX11_boat_16 ⟨Nat.zero_le _, Nat.zero_le _⟩ (fun r1072 H locs hp hI hS => ?_)
    have hp := hp.symm
    subst hp
    have hpost : True := trivial
    rw [hQ]
    exact W.iret (v := (-1)) hx hb hr (fun t ht hW => ⟨⟨(-1), (), rfl, hpost, by rw [ht]; exact hI, hN.warm hW, va_K.moved hW.alike hK⟩, hS.F ht⟩) hS.2.2 dX11_boat_19
  refine lv_iload_n hx hb dX11_boat_0 rfl (lv_at hl 1 rfl) ?_
  refine th_cSs (As := [.int x1]) (rest := []) (n := 1) (d := 0) ⟨hx, hb, hml, hown, hts⟩ (c_X11_isCell l s.heap x1) wd_401 wd_402 wd_1 wd_403 (by decide +kernel) ⟨by rw [hR]; exact Nat.le_of_ble_eq_true rfl, by rw [hR]; exact Nat.le_of_ble_eq_true rfl⟩ hN hS rfl hl.1 rfl (Nat.le_of_ble_eq_true rfl) dX11_boat_1 ⟨Nat.zero_le _, Nat.zero_le _⟩ (fun r1073 locs hp hS => ?_)
  rcases hp with ⟨rfl, hp⟩ | ⟨rfl, hp⟩
  · skip
    try simp only [rg, not_and, Int.not_le] at hp
    have hp1074 := hp
    refine lv_if_eq (tgt := 14) hx hb dX11_boat_4 (by decide) (fun c => absurd c (by decide)) (fun _ => ?_)
    refine lv_iload_n hx hb dX11_boat_7 rfl (lv_at hl 2 rfl) ?_
    refine th_cSs (As := [.int x2]) (rest := []) (n := 1) (d := 0) ⟨hx, hb, hml, hown, hts⟩ (c_X11_isHour l s.heap x2) wd_466 wd_467 wd_1 wd_468 (by decide +kernel) ⟨by rw [hR]; exact Nat.le_of_ble_eq_true rfl, by rw [hR]; exact Nat.le_of_ble_eq_true rfl⟩ hN hS rfl hl.1 rfl (Nat.le_of_ble_eq_true rfl) dX11_boat_8 ⟨Nat.zero_le _, Nat.zero_le _⟩ (fun r1075 locs hp hS => ?_)
    rcases hp with ⟨rfl, hp⟩ | ⟨rfl, hp⟩
    · skip
      try simp only [rg, not_and, Int.not_le] at hp
      have hp1076 := hp
      refine lv_if_ne (tgt := 20) hx hb dX11_boat_11 (by decide) (fun _ => ?_) (fun c => absurd c (by decide))
      refine lv_aload_n hx hb dX11_boat_20 rfl (lv_at hl 0 rfl) ?_
      obtain ⟨a1077, a1081, a1083, a1085, a1087, a1089, a1091, a1093, a1095, a1097, a1099, w1101, w1104, w1105, w1106, w1107, hO, hq1078, ⟨m1080, hq1079⟩, hq1082, hq1084, hq1086, hq1088, hq1090, hq1092, hq1094, hq1096, hq1098, hq1100, ⟨k1102, k1103⟩⟩ := op_15 hI hG0 List.not_mem_nil
      have hI := th_I.weak (a := h0) hI
      refine th_get hx hb hts inT11 hown hK hO rfl 0 (by decide) (hts _ (tb_c wd_345)) rfl rfl dX11_boat_21 ?_
      have hI := th_I.close hI hG0 hO (ok_15 hq1078 ⟨_, hq1079⟩ hq1082 hq1084 hq1086 hq1088 hq1090 hq1092 hq1094 hq1096 hq1098 hq1100 ⟨by omega, by omega⟩)
      obtain ⟨a1108, a1110, a1112, a1114, a1116, a1118, a1120, a1122, a1124, a1126, w1128, w1131, w1132, w1133, hO, hq1109, hq1111, hq1113, hq1115, hq1117, hq1119, hq1121, hq1123, hq1125, hq1127, ⟨k1129, k1130⟩⟩ := op_6 hI hq1078 List.not_mem_nil
      have hI := th_I.weak (a := a1077) hI
      refine th_getN hx hb hts inT6 hown hK hN hO rfl 4 (by decide) wn_68 rfl rfl dX11_boat_24 ?_
      have hI := th_I.close hI hq1078 hO (ok_6 hq1109 hq1111 hq1113 hq1115 hq1117 hq1119 hq1121 hq1123 hq1125 hq1127 ⟨by omega, by omega⟩)
      obtain ⟨a1135, w1137, hO, hq1136, ⟨k1138, k1139⟩, k1140⟩ := op_4 hI hq1117 List.not_mem_nil
      have hI := th_I.weak (a := a1116) hI
      have k1141 : (nI 6).toInt = ((6 : Nat) : Int) := nI_toInt (by omega)
      refine th_cVs (As := []) (rest := []) (n := 0) (d := 0) ⟨hx, hb, hml, hown, hts⟩ (c_X4_isFull l E D s.heap a1116 6 a1135 w1137 hO (by omega) (by omega) (by omega)) wd_481 wd_482 wd_483 wd_3 wd_484 (by decide +kernel) ⟨by rw [hR]; exact Nat.le_of_ble_eq_true rfl, by rw [hR]; exact Nat.le_of_ble_eq_true rfl⟩ hN hK hS ⟨_, hO⟩ rfl rfl hl.1 rfl (Nat.le_of_ble_eq_true rfl) dX11_boat_27 ⟨Nat.zero_le _, Nat.zero_le _⟩ (fun r1134 locs hp hS => ?_)
      rcases hp with ⟨rfl, hp⟩ | ⟨rfl, hp⟩
      · skip
        try simp only [rg, not_and, Int.not_le] at hp
        have hp1142 := hp
        refine lv_if_eq (tgt := 40) hx hb dX11_boat_30 (by decide) (fun c => absurd c (by decide)) (fun _ => ?_)
        refine lv_aload_n hx hb dX11_boat_33 rfl (lv_at hl 0 rfl) ?_
        refine lv_bipush (v := (-5)) hx hb dX11_boat_34 (by decide) ?_
        have hI := th_I.close hI hq1117 hO (ok_4 hq1136 ⟨by omega, by omega⟩ (by omega))
        refine th_cVi (As := [.int (-5)]) (rest := []) (n := 1) (d := 0) ⟨hx, hb, hml, hown, hts⟩ (c_X11_refuse l E D G h0 (n) hG0 (-5)) wd_407 wd_409 wp_0 wd_1 wd_410 (by decide +kernel) ⟨by rw [hR]; exact Nat.le_of_ble_eq_true rfl, by rw [hR]; exact Nat.le_of_ble_eq_true rfl⟩ hI hN hK hS (rc_15 hI hG0 List.not_mem_nil) rfl rfl hl.1 rfl (Nat.le_of_ble_eq_true rfl) dX11_boat_36 ⟨Nat.zero_le _, Nat.zero_le _⟩ (fun r1143 H locs hp hI hS => ?_)
        have hp := hp.symm
        subst hp
        have hpost : True := trivial
        rw [hQ]
        exact W.iret (v := (-5)) hx hb hr (fun t ht hW => ⟨⟨(-5), (), rfl, hpost, by rw [ht]; exact hI, hN.warm hW, va_K.moved hW.alike hK⟩, hS.F ht⟩) hS.2.2 dX11_boat_39
      · skip
        have hp1144 := hp
        refine lv_if_eq (tgt := 40) hx hb dX11_boat_30 (by decide) (fun _ => ?_) (fun c => absurd c (by decide))
        refine lv_aload_n hx hb dX11_boat_40 rfl (lv_at hl 0 rfl) ?_
        refine lv_aload_n hx hb dX11_boat_41 rfl (lv_at hl 0 rfl) ?_
        have hI := th_I.close hI hq1117 hO (ok_4 hq1136 ⟨by omega, by omega⟩ (by omega))
        obtain ⟨a1145, a1149, a1151, a1153, a1155, a1157, a1159, a1161, a1163, a1165, a1167, w1169, w1172, w1173, w1174, w1175, hO, hq1146, ⟨m1148, hq1147⟩, hq1150, hq1152, hq1154, hq1156, hq1158, hq1160, hq1162, hq1164, hq1166, hq1168, ⟨k1170, k1171⟩⟩ := op_15 hI hG0 List.not_mem_nil
        have hI := th_I.weak (a := h0) hI
        refine th_get hx hb hts inT11 hown hK hO rfl 0 (by decide) (hts _ (tb_c wd_345)) rfl rfl dX11_boat_42 ?_
        have hI := th_I.close hI hG0 hO (ok_15 hq1146 ⟨_, hq1147⟩ hq1150 hq1152 hq1154 hq1156 hq1158 hq1160 hq1162 hq1164 hq1166 hq1168 ⟨by omega, by omega⟩)
        obtain ⟨a1176, a1178, a1180, a1182, a1184, a1186, a1188, a1190, a1192, a1194, w1196, w1199, w1200, w1201, hO, hq1177, hq1179, hq1181, hq1183, hq1185, hq1187, hq1189, hq1191, hq1193, hq1195, ⟨k1197, k1198⟩⟩ := op_6 hI hq1146 List.not_mem_nil
        have hI := th_I.weak (a := a1145) hI
        refine th_getN hx hb hts inT6 hown hK hN hO rfl 4 (by decide) wn_68 rfl rfl dX11_boat_45 ?_
        refine lv_iload_n hx hb dX11_boat_48 rfl (lv_at hl 1 rfl) ?_
        refine lv_iload_n hx hb dX11_boat_49 rfl (lv_at hl 2 rfl) ?_
        refine lv_iconst (v := 0) hx hb dX11_boat_50 (by decide) ?_
        refine lv_iconst (v := (-1)) hx hb dX11_boat_51 (by decide) ?_
        have hI := th_I.close hI hq1146 hO (ok_6 hq1177 hq1179 hq1181 hq1183 hq1185 hq1187 hq1189 hq1191 hq1193 hq1195 ⟨by omega, by omega⟩)
        refine th_cVi (As := [.int x1, .int x2, .int 0, .int (-1)]) (rest := [.ref h0]) (n := 4) (d := 1) ⟨hx, hb, hml, hown, hts⟩ (c_X4_put l E D G a1184 (6) hq1185 x1 x2 0 (-1)) wd_485 wd_486 wd_487 wd_3 wd_488 (by decide +kernel) ⟨by rw [hR]; exact Nat.le_of_ble_eq_true rfl, by rw [hR]; exact Nat.le_of_ble_eq_true rfl⟩ hI hN hK hS (rc_4 hI hq1185 List.not_mem_nil) rfl rfl hl.1 rfl (Nat.le_of_ble_eq_true rfl) dX11_boat_52 ⟨Nat.zero_le _, Nat.zero_le _⟩ (fun r1202 H locs hp hI hS => ?_)
        refine th_cVi (As := [.int r1202]) (rest := []) (n := 1) (d := 0) ⟨hx, hb, hml, hown, hts⟩ (c_X11_accept l E D G h0 (n) hG0 r1202) wd_447 wd_449 wp_3 wd_1 wd_450 (by decide +kernel) ⟨by rw [hR]; exact Nat.le_of_ble_eq_true rfl, by rw [hR]; exact Nat.le_of_ble_eq_true rfl⟩ hI hN hK hS (rc_15 hI hG0 List.not_mem_nil) rfl rfl hl.1 rfl (Nat.le_of_ble_eq_true rfl) dX11_boat_55 ⟨Nat.zero_le _, Nat.zero_le _⟩ (fun r1203 H locs hp hI hS => ?_)
        have hp := hp.symm
        subst hp
        have hpost : True := trivial
        rw [hQ]
        exact W.iret (v := r1202) hx hb hr (fun t ht hW => ⟨⟨r1202, (), rfl, hpost, by rw [ht]; exact hI, hN.warm hW, va_K.moved hW.alike hK⟩, hS.F ht⟩) hS.2.2 dX11_boat_58
    · skip
      try simp only [rg, not_and, Int.not_le] at hp
      have hp1204 := hp
      refine lv_if_ne (tgt := 20) hx hb dX11_boat_11 (by decide) (fun c => absurd c (by decide)) (fun _ => ?_)
      exact J_14 s.heap locs ls  (lv_sub hl [0, 1, 2] rfl)  hI hS
  · skip
    try simp only [rg, not_and, Int.not_le] at hp
    have hp1205 := hp
    refine lv_if_eq (tgt := 14) hx hb dX11_boat_4 (by decide) (fun _ => ?_) (fun c => absurd c (by decide))
    exact J_14 s.heap locs ls  (lv_sub hl [0, 1, 2] rfl)  hI hS
theorem dX11_moor_0 : decode cX11_moor 0 = .ok (.iload_n 2, 1) := by decide +kernel
theorem dX11_moor_1 : decode cX11_moor 1 = .ok (.iload_n 3, 1) := by decide +kernel
theorem dX11_moor_2 : decode cX11_moor 2 = .ok (.invokestatic 134, 3) := by decide +kernel
theorem dX11_moor_5 : decode cX11_moor 5 = .ok (.ifCond .ne 9, 3) := by decide +kernel
theorem dX11_moor_8 : decode cX11_moor 8 = .ok (.aload_n 0, 1) := by decide +kernel
theorem dX11_moor_9 : decode cX11_moor 9 = .ok (.iconst (-1), 1) := by decide +kernel
theorem dX11_moor_10 : decode cX11_moor 10 = .ok (.invokevirtual 113, 3) := by decide +kernel
theorem dX11_moor_13 : decode cX11_moor 13 = .ok (.ireturn, 1) := by decide +kernel
theorem dX11_moor_14 : decode cX11_moor 14 = .ok (.aload_n 0, 1) := by decide +kernel
theorem dX11_moor_15 : decode cX11_moor 15 = .ok (.getfield 12, 3) := by decide +kernel
theorem dX11_moor_18 : decode cX11_moor 18 = .ok (.getfield 246, 3) := by decide +kernel
theorem dX11_moor_21 : decode cX11_moor 21 = .ok (.iload_n 1, 1) := by decide +kernel
theorem dX11_moor_22 : decode cX11_moor 22 = .ok (.invokevirtual 159, 3) := by decide +kernel
theorem dX11_moor_25 : decode cX11_moor 25 = .ok (.ifCond .ne 10, 3) := by decide +kernel
theorem dX11_moor_28 : decode cX11_moor 28 = .ok (.aload_n 0, 1) := by decide +kernel
theorem dX11_moor_29 : decode cX11_moor 29 = .ok (.bipush (-2), 2) := by decide +kernel
theorem dX11_moor_31 : decode cX11_moor 31 = .ok (.invokevirtual 113, 3) := by decide +kernel
theorem dX11_moor_34 : decode cX11_moor 34 = .ok (.ireturn, 1) := by decide +kernel
theorem dX11_moor_35 : decode cX11_moor 35 = .ok (.aload_n 0, 1) := by decide +kernel
theorem dX11_moor_36 : decode cX11_moor 36 = .ok (.getfield 12, 3) := by decide +kernel
theorem dX11_moor_39 : decode cX11_moor 39 = .ok (.getfield 246, 3) := by decide +kernel
theorem dX11_moor_42 : decode cX11_moor 42 = .ok (.iload_n 1, 1) := by decide +kernel
theorem dX11_moor_43 : decode cX11_moor 43 = .ok (.iconst 2, 1) := by decide +kernel
theorem dX11_moor_44 : decode cX11_moor 44 = .ok (.iload_n 2, 1) := by decide +kernel
theorem dX11_moor_45 : decode cX11_moor 45 = .ok (.invokevirtual 249, 3) := by decide +kernel
theorem dX11_moor_48 : decode cX11_moor 48 = .ok (.aload_n 0, 1) := by decide +kernel
theorem dX11_moor_49 : decode cX11_moor 49 = .ok (.getfield 12, 3) := by decide +kernel
theorem dX11_moor_52 : decode cX11_moor 52 = .ok (.getfield 246, 3) := by decide +kernel
theorem dX11_moor_55 : decode cX11_moor 55 = .ok (.iload_n 1, 1) := by decide +kernel
theorem dX11_moor_56 : decode cX11_moor 56 = .ok (.iconst 3, 1) := by decide +kernel
theorem dX11_moor_57 : decode cX11_moor 57 = .ok (.iload_n 3, 1) := by decide +kernel
theorem dX11_moor_58 : decode cX11_moor 58 = .ok (.invokevirtual 249, 3) := by decide +kernel
theorem dX11_moor_61 : decode cX11_moor 61 = .ok (.aload_n 0, 1) := by decide +kernel
theorem dX11_moor_62 : decode cX11_moor 62 = .ok (.iconst 0, 1) := by decide +kernel
theorem dX11_moor_63 : decode cX11_moor 63 = .ok (.invokevirtual 127, 3) := by decide +kernel
theorem dX11_moor_66 : decode cX11_moor 66 = .ok (.ireturn, 1) := by decide +kernel
set_option maxHeartbeats 4000000 in
set_option maxRecDepth 100000 in
theorem c_X11_moor (l : Launch) (E : Nat → ClassId) (D : va_G) (G : th_G) (h0 n : Nat) (hG0 : G h0 = some (15, n)) (x1 x2 x3 : Int32) : Met l yX11_moor (tb (.code yX11_moor cX11_moor 4 (some .int))) (rm 2) (va_Pc [.ref h0, .int x1, .int x2, .int x3] (th_P E D G)) (QI E D G (fun r => True)) 0 0 (th_A G) := by
  refine Met.ofW (cc := cX11_moor) (maxL := 4) (ret := (some .int)) (by decide) rfl ?_
  intro p e s m args below meth c s₁ B hml hv
  obtain ⟨hav, hI, hN, hK⟩ := hv
  have hx := B.exec
  have hb := B.bytes
  have hr := B.returns
  have hts := atoms_spec (ws := tb (.code yX11_moor cX11_moor 4 (some .int))) B.pre
  have hown : s.vm.findClass RX11 = some m.cls := findClass_of_methodNamed B.named
  have hlocks := B.notSynchronized
  have hS : va_S (th_A G) s.heap s.heap [] := va_S.rf
  have hl := lv_entry ([.ref h0, .int x1, .int x2, .int x3]) (n := 4) (Nat.le_of_ble_eq_true rfl)
  rw [show entryFrame m args 4 = entryFrame m ([.ref h0, .int x1, .int x2, .int x3] : List Value).toArray 4 from by rw [hav], lg_entry_eq]
  generalize (lg_sl ([.ref h0, .int x1, .int x2, .int x3]) ++ List.replicate (4 - (lg_sl ([.ref h0, .int x1, .int x2, .int x3])).length) Slot.unset).toArray = ls at hl ⊢
  have hl : lv_has ls 4 [(0, .ref h0), (1, .int x1), (2, .int x2), (3, .int x3)] := hl
  generalize hR : (headSpec (tb (.code yX11_moor cX11_moor 4 (some .int))) (rm 2)).room = R
  have hR := hR.symm
  generalize hQ : MQ below (QI E D G (fun r => True)) args s 0 0 (th_A G) = QF
  have hQ := hQ.symm
  refine lv_iload_n hx hb dX11_moor_0 rfl (lv_at hl 2 rfl) ?_
  refine lv_iload_n hx hb dX11_moor_1 rfl (lv_at hl 3 rfl) ?_
  refine th_cSs (As := [.int x2, .int x3]) (rest := []) (n := 2) (d := 1) ⟨hx, hb, hml, hown, hts⟩ (c_X11_isSpan l s.heap x2 x3) wd_463 wd_464 wd_1 wd_465 (by decide +kernel) ⟨by rw [hR]; exact Nat.le_of_ble_eq_true rfl, by rw [hR]; exact Nat.le_of_ble_eq_true rfl⟩ hN hS rfl hl.1 rfl (Nat.le_of_ble_eq_true rfl) dX11_moor_2 ⟨Nat.zero_le _, Nat.zero_le _⟩ (fun r1 locs hp hS => ?_)
  rcases hp with ⟨rfl, hp⟩ | ⟨rfl, hp⟩
  · skip
    try simp only [rg, not_and, Int.not_le] at hp
    have hp2 := hp
    refine lv_if_ne (tgt := 14) hx hb dX11_moor_5 (by decide) (fun _ => ?_) (fun c => absurd c (by decide))
    refine lv_aload_n hx hb dX11_moor_14 rfl (lv_at hl 0 rfl) ?_
    obtain ⟨a3, a7, a9, a11, a13, a15, a17, a19, a21, a23, a25, w27, w30, w31, w32, w33, hO, hq4, ⟨m6, hq5⟩, hq8, hq10, hq12, hq14, hq16, hq18, hq20, hq22, hq24, hq26, ⟨k28, k29⟩⟩ := op_15 hI hG0 List.not_mem_nil
    have hI := th_I.weak (a := h0) hI
    refine th_get hx hb hts inT11 hown hK hO rfl 0 (by decide) (hts _ (tb_c wd_345)) rfl rfl dX11_moor_15 ?_
    have hI := th_I.close hI hG0 hO (ok_15 hq4 ⟨_, hq5⟩ hq8 hq10 hq12 hq14 hq16 hq18 hq20 hq22 hq24 hq26 ⟨by omega, by omega⟩)
    obtain ⟨a34, a36, a38, a40, a42, a44, a46, a48, a50, a52, w54, w57, w58, w59, hO, hq35, hq37, hq39, hq41, hq43, hq45, hq47, hq49, hq51, hq53, ⟨k55, k56⟩⟩ := op_6 hI hq4 List.not_mem_nil
    have hI := th_I.weak (a := a3) hI
    refine th_getN hx hb hts inT6 hown hK hN hO rfl 4 (by decide) wn_68 rfl rfl dX11_moor_18 ?_
    refine lv_iload_n hx hb dX11_moor_21 rfl (lv_at hl 1 rfl) ?_
    have hI := th_I.close hI hq4 hO (ok_6 hq35 hq37 hq39 hq41 hq43 hq45 hq47 hq49 hq51 hq53 ⟨by omega, by omega⟩)
    obtain ⟨a61, w63, hO, hq62, ⟨k64, k65⟩, k66⟩ := op_4 hI hq43 List.not_mem_nil
    have hI := th_I.weak (a := a42) hI
    have k67 : (nI 6).toInt = ((6 : Nat) : Int) := nI_toInt (by omega)
    refine th_cVs (As := [.int x1]) (rest := []) (n := 1) (d := 0) ⟨hx, hb, hml, hown, hts⟩ (c_X4_has l E D s.heap a42 6 a61 w63 hO (by omega) (by omega) (by omega) x1) wd_494 wd_495 wd_496 wd_3 wd_497 (by decide +kernel) ⟨by rw [hR]; exact Nat.le_of_ble_eq_true rfl, by rw [hR]; exact Nat.le_of_ble_eq_true rfl⟩ hN hK hS ⟨_, hO⟩ rfl rfl hl.1 rfl (Nat.le_of_ble_eq_true rfl) dX11_moor_22 ⟨Nat.zero_le _, Nat.zero_le _⟩ (fun r60 locs hp hS => ?_)
    rcases hp with ⟨rfl, hp⟩ | ⟨rfl, hp⟩
    · skip
      try simp only [rg, not_and, Int.not_le] at hp
      have hp68 := hp
      refine lv_if_ne (tgt := 35) hx hb dX11_moor_25 (by decide) (fun _ => ?_) (fun c => absurd c (by decide))
      refine lv_aload_n hx hb dX11_moor_35 rfl (lv_at hl 0 rfl) ?_
      have hI := th_I.close hI hq43 hO (ok_4 hq62 ⟨by omega, by omega⟩ (by omega))
      obtain ⟨a69, a73, a75, a77, a79, a81, a83, a85, a87, a89, a91, w93, w96, w97, w98, w99, hO, hq70, ⟨m72, hq71⟩, hq74, hq76, hq78, hq80, hq82, hq84, hq86, hq88, hq90, hq92, ⟨k94, k95⟩⟩ := op_15 hI hG0 List.not_mem_nil
      have hI := th_I.weak (a := h0) hI
      refine th_get hx hb hts inT11 hown hK hO rfl 0 (by decide) (hts _ (tb_c wd_345)) rfl rfl dX11_moor_36 ?_
      have hI := th_I.close hI hG0 hO (ok_15 hq70 ⟨_, hq71⟩ hq74 hq76 hq78 hq80 hq82 hq84 hq86 hq88 hq90 hq92 ⟨by omega, by omega⟩)
      obtain ⟨a100, a102, a104, a106, a108, a110, a112, a114, a116, a118, w120, w123, w124, w125, hO, hq101, hq103, hq105, hq107, hq109, hq111, hq113, hq115, hq117, hq119, ⟨k121, k122⟩⟩ := op_6 hI hq70 List.not_mem_nil
      have hI := th_I.weak (a := a69) hI
      refine th_getN hx hb hts inT6 hown hK hN hO rfl 4 (by decide) wn_68 rfl rfl dX11_moor_39 ?_
      refine lv_iload_n hx hb dX11_moor_42 rfl (lv_at hl 1 rfl) ?_
      refine lv_iconst (v := 2) hx hb dX11_moor_43 (by decide) ?_
      refine lv_iload_n hx hb dX11_moor_44 rfl (lv_at hl 2 rfl) ?_
      have hI := th_I.close hI hq70 hO (ok_6 hq101 hq103 hq105 hq107 hq109 hq111 hq113 hq115 hq117 hq119 ⟨by omega, by omega⟩)
      refine th_cVv (As := [.int x1, .int 2, .int x2]) (rest := []) (n := 3) (d := 1) ⟨hx, hb, hml, hown, hts⟩ (c_X4_change l E D G a108 (6) hq109 x1 2 x2) wd_864 wd_865 wd_866 wd_3 wd_867 (by decide +kernel) ⟨by rw [hR]; exact Nat.le_of_ble_eq_true rfl, by rw [hR]; exact Nat.le_of_ble_eq_true rfl⟩ hI hN hK hS (rc_4 hI hq109 List.not_mem_nil) rfl rfl hl.1 rfl (Nat.le_of_ble_eq_true rfl) dX11_moor_45 ⟨Nat.zero_le _, Nat.zero_le _⟩ (fun H locs hI hS => ?_)
      refine lv_aload_n hx hb dX11_moor_48 rfl (lv_at hl 0 rfl) ?_
      obtain ⟨a127, a131, a133, a135, a137, a139, a141, a143, a145, a147, a149, w151, w154, w155, w156, w157, hO, hq128, ⟨m130, hq129⟩, hq132, hq134, hq136, hq138, hq140, hq142, hq144, hq146, hq148, hq150, ⟨k152, k153⟩⟩ := op_15 hI hG0 List.not_mem_nil
      have hI := th_I.weak (a := h0) hI
      refine th_get hx hb hts inT11 hown hK hO rfl 0 (by decide) (hts _ (tb_c wd_345)) rfl rfl dX11_moor_49 ?_
      have hI := th_I.close hI hG0 hO (ok_15 hq128 ⟨_, hq129⟩ hq132 hq134 hq136 hq138 hq140 hq142 hq144 hq146 hq148 hq150 ⟨by omega, by omega⟩)
      obtain ⟨a158, a160, a162, a164, a166, a168, a170, a172, a174, a176, w178, w181, w182, w183, hO, hq159, hq161, hq163, hq165, hq167, hq169, hq171, hq173, hq175, hq177, ⟨k179, k180⟩⟩ := op_6 hI hq128 List.not_mem_nil
      have hI := th_I.weak (a := a127) hI
      refine th_getN hx hb hts inT6 hown hK hN hO rfl 4 (by decide) wn_68 rfl rfl dX11_moor_52 ?_
      refine lv_iload_n hx hb dX11_moor_55 rfl (lv_at hl 1 rfl) ?_
      refine lv_iconst (v := 3) hx hb dX11_moor_56 (by decide) ?_
      refine lv_iload_n hx hb dX11_moor_57 rfl (lv_at hl 3 rfl) ?_
      have hI := th_I.close hI hq128 hO (ok_6 hq159 hq161 hq163 hq165 hq167 hq169 hq171 hq173 hq175 hq177 ⟨by omega, by omega⟩)
      refine th_cVv (As := [.int x1, .int 3, .int x3]) (rest := []) (n := 3) (d := 1) ⟨hx, hb, hml, hown, hts⟩ (c_X4_change l E D G a166 (6) hq167 x1 3 x3) wd_864 wd_865 wd_866 wd_3 wd_867 (by decide +kernel) ⟨by rw [hR]; exact Nat.le_of_ble_eq_true rfl, by rw [hR]; exact Nat.le_of_ble_eq_true rfl⟩ hI hN hK hS (rc_4 hI hq167 List.not_mem_nil) rfl rfl hl.1 rfl (Nat.le_of_ble_eq_true rfl) dX11_moor_58 ⟨Nat.zero_le _, Nat.zero_le _⟩ (fun H locs hI hS => ?_)
      refine lv_aload_n hx hb dX11_moor_61 rfl (lv_at hl 0 rfl) ?_
      refine lv_iconst (v := 0) hx hb dX11_moor_62 (by decide) ?_
      refine th_cVi (As := [.int 0]) (rest := []) (n := 1) (d := 0) ⟨hx, hb, hml, hown, hts⟩ (c_X11_accept l E D G h0 (n) hG0 0) wd_447 wd_449 wp_3 wd_1 wd_450 (by decide +kernel) ⟨by rw [hR]; exact Nat.le_of_ble_eq_true rfl, by rw [hR]; exact Nat.le_of_ble_eq_true rfl⟩ hI hN hK hS (rc_15 hI hG0 List.not_mem_nil) rfl rfl hl.1 rfl (Nat.le_of_ble_eq_true rfl) dX11_moor_63 ⟨Nat.zero_le _, Nat.zero_le _⟩ (fun r185 H locs hp hI hS => ?_)
      have hp := hp.symm
      subst hp
      have hpost : True := trivial
      rw [hQ]
      exact W.iret (v := 0) hx hb hr (fun t ht hW => ⟨⟨0, (), rfl, hpost, by rw [ht]; exact hI, hN.warm hW, va_K.moved hW.alike hK⟩, hS.F ht⟩) hS.2.2 dX11_moor_66
    · skip
      have hp186 := hp
      refine lv_if_ne (tgt := 35) hx hb dX11_moor_25 (by decide) (fun c => absurd c (by decide)) (fun _ => ?_)
      refine lv_aload_n hx hb dX11_moor_28 rfl (lv_at hl 0 rfl) ?_
      refine lv_bipush (v := (-2)) hx hb dX11_moor_29 (by decide) ?_
      have hI := th_I.close hI hq43 hO (ok_4 hq62 ⟨by omega, by omega⟩ (by omega))
      refine th_cVi (As := [.int (-2)]) (rest := []) (n := 1) (d := 0) ⟨hx, hb, hml, hown, hts⟩ (c_X11_refuse l E D G h0 (n) hG0 (-2)) wd_407 wd_409 wp_0 wd_1 wd_410 (by decide +kernel) ⟨by rw [hR]; exact Nat.le_of_ble_eq_true rfl, by rw [hR]; exact Nat.le_of_ble_eq_true rfl⟩ hI hN hK hS (rc_15 hI hG0 List.not_mem_nil) rfl rfl hl.1 rfl (Nat.le_of_ble_eq_true rfl) dX11_moor_31 ⟨Nat.zero_le _, Nat.zero_le _⟩ (fun r187 H locs hp hI hS => ?_)
      have hp := hp.symm
      subst hp
      have hpost : True := trivial
      rw [hQ]
      exact W.iret (v := (-2)) hx hb hr (fun t ht hW => ⟨⟨(-2), (), rfl, hpost, by rw [ht]; exact hI, hN.warm hW, va_K.moved hW.alike hK⟩, hS.F ht⟩) hS.2.2 dX11_moor_34
  · skip
    try simp only [rg, not_and, Int.not_le] at hp
    have hp188 := hp
    refine lv_if_ne (tgt := 14) hx hb dX11_moor_5 (by decide) (fun c => absurd c (by decide)) (fun _ => ?_)
    refine lv_aload_n hx hb dX11_moor_8 rfl (lv_at hl 0 rfl) ?_
    refine lv_iconst (v := (-1)) hx hb dX11_moor_9 (by decide) ?_
    refine th_cVi (As := [.int (-1)]) (rest := []) (n := 1) (d := 0) ⟨hx, hb, hml, hown, hts⟩ (c_X11_refuse l E D G h0 (n) hG0 (-1)) wd_407 wd_409 wp_0 wd_1 wd_410 (by decide +kernel) ⟨by rw [hR]; exact Nat.le_of_ble_eq_true rfl, by rw [hR]; exact Nat.le_of_ble_eq_true rfl⟩ hI hN hK hS (rc_15 hI hG0 List.not_mem_nil) rfl rfl hl.1 rfl (Nat.le_of_ble_eq_true rfl) dX11_moor_10 ⟨Nat.zero_le _, Nat.zero_le _⟩ (fun r189 H locs hp hI hS => ?_)
    have hp := hp.symm
    subst hp
    have hpost : True := trivial
    rw [hQ]
    exact W.iret (v := (-1)) hx hb hr (fun t ht hW => ⟨⟨(-1), (), rfl, hpost, by rw [ht]; exact hI, hN.warm hW, va_K.moved hW.alike hK⟩, hS.F ht⟩) hS.2.2 dX11_moor_13
theorem dX11_sails_0 : decode cX11_sails 0 = .ok (.aload_n 0, 1) := by decide +kernel
theorem dX11_sails_1 : decode cX11_sails 1 = .ok (.getfield 12, 3) := by decide +kernel
theorem dX11_sails_4 : decode cX11_sails 4 = .ok (.getfield 246, 3) := by decide +kernel
theorem dX11_sails_7 : decode cX11_sails 7 = .ok (.iload_n 1, 1) := by decide +kernel
theorem dX11_sails_8 : decode cX11_sails 8 = .ok (.invokevirtual 159, 3) := by decide +kernel
theorem dX11_sails_11 : decode cX11_sails 11 = .ok (.ifCond .eq 33, 3) := by decide +kernel
theorem dX11_sails_14 : decode cX11_sails 14 = .ok (.iload_n 2, 1) := by decide +kernel
theorem dX11_sails_15 : decode cX11_sails 15 = .ok (.invokestatic 211, 3) := by decide +kernel
theorem dX11_sails_18 : decode cX11_sails 18 = .ok (.ifCond .eq 26, 3) := by decide +kernel
theorem dX11_sails_21 : decode cX11_sails 21 = .ok (.iload_n 2, 1) := by decide +kernel
theorem dX11_sails_22 : decode cX11_sails 22 = .ok (.aload_n 0, 1) := by decide +kernel
theorem dX11_sails_23 : decode cX11_sails 23 = .ok (.getfield 12, 3) := by decide +kernel
theorem dX11_sails_26 : decode cX11_sails 26 = .ok (.getfield 246, 3) := by decide +kernel
theorem dX11_sails_29 : decode cX11_sails 29 = .ok (.iload_n 1, 1) := by decide +kernel
theorem dX11_sails_30 : decode cX11_sails 30 = .ok (.iconst 1, 1) := by decide +kernel
theorem dX11_sails_31 : decode cX11_sails 31 = .ok (.invokevirtual 173, 3) := by decide +kernel
theorem dX11_sails_34 : decode cX11_sails 34 = .ok (.if_icmp .lt 10, 3) := by decide +kernel
theorem dX11_sails_37 : decode cX11_sails 37 = .ok (.iload_n 3, 1) := by decide +kernel
theorem dX11_sails_38 : decode cX11_sails 38 = .ok (.invokestatic 138, 3) := by decide +kernel
theorem dX11_sails_41 : decode cX11_sails 41 = .ok (.ifCond .ne 5, 3) := by decide +kernel
theorem dX11_sails_44 : decode cX11_sails 44 = .ok (.iconst (-1), 1) := by decide +kernel
theorem dX11_sails_45 : decode cX11_sails 45 = .ok (.ireturn, 1) := by decide +kernel
theorem dX11_sails_46 : decode cX11_sails 46 = .ok (.iload_n 3, 1) := by decide +kernel
theorem dX11_sails_47 : decode cX11_sails 47 = .ok (.ifCond .ne 15, 3) := by decide +kernel
theorem dX11_sails_50 : decode cX11_sails 50 = .ok (.aload_n 0, 1) := by decide +kernel
theorem dX11_sails_51 : decode cX11_sails 51 = .ok (.getfield 51, 3) := by decide +kernel
theorem dX11_sails_54 : decode cX11_sails 54 = .ok (.iload_n 1, 1) := by decide +kernel
theorem dX11_sails_55 : decode cX11_sails 55 = .ok (.iload_n 2, 1) := by decide +kernel
theorem dX11_sails_56 : decode cX11_sails 56 = .ok (.invokevirtual 253, 3) := by decide +kernel
theorem dX11_sails_59 : decode cX11_sails 59 = .ok (.goto 12, 3) := by decide +kernel
theorem dX11_sails_62 : decode cX11_sails 62 = .ok (.aload_n 0, 1) := by decide +kernel
theorem dX11_sails_63 : decode cX11_sails 63 = .ok (.getfield 51, 3) := by decide +kernel
theorem dX11_sails_66 : decode cX11_sails 66 = .ok (.iload_n 1, 1) := by decide +kernel
theorem dX11_sails_67 : decode cX11_sails 67 = .ok (.iload_n 2, 1) := by decide +kernel
theorem dX11_sails_68 : decode cX11_sails 68 = .ok (.invokevirtual 256, 3) := by decide +kernel
theorem dX11_sails_71 : decode cX11_sails 71 = .ok (.ireturn, 1) := by decide +kernel
set_option maxHeartbeats 4000000 in
set_option maxRecDepth 100000 in
theorem c_X11_sails (l : Launch) (E : Nat → ClassId) (D : va_G) (G : th_G) (h0 n : Nat) (hG0 : G h0 = some (15, n)) (x1 x2 x3 : Int32) : Met l yX11_sails (tb (.code yX11_sails cX11_sails 4 (some .int))) (rm 7) (va_Pc [.ref h0, .int x1, .int x2, .int x3] (th_P E D G)) (QI E D G (fun r => True)) 0 0 (th_A G) := by
  refine Met.ofW (cc := cX11_sails) (maxL := 4) (ret := (some .int)) (by decide) rfl ?_
  intro p e s m args below meth c s₁ B hml hv
  obtain ⟨hav, hI, hN, hK⟩ := hv
  have hx := B.exec
  have hb := B.bytes
  have hr := B.returns
  have hts := atoms_spec (ws := tb (.code yX11_sails cX11_sails 4 (some .int))) B.pre
  have hown : s.vm.findClass RX11 = some m.cls := findClass_of_methodNamed B.named
  have hlocks := B.notSynchronized
  have hS : va_S (th_A G) s.heap s.heap [] := va_S.rf
  have hl := lv_entry ([.ref h0, .int x1, .int x2, .int x3]) (n := 4) (Nat.le_of_ble_eq_true rfl)
  rw [show entryFrame m args 4 = entryFrame m ([.ref h0, .int x1, .int x2, .int x3] : List Value).toArray 4 from by rw [hav], lg_entry_eq]
  generalize (lg_sl ([.ref h0, .int x1, .int x2, .int x3]) ++ List.replicate (4 - (lg_sl ([.ref h0, .int x1, .int x2, .int x3])).length) Slot.unset).toArray = ls at hl ⊢
  have hl : lv_has ls 4 [(0, .ref h0), (1, .int x1), (2, .int x2), (3, .int x3)] := hl
  generalize hR : (headSpec (tb (.code yX11_sails cX11_sails 4 (some .int))) (rm 7)).room = R
  have hR := hR.symm
  generalize hQ : MQ below (QI E D G (fun r => True)) args s 0 0 (th_A G) = QF
  have hQ := hQ.symm
  have J_44 : ∀ (H : Heap) (locs : List Loc) (ls : Array Slot) , lv_has ls 4 [(0, .ref h0), (1, .int x1), (2, .int x2), (3, .int x3)] → th_I (okC E) D G [] H → va_S (th_A G) s.heap H locs → W p l e R s m args below meth c H locs 0 0 QF (F0 m 44 ls []) := by
    intro H locs ls  hl  hI hS
    refine lv_iconst (v := (-1)) hx hb dX11_sails_44 (by decide) ?_
    have hpost : True := trivial
    rw [hQ]
    exact W.iret (v := (-1)) hx hb hr (fun t ht hW => ⟨⟨(-1), (), rfl, hpost, by rw [ht]; exact hI, hN.warm hW, va_K.moved hW.alike hK⟩, hS.F ht⟩) hS.2.2 dX11_sails_45
  refine lv_aload_n hx hb dX11_sails_0 rfl (lv_at hl 0 rfl) ?_
  obtain ⟨a1625, a1629, a1631, a1633, a1635, a1637, a1639, a1641, a1643, a1645, a1647, w1649, w1652, w1653, w1654, w1655, hO, hq1626, ⟨m1628, hq1627⟩, hq1630, hq1632, hq1634, hq1636, hq1638, hq1640, hq1642, hq1644, hq1646, hq1648, ⟨k1650, k1651⟩⟩ := op_15 hI hG0 List.not_mem_nil
  have hI := th_I.weak (a := h0) hI
  refine th_get hx hb hts inT11 hown hK hO rfl 0 (by decide) (hts _ (tb_c wd_345)) rfl rfl dX11_sails_1 ?_
  have hI := th_I.close hI hG0 hO (ok_15 hq1626 ⟨_, hq1627⟩ hq1630 hq1632 hq1634 hq1636 hq1638 hq1640 hq1642 hq1644 hq1646 hq1648 ⟨by omega, by omega⟩)
  obtain ⟨a1656, a1658, a1660, a1662, a1664, a1666, a1668, a1670, a1672, a1674, w1676, w1679, w1680, w1681, hO, hq1657, hq1659, hq1661, hq1663, hq1665, hq1667, hq1669, hq1671, hq1673, hq1675, ⟨k1677, k1678⟩⟩ := op_6 hI hq1626 List.not_mem_nil
  have hI := th_I.weak (a := a1625) hI
  refine th_getN hx hb hts inT6 hown hK hN hO rfl 4 (by decide) wn_68 rfl rfl dX11_sails_4 ?_
  refine lv_iload_n hx hb dX11_sails_7 rfl (lv_at hl 1 rfl) ?_
  have hI := th_I.close hI hq1626 hO (ok_6 hq1657 hq1659 hq1661 hq1663 hq1665 hq1667 hq1669 hq1671 hq1673 hq1675 ⟨by omega, by omega⟩)
  obtain ⟨a1683, w1685, hO, hq1684, ⟨k1686, k1687⟩, k1688⟩ := op_4 hI hq1665 List.not_mem_nil
  have hI := th_I.weak (a := a1664) hI
  have k1689 : (nI 6).toInt = ((6 : Nat) : Int) := nI_toInt (by omega)
  refine th_cVs (As := [.int x1]) (rest := []) (n := 1) (d := 0) ⟨hx, hb, hml, hown, hts⟩ (c_X4_has l E D s.heap a1664 6 a1683 w1685 hO (by omega) (by omega) (by omega) x1) wd_494 wd_495 wd_496 wd_3 wd_497 (by decide +kernel) ⟨by rw [hR]; exact Nat.le_of_ble_eq_true rfl, by rw [hR]; exact Nat.le_of_ble_eq_true rfl⟩ hN hK hS ⟨_, hO⟩ rfl rfl hl.1 rfl (Nat.le_of_ble_eq_true rfl) dX11_sails_8 ⟨Nat.zero_le _, Nat.zero_le _⟩ (fun r1682 locs hp hS => ?_)
  rcases hp with ⟨rfl, hp⟩ | ⟨rfl, hp⟩
  · skip
    try simp only [rg, not_and, Int.not_le] at hp
    have hp1690 := hp
    refine lv_if_eq (tgt := 44) hx hb dX11_sails_11 (by decide) (fun c => absurd c (by decide)) (fun _ => ?_)
    refine lv_iload_n hx hb dX11_sails_14 rfl (lv_at hl 2 rfl) ?_
    refine th_cSs (As := [.int x2]) (rest := []) (n := 1) (d := 0) ⟨hx, hb, hml, hown, hts⟩ (c_X11_isHour l s.heap x2) wd_466 wd_467 wd_1 wd_468 (by decide +kernel) ⟨by rw [hR]; exact Nat.le_of_ble_eq_true rfl, by rw [hR]; exact Nat.le_of_ble_eq_true rfl⟩ hN hS rfl hl.1 rfl (Nat.le_of_ble_eq_true rfl) dX11_sails_15 ⟨Nat.zero_le _, Nat.zero_le _⟩ (fun r1691 locs hp hS => ?_)
    rcases hp with ⟨rfl, hp⟩ | ⟨rfl, hp⟩
    · skip
      try simp only [rg, not_and, Int.not_le] at hp
      have hp1692 := hp
      refine lv_if_eq (tgt := 44) hx hb dX11_sails_18 (by decide) (fun c => absurd c (by decide)) (fun _ => ?_)
      refine lv_iload_n hx hb dX11_sails_21 rfl (lv_at hl 2 rfl) ?_
      refine lv_aload_n hx hb dX11_sails_22 rfl (lv_at hl 0 rfl) ?_
      have hI := th_I.close hI hq1665 hO (ok_4 hq1684 ⟨by omega, by omega⟩ (by omega))
      obtain ⟨a1693, a1697, a1699, a1701, a1703, a1705, a1707, a1709, a1711, a1713, a1715, w1717, w1720, w1721, w1722, w1723, hO, hq1694, ⟨m1696, hq1695⟩, hq1698, hq1700, hq1702, hq1704, hq1706, hq1708, hq1710, hq1712, hq1714, hq1716, ⟨k1718, k1719⟩⟩ := op_15 hI hG0 List.not_mem_nil
      have hI := th_I.weak (a := h0) hI
      refine th_get hx hb hts inT11 hown hK hO rfl 0 (by decide) (hts _ (tb_c wd_345)) rfl rfl dX11_sails_23 ?_
      have hI := th_I.close hI hG0 hO (ok_15 hq1694 ⟨_, hq1695⟩ hq1698 hq1700 hq1702 hq1704 hq1706 hq1708 hq1710 hq1712 hq1714 hq1716 ⟨by omega, by omega⟩)
      obtain ⟨a1724, a1726, a1728, a1730, a1732, a1734, a1736, a1738, a1740, a1742, w1744, w1747, w1748, w1749, hO, hq1725, hq1727, hq1729, hq1731, hq1733, hq1735, hq1737, hq1739, hq1741, hq1743, ⟨k1745, k1746⟩⟩ := op_6 hI hq1694 List.not_mem_nil
      have hI := th_I.weak (a := a1693) hI
      refine th_getN hx hb hts inT6 hown hK hN hO rfl 4 (by decide) wn_68 rfl rfl dX11_sails_26 ?_
      refine lv_iload_n hx hb dX11_sails_29 rfl (lv_at hl 1 rfl) ?_
      refine lv_iconst (v := 1) hx hb dX11_sails_30 (by decide) ?_
      have hI := th_I.close hI hq1694 hO (ok_6 hq1725 hq1727 hq1729 hq1731 hq1733 hq1735 hq1737 hq1739 hq1741 hq1743 ⟨by omega, by omega⟩)
      refine th_cVi (As := [.int x1, .int 1]) (rest := [.int x2]) (n := 2) (d := 0) ⟨hx, hb, hml, hown, hts⟩ (c_X4_at l E D G a1732 (6) hq1733 x1 1) wd_518 wd_519 wd_520 wd_3 wd_521 (by decide +kernel) ⟨by rw [hR]; exact Nat.le_of_ble_eq_true rfl, by rw [hR]; exact Nat.le_of_ble_eq_true rfl⟩ hI hN hK hS (rc_4 hI hq1733 List.not_mem_nil) rfl rfl hl.1 rfl (Nat.le_of_ble_eq_true rfl) dX11_sails_31 ⟨Nat.zero_le _, Nat.zero_le _⟩ (fun r1750 H locs hp hI hS => ?_)
      have k1751 := iv_lo r1750
      have k1752 := iv_hi r1750
      refine lv_icmp_lt (tgt := 44) hx hb dX11_sails_34 (by decide) (fun c1753 => ?_) (fun c1753 => ?_)
      · skip
        have k1754 := iv_lt (X := x2.toInt) (Y := r1750.toInt) rfl rfl c1753
        exact J_44 H locs ls  (lv_sub hl [0, 1, 2, 3] rfl)  hI hS
      · skip
        have k1755 := iv_nlt (X := x2.toInt) (Y := r1750.toInt) rfl rfl c1753
        refine lv_iload_n hx hb dX11_sails_37 rfl (lv_at hl 3 rfl) ?_
        refine th_cSs (As := [.int x3]) (rest := []) (n := 1) (d := 0) ⟨hx, hb, hml, hown, hts⟩ (c_X11_isFlag l H x3) wd_469 wd_470 wd_1 wd_471 (by decide +kernel) ⟨by rw [hR]; exact Nat.le_of_ble_eq_true rfl, by rw [hR]; exact Nat.le_of_ble_eq_true rfl⟩ hN hS rfl hl.1 rfl (Nat.le_of_ble_eq_true rfl) dX11_sails_38 ⟨Nat.zero_le _, Nat.zero_le _⟩ (fun r1756 locs hp hS => ?_)
        rcases hp with ⟨rfl, hp⟩ | ⟨rfl, hp⟩
        · skip
          try simp only [rg, not_and, Int.not_le] at hp
          have hp1757 := hp
          refine lv_if_ne (tgt := 46) hx hb dX11_sails_41 (by decide) (fun _ => ?_) (fun c => absurd c (by decide))
          refine lv_iload_n hx hb dX11_sails_46 rfl (lv_at hl 3 rfl) ?_
          refine lv_if_ne (tgt := 62) hx hb dX11_sails_47 (by decide) (fun c1758 => ?_) (fun c1758 => ?_)
          · skip
            have k1759 := iv_ne (X := x3.toInt) (Y := (0)) rfl (by decide) c1758
            refine lv_aload_n hx hb dX11_sails_62 rfl (lv_at hl 0 rfl) ?_
            obtain ⟨a1760, a1764, a1766, a1768, a1770, a1772, a1774, a1776, a1778, a1780, a1782, w1784, w1787, w1788, w1789, w1790, hO, hq1761, ⟨m1763, hq1762⟩, hq1765, hq1767, hq1769, hq1771, hq1773, hq1775, hq1777, hq1779, hq1781, hq1783, ⟨k1785, k1786⟩⟩ := op_15 hI hG0 List.not_mem_nil
            have hI := th_I.weak (a := h0) hI
            refine th_get hx hb hts inT11 hown hK hO rfl 7 (by decide) (hts _ (tb_c wd_352)) rfl rfl dX11_sails_63 ?_
            refine lv_iload_n hx hb dX11_sails_66 rfl (lv_at hl 1 rfl) ?_
            refine lv_iload_n hx hb dX11_sails_67 rfl (lv_at hl 2 rfl) ?_
            have hI := th_I.close hI hG0 hO (ok_15 hq1761 ⟨_, hq1762⟩ hq1765 hq1767 hq1769 hq1771 hq1773 hq1775 hq1777 hq1779 hq1781 hq1783 ⟨by omega, by omega⟩)
            refine th_cVi (As := [.int x1, .int x2]) (rest := []) (n := 2) (d := 6) ⟨hx, hb, hml, hown, hts⟩ (c_X9_tollTill l E D G a1774 hq1775 x1 x2) wd_885 wd_886 wd_887 wd_8 wd_888 (by decide +kernel) ⟨by rw [hR]; exact Nat.le_of_ble_eq_true rfl, by rw [hR]; exact Nat.le_of_ble_eq_true rfl⟩ hI hN hK hS (rc_10 hI hq1775 List.not_mem_nil) rfl rfl hl.1 rfl (Nat.le_of_ble_eq_true rfl) dX11_sails_68 ⟨Nat.zero_le _, Nat.zero_le _⟩ (fun r1791 H locs hp hI hS => ?_)
            have hpost : True := trivial
            rw [hQ]
            exact W.iret (v := r1791) hx hb hr (fun t ht hW => ⟨⟨r1791, (), rfl, hpost, by rw [ht]; exact hI, hN.warm hW, va_K.moved hW.alike hK⟩, hS.F ht⟩) hS.2.2 dX11_sails_71
          · skip
            have k1792 := iv_eq (X := x3.toInt) (Y := (0)) rfl (by decide) c1758
            refine lv_aload_n hx hb dX11_sails_50 rfl (lv_at hl 0 rfl) ?_
            obtain ⟨a1793, a1797, a1799, a1801, a1803, a1805, a1807, a1809, a1811, a1813, a1815, w1817, w1820, w1821, w1822, w1823, hO, hq1794, ⟨m1796, hq1795⟩, hq1798, hq1800, hq1802, hq1804, hq1806, hq1808, hq1810, hq1812, hq1814, hq1816, ⟨k1818, k1819⟩⟩ := op_15 hI hG0 List.not_mem_nil
            have hI := th_I.weak (a := h0) hI
            refine th_get hx hb hts inT11 hown hK hO rfl 7 (by decide) (hts _ (tb_c wd_352)) rfl rfl dX11_sails_51 ?_
            refine lv_iload_n hx hb dX11_sails_54 rfl (lv_at hl 1 rfl) ?_
            refine lv_iload_n hx hb dX11_sails_55 rfl (lv_at hl 2 rfl) ?_
            have hI := th_I.close hI hG0 hO (ok_15 hq1794 ⟨_, hq1795⟩ hq1798 hq1800 hq1802 hq1804 hq1806 hq1808 hq1810 hq1812 hq1814 hq1816 ⟨by omega, by omega⟩)
            refine th_cVi (As := [.int x1, .int x2]) (rest := []) (n := 2) (d := 6) ⟨hx, hb, hml, hown, hts⟩ (c_X9_boatAt l E D G a1807 hq1808 x1 x2) wd_872 wd_873 wd_874 wd_8 wd_875 (by decide +kernel) ⟨by rw [hR]; exact Nat.le_of_ble_eq_true rfl, by rw [hR]; exact Nat.le_of_ble_eq_true rfl⟩ hI hN hK hS (rc_10 hI hq1808 List.not_mem_nil) rfl rfl hl.1 rfl (Nat.le_of_ble_eq_true rfl) dX11_sails_56 ⟨Nat.zero_le _, Nat.zero_le _⟩ (fun r1824 H locs hp hI hS => ?_)
            refine lv_goto (tgt := 71) hx hb dX11_sails_59 (by decide) ?_
            have hpost : True := trivial
            rw [hQ]
            exact W.iret (v := r1824) hx hb hr (fun t ht hW => ⟨⟨r1824, (), rfl, hpost, by rw [ht]; exact hI, hN.warm hW, va_K.moved hW.alike hK⟩, hS.F ht⟩) hS.2.2 dX11_sails_71
        · skip
          try simp only [rg, not_and, Int.not_le] at hp
          have hp1825 := hp
          refine lv_if_ne (tgt := 46) hx hb dX11_sails_41 (by decide) (fun c => absurd c (by decide)) (fun _ => ?_)
          exact J_44 H locs ls  (lv_sub hl [0, 1, 2, 3] rfl)  hI hS
    · skip
      try simp only [rg, not_and, Int.not_le] at hp
      have hp1826 := hp
      refine lv_if_eq (tgt := 44) hx hb dX11_sails_18 (by decide) (fun _ => ?_) (fun c => absurd c (by decide))
      have hI := th_I.close hI hq1665 hO (ok_4 hq1684 ⟨by omega, by omega⟩ (by omega))
      exact J_44 s.heap locs ls  (lv_sub hl [0, 1, 2, 3] rfl)  hI hS
  · skip
    have hp1827 := hp
    refine lv_if_eq (tgt := 44) hx hb dX11_sails_11 (by decide) (fun _ => ?_) (fun c => absurd c (by decide))
    have hI := th_I.close hI hq1665 hO (ok_4 hq1684 ⟨by omega, by omega⟩ (by omega))
    exact J_44 s.heap locs ls  (lv_sub hl [0, 1, 2, 3] rfl)  hI hS
theorem dX11_meet_0 : decode cX11_meet 0 = .ok (.aload_n 0, 1) := by decide +kernel
theorem dX11_meet_1 : decode cX11_meet 1 = .ok (.getfield 12, 3) := by decide +kernel
theorem dX11_meet_4 : decode cX11_meet 4 = .ok (.getfield 246, 3) := by decide +kernel
theorem dX11_meet_7 : decode cX11_meet 7 = .ok (.iload_n 1, 1) := by decide +kernel
theorem dX11_meet_8 : decode cX11_meet 8 = .ok (.invokevirtual 159, 3) := by decide +kernel
theorem dX11_meet_11 : decode cX11_meet 11 = .ok (.ifCond .eq 29, 3) := by decide +kernel
theorem dX11_meet_14 : decode cX11_meet 14 = .ok (.aload_n 0, 1) := by decide +kernel
theorem dX11_meet_15 : decode cX11_meet 15 = .ok (.getfield 12, 3) := by decide +kernel
theorem dX11_meet_18 : decode cX11_meet 18 = .ok (.getfield 246, 3) := by decide +kernel
theorem dX11_meet_21 : decode cX11_meet 21 = .ok (.iload_n 2, 1) := by decide +kernel
theorem dX11_meet_22 : decode cX11_meet 22 = .ok (.invokevirtual 159, 3) := by decide +kernel
theorem dX11_meet_25 : decode cX11_meet 25 = .ok (.ifCond .eq 15, 3) := by decide +kernel
theorem dX11_meet_28 : decode cX11_meet 28 = .ok (.iload_n 1, 1) := by decide +kernel
theorem dX11_meet_29 : decode cX11_meet 29 = .ok (.iload_n 2, 1) := by decide +kernel
theorem dX11_meet_30 : decode cX11_meet 30 = .ok (.if_icmp .eq 10, 3) := by decide +kernel
theorem dX11_meet_33 : decode cX11_meet 33 = .ok (.iload_n 3, 1) := by decide +kernel
theorem dX11_meet_34 : decode cX11_meet 34 = .ok (.invokestatic 138, 3) := by decide +kernel
theorem dX11_meet_37 : decode cX11_meet 37 = .ok (.ifCond .ne 5, 3) := by decide +kernel
theorem dX11_meet_40 : decode cX11_meet 40 = .ok (.iconst (-1), 1) := by decide +kernel
theorem dX11_meet_41 : decode cX11_meet 41 = .ok (.ireturn, 1) := by decide +kernel
theorem dX11_meet_42 : decode cX11_meet 42 = .ok (.aload_n 0, 1) := by decide +kernel
theorem dX11_meet_43 : decode cX11_meet 43 = .ok (.getfield 51, 3) := by decide +kernel
theorem dX11_meet_46 : decode cX11_meet 46 = .ok (.iload_n 1, 1) := by decide +kernel
theorem dX11_meet_47 : decode cX11_meet 47 = .ok (.iload_n 2, 1) := by decide +kernel
theorem dX11_meet_48 : decode cX11_meet 48 = .ok (.invokevirtual 259, 3) := by decide +kernel
theorem dX11_meet_51 : decode cX11_meet 51 = .ok (.istore 4, 2) := by decide +kernel
theorem dX11_meet_53 : decode cX11_meet 53 = .ok (.iload 4, 2) := by decide +kernel
theorem dX11_meet_55 : decode cX11_meet 55 = .ok (.iconst (-1), 1) := by decide +kernel
theorem dX11_meet_56 : decode cX11_meet 56 = .ok (.if_icmp .eq 7, 3) := by decide +kernel
theorem dX11_meet_59 : decode cX11_meet 59 = .ok (.iload_n 3, 1) := by decide +kernel
theorem dX11_meet_60 : decode cX11_meet 60 = .ok (.ifCond .ne 8, 3) := by decide +kernel
theorem dX11_meet_63 : decode cX11_meet 63 = .ok (.iload 4, 2) := by decide +kernel
theorem dX11_meet_65 : decode cX11_meet 65 = .ok (.goto 13, 3) := by decide +kernel
theorem dX11_meet_68 : decode cX11_meet 68 = .ok (.aload_n 0, 1) := by decide +kernel
theorem dX11_meet_69 : decode cX11_meet 69 = .ok (.getfield 51, 3) := by decide +kernel
theorem dX11_meet_72 : decode cX11_meet 72 = .ok (.iload_n 1, 1) := by decide +kernel
theorem dX11_meet_73 : decode cX11_meet 73 = .ok (.iload 4, 2) := by decide +kernel
theorem dX11_meet_75 : decode cX11_meet 75 = .ok (.invokevirtual 253, 3) := by decide +kernel
theorem dX11_meet_78 : decode cX11_meet 78 = .ok (.ireturn, 1) := by decide +kernel
set_option maxHeartbeats 4000000 in
set_option maxRecDepth 100000 in
theorem c_X11_meet (l : Launch) (E : Nat → ClassId) (D : va_G) (G : th_G) (h0 n : Nat) (hG0 : G h0 = some (15, n)) (x1 x2 x3 : Int32) : Met l yX11_meet (tb (.code yX11_meet cX11_meet 5 (some .int))) (rm 8) (va_Pc [.ref h0, .int x1, .int x2, .int x3] (th_P E D G)) (QI E D G (fun r => True)) 0 0 (th_A G) := by
  refine Met.ofW (cc := cX11_meet) (maxL := 5) (ret := (some .int)) (by decide) rfl ?_
  intro p e s m args below meth c s₁ B hml hv
  obtain ⟨hav, hI, hN, hK⟩ := hv
  have hx := B.exec
  have hb := B.bytes
  have hr := B.returns
  have hts := atoms_spec (ws := tb (.code yX11_meet cX11_meet 5 (some .int))) B.pre
  have hown : s.vm.findClass RX11 = some m.cls := findClass_of_methodNamed B.named
  have hlocks := B.notSynchronized
  have hS : va_S (th_A G) s.heap s.heap [] := va_S.rf
  have hl := lv_entry ([.ref h0, .int x1, .int x2, .int x3]) (n := 5) (Nat.le_of_ble_eq_true rfl)
  rw [show entryFrame m args 5 = entryFrame m ([.ref h0, .int x1, .int x2, .int x3] : List Value).toArray 5 from by rw [hav], lg_entry_eq]
  generalize (lg_sl ([.ref h0, .int x1, .int x2, .int x3]) ++ List.replicate (5 - (lg_sl ([.ref h0, .int x1, .int x2, .int x3])).length) Slot.unset).toArray = ls at hl ⊢
  have hl : lv_has ls 5 [(0, .ref h0), (1, .int x1), (2, .int x2), (3, .int x3)] := hl
  generalize hR : (headSpec (tb (.code yX11_meet cX11_meet 5 (some .int))) (rm 8)).room = R
  have hR := hR.symm
  generalize hQ : MQ below (QI E D G (fun r => True)) args s 0 0 (th_A G) = QF
  have hQ := hQ.symm
  have J_40 : ∀ (H : Heap) (locs : List Loc) (ls : Array Slot) , lv_has ls 5 [(0, .ref h0), (1, .int x1), (2, .int x2), (3, .int x3)] → th_I (okC E) D G [] H → va_S (th_A G) s.heap H locs → W p l e R s m args below meth c H locs 0 0 QF (F0 m 40 ls []) := by
    intro H locs ls  hl  hI hS
    refine lv_iconst (v := (-1)) hx hb dX11_meet_40 (by decide) ?_
    have hpost : True := trivial
    rw [hQ]
    exact W.iret (v := (-1)) hx hb hr (fun t ht hW => ⟨⟨(-1), (), rfl, hpost, by rw [ht]; exact hI, hN.warm hW, va_K.moved hW.alike hK⟩, hS.F ht⟩) hS.2.2 dX11_meet_41
  refine lv_aload_n hx hb dX11_meet_0 rfl (lv_at hl 0 rfl) ?_
  obtain ⟨a1697, a1701, a1703, a1705, a1707, a1709, a1711, a1713, a1715, a1717, a1719, w1721, w1724, w1725, w1726, w1727, hO, hq1698, ⟨m1700, hq1699⟩, hq1702, hq1704, hq1706, hq1708, hq1710, hq1712, hq1714, hq1716, hq1718, hq1720, ⟨k1722, k1723⟩⟩ := op_15 hI hG0 List.not_mem_nil
  have hI := th_I.weak (a := h0) hI
  refine th_get hx hb hts inT11 hown hK hO rfl 0 (by decide) (hts _ (tb_c wd_345)) rfl rfl dX11_meet_1 ?_
  have hI := th_I.close hI hG0 hO (ok_15 hq1698 ⟨_, hq1699⟩ hq1702 hq1704 hq1706 hq1708 hq1710 hq1712 hq1714 hq1716 hq1718 hq1720 ⟨by omega, by omega⟩)
  obtain ⟨a1728, a1730, a1732, a1734, a1736, a1738, a1740, a1742, a1744, a1746, w1748, w1751, w1752, w1753, hO, hq1729, hq1731, hq1733, hq1735, hq1737, hq1739, hq1741, hq1743, hq1745, hq1747, ⟨k1749, k1750⟩⟩ := op_6 hI hq1698 List.not_mem_nil
  have hI := th_I.weak (a := a1697) hI
  refine th_getN hx hb hts inT6 hown hK hN hO rfl 4 (by decide) wn_68 rfl rfl dX11_meet_4 ?_
  refine lv_iload_n hx hb dX11_meet_7 rfl (lv_at hl 1 rfl) ?_
  have hI := th_I.close hI hq1698 hO (ok_6 hq1729 hq1731 hq1733 hq1735 hq1737 hq1739 hq1741 hq1743 hq1745 hq1747 ⟨by omega, by omega⟩)
  obtain ⟨a1755, w1757, hO, hq1756, ⟨k1758, k1759⟩, k1760⟩ := op_4 hI hq1737 List.not_mem_nil
  have hI := th_I.weak (a := a1736) hI
  have k1761 : (nI 6).toInt = ((6 : Nat) : Int) := nI_toInt (by omega)
  refine th_cVs (As := [.int x1]) (rest := []) (n := 1) (d := 0) ⟨hx, hb, hml, hown, hts⟩ (c_X4_has l E D s.heap a1736 6 a1755 w1757 hO (by omega) (by omega) (by omega) x1) wd_494 wd_495 wd_496 wd_3 wd_497 (by decide +kernel) ⟨by rw [hR]; exact Nat.le_of_ble_eq_true rfl, by rw [hR]; exact Nat.le_of_ble_eq_true rfl⟩ hN hK hS ⟨_, hO⟩ rfl rfl hl.1 rfl (Nat.le_of_ble_eq_true rfl) dX11_meet_8 ⟨Nat.zero_le _, Nat.zero_le _⟩ (fun r1754 locs hp hS => ?_)
  rcases hp with ⟨rfl, hp⟩ | ⟨rfl, hp⟩
  · skip
    try simp only [rg, not_and, Int.not_le] at hp
    have hp1762 := hp
    refine lv_if_eq (tgt := 40) hx hb dX11_meet_11 (by decide) (fun c => absurd c (by decide)) (fun _ => ?_)
    refine lv_aload_n hx hb dX11_meet_14 rfl (lv_at hl 0 rfl) ?_
    have hI := th_I.close hI hq1737 hO (ok_4 hq1756 ⟨by omega, by omega⟩ (by omega))
    obtain ⟨a1763, a1767, a1769, a1771, a1773, a1775, a1777, a1779, a1781, a1783, a1785, w1787, w1790, w1791, w1792, w1793, hO, hq1764, ⟨m1766, hq1765⟩, hq1768, hq1770, hq1772, hq1774, hq1776, hq1778, hq1780, hq1782, hq1784, hq1786, ⟨k1788, k1789⟩⟩ := op_15 hI hG0 List.not_mem_nil
    have hI := th_I.weak (a := h0) hI
    refine th_get hx hb hts inT11 hown hK hO rfl 0 (by decide) (hts _ (tb_c wd_345)) rfl rfl dX11_meet_15 ?_
    have hI := th_I.close hI hG0 hO (ok_15 hq1764 ⟨_, hq1765⟩ hq1768 hq1770 hq1772 hq1774 hq1776 hq1778 hq1780 hq1782 hq1784 hq1786 ⟨by omega, by omega⟩)
    obtain ⟨a1794, a1796, a1798, a1800, a1802, a1804, a1806, a1808, a1810, a1812, w1814, w1817, w1818, w1819, hO, hq1795, hq1797, hq1799, hq1801, hq1803, hq1805, hq1807, hq1809, hq1811, hq1813, ⟨k1815, k1816⟩⟩ := op_6 hI hq1764 List.not_mem_nil
    have hI := th_I.weak (a := a1763) hI
    refine th_getN hx hb hts inT6 hown hK hN hO rfl 4 (by decide) wn_68 rfl rfl dX11_meet_18 ?_
    refine lv_iload_n hx hb dX11_meet_21 rfl (lv_at hl 2 rfl) ?_
    have hI := th_I.close hI hq1764 hO (ok_6 hq1795 hq1797 hq1799 hq1801 hq1803 hq1805 hq1807 hq1809 hq1811 hq1813 ⟨by omega, by omega⟩)
    obtain ⟨a1821, w1823, hO, hq1822, ⟨k1824, k1825⟩, k1826⟩ := op_4 hI hq1803 List.not_mem_nil
    have hI := th_I.weak (a := a1802) hI
    have k1827 : (nI 6).toInt = ((6 : Nat) : Int) := nI_toInt (by omega)
    refine th_cVs (As := [.int x2]) (rest := []) (n := 1) (d := 0) ⟨hx, hb, hml, hown, hts⟩ (c_X4_has l E D s.heap a1802 6 a1821 w1823 hO (by omega) (by omega) (by omega) x2) wd_494 wd_495 wd_496 wd_3 wd_497 (by decide +kernel) ⟨by rw [hR]; exact Nat.le_of_ble_eq_true rfl, by rw [hR]; exact Nat.le_of_ble_eq_true rfl⟩ hN hK hS ⟨_, hO⟩ rfl rfl hl.1 rfl (Nat.le_of_ble_eq_true rfl) dX11_meet_22 ⟨Nat.zero_le _, Nat.zero_le _⟩ (fun r1820 locs hp hS => ?_)
    rcases hp with ⟨rfl, hp⟩ | ⟨rfl, hp⟩
    · skip
      try simp only [rg, not_and, Int.not_le] at hp
      have hp1828 := hp
      refine lv_if_eq (tgt := 40) hx hb dX11_meet_25 (by decide) (fun c => absurd c (by decide)) (fun _ => ?_)
      refine lv_iload_n hx hb dX11_meet_28 rfl (lv_at hl 1 rfl) ?_
      refine lv_iload_n hx hb dX11_meet_29 rfl (lv_at hl 2 rfl) ?_
      refine lv_icmp_eq (tgt := 40) hx hb dX11_meet_30 (by decide) (fun c1829 => ?_) (fun c1829 => ?_)
      · skip
        have k1830 := iv_eq (X := x1.toInt) (Y := x2.toInt) rfl rfl c1829
        have hI := th_I.close hI hq1803 hO (ok_4 hq1822 ⟨by omega, by omega⟩ (by omega))
        exact J_40 s.heap locs ls  (lv_sub hl [0, 1, 2, 3] rfl)  hI hS
      · skip
        have k1831 := iv_ne (X := x1.toInt) (Y := x2.toInt) rfl rfl c1829
        refine lv_iload_n hx hb dX11_meet_33 rfl (lv_at hl 3 rfl) ?_
        refine th_cSs (As := [.int x3]) (rest := []) (n := 1) (d := 0) ⟨hx, hb, hml, hown, hts⟩ (c_X11_isFlag l s.heap x3) wd_469 wd_470 wd_1 wd_471 (by decide +kernel) ⟨by rw [hR]; exact Nat.le_of_ble_eq_true rfl, by rw [hR]; exact Nat.le_of_ble_eq_true rfl⟩ hN hS rfl hl.1 rfl (Nat.le_of_ble_eq_true rfl) dX11_meet_34 ⟨Nat.zero_le _, Nat.zero_le _⟩ (fun r1832 locs hp hS => ?_)
        rcases hp with ⟨rfl, hp⟩ | ⟨rfl, hp⟩
        · skip
          try simp only [rg, not_and, Int.not_le] at hp
          have hp1833 := hp
          refine lv_if_ne (tgt := 42) hx hb dX11_meet_37 (by decide) (fun _ => ?_) (fun c => absurd c (by decide))
          refine lv_aload_n hx hb dX11_meet_42 rfl (lv_at hl 0 rfl) ?_
          have hI := th_I.close hI hq1803 hO (ok_4 hq1822 ⟨by omega, by omega⟩ (by omega))
          obtain ⟨a1834, a1838, a1840, a1842, a1844, a1846, a1848, a1850, a1852, a1854, a1856, w1858, w1861, w1862, w1863, w1864, hO, hq1835, ⟨m1837, hq1836⟩, hq1839, hq1841, hq1843, hq1845, hq1847, hq1849, hq1851, hq1853, hq1855, hq1857, ⟨k1859, k1860⟩⟩ := op_15 hI hG0 List.not_mem_nil
          have hI := th_I.weak (a := h0) hI
          refine th_get hx hb hts inT11 hown hK hO rfl 7 (by decide) (hts _ (tb_c wd_352)) rfl rfl dX11_meet_43 ?_
          refine lv_iload_n hx hb dX11_meet_46 rfl (lv_at hl 1 rfl) ?_
          refine lv_iload_n hx hb dX11_meet_47 rfl (lv_at hl 2 rfl) ?_
          have hI := th_I.close hI hG0 hO (ok_15 hq1835 ⟨_, hq1836⟩ hq1839 hq1841 hq1843 hq1845 hq1847 hq1849 hq1851 hq1853 hq1855 hq1857 ⟨by omega, by omega⟩)
          refine th_cVi (As := [.int x1, .int x2]) (rest := []) (n := 2) (d := 7) ⟨hx, hb, hml, hown, hts⟩ (c_X9_meeting l E D G a1848 hq1849 x1 x2) wd_898 wd_899 wd_900 wd_8 wd_901 (by decide +kernel) ⟨by rw [hR]; exact Nat.le_of_ble_eq_true rfl, by rw [hR]; exact Nat.le_of_ble_eq_true rfl⟩ hI hN hK hS (rc_10 hI hq1849 List.not_mem_nil) rfl rfl hl.1 rfl (Nat.le_of_ble_eq_true rfl) dX11_meet_48 ⟨Nat.zero_le _, Nat.zero_le _⟩ (fun r1865 H locs hp hI hS => ?_)
          refine lv_istore (lv' := [(4, .int r1865), (0, .ref h0), (1, .int x1), (2, .int x2), (3, .int x3)]) hx hb dX11_meet_51 hl (by decide) rfl (fun ls hl => ?_)
          refine lv_iload hx hb dX11_meet_53 (lv_at hl 0 rfl) ?_
          refine lv_iconst (v := (-1)) hx hb dX11_meet_55 (by decide) ?_
          have k1866 := iv_lo r1865
          have k1867 := iv_hi r1865
          refine lv_icmp_eq (tgt := 63) hx hb dX11_meet_56 (by decide) (fun c1868 => ?_) (fun c1868 => ?_)
          · skip
            have k1869 := iv_eq (X := r1865.toInt) (Y := (-1)) rfl (by decide) c1868
            refine lv_iload hx hb dX11_meet_63 (lv_at hl 0 rfl) ?_
            refine lv_goto (tgt := 78) hx hb dX11_meet_65 (by decide) ?_
            have hpost : True := trivial
            rw [hQ]
            exact W.iret (v := r1865) hx hb hr (fun t ht hW => ⟨⟨r1865, (), rfl, hpost, by rw [ht]; exact hI, hN.warm hW, va_K.moved hW.alike hK⟩, hS.F ht⟩) hS.2.2 dX11_meet_78
          · skip
            have k1870 := iv_ne (X := r1865.toInt) (Y := (-1)) rfl (by decide) c1868
            refine lv_iload_n hx hb dX11_meet_59 rfl (lv_at hl 4 rfl) ?_
            refine lv_if_ne (tgt := 68) hx hb dX11_meet_60 (by decide) (fun c1871 => ?_) (fun c1871 => ?_)
            · skip
              have k1872 := iv_ne (X := x3.toInt) (Y := (0)) rfl (by decide) c1871
              refine lv_aload_n hx hb dX11_meet_68 rfl (lv_at hl 1 rfl) ?_
              obtain ⟨a1873, a1877, a1879, a1881, a1883, a1885, a1887, a1889, a1891, a1893, a1895, w1897, w1900, w1901, w1902, w1903, hO, hq1874, ⟨m1876, hq1875⟩, hq1878, hq1880, hq1882, hq1884, hq1886, hq1888, hq1890, hq1892, hq1894, hq1896, ⟨k1898, k1899⟩⟩ := op_15 hI hG0 List.not_mem_nil
              have hI := th_I.weak (a := h0) hI
              refine th_get hx hb hts inT11 hown hK hO rfl 7 (by decide) (hts _ (tb_c wd_352)) rfl rfl dX11_meet_69 ?_
              refine lv_iload_n hx hb dX11_meet_72 rfl (lv_at hl 2 rfl) ?_
              refine lv_iload hx hb dX11_meet_73 (lv_at hl 0 rfl) ?_
              have hI := th_I.close hI hG0 hO (ok_15 hq1874 ⟨_, hq1875⟩ hq1878 hq1880 hq1882 hq1884 hq1886 hq1888 hq1890 hq1892 hq1894 hq1896 ⟨by omega, by omega⟩)
              refine th_cVi (As := [.int x1, .int r1865]) (rest := []) (n := 2) (d := 6) ⟨hx, hb, hml, hown, hts⟩ (c_X9_boatAt l E D G a1887 hq1888 x1 r1865) wd_872 wd_873 wd_874 wd_8 wd_875 (by decide +kernel) ⟨by rw [hR]; exact Nat.le_of_ble_eq_true rfl, by rw [hR]; exact Nat.le_of_ble_eq_true rfl⟩ hI hN hK hS (rc_10 hI hq1888 List.not_mem_nil) rfl rfl hl.1 rfl (Nat.le_of_ble_eq_true rfl) dX11_meet_75 ⟨Nat.zero_le _, Nat.zero_le _⟩ (fun r1904 H locs hp hI hS => ?_)
              have hpost : True := trivial
              rw [hQ]
              exact W.iret (v := r1904) hx hb hr (fun t ht hW => ⟨⟨r1904, (), rfl, hpost, by rw [ht]; exact hI, hN.warm hW, va_K.moved hW.alike hK⟩, hS.F ht⟩) hS.2.2 dX11_meet_78
            · skip
              have k1905 := iv_eq (X := x3.toInt) (Y := (0)) rfl (by decide) c1871
              refine lv_iload hx hb dX11_meet_63 (lv_at hl 0 rfl) ?_
              refine lv_goto (tgt := 78) hx hb dX11_meet_65 (by decide) ?_
              have hpost : True := trivial
              rw [hQ]
              exact W.iret (v := r1865) hx hb hr (fun t ht hW => ⟨⟨r1865, (), rfl, hpost, by rw [ht]; exact hI, hN.warm hW, va_K.moved hW.alike hK⟩, hS.F ht⟩) hS.2.2 dX11_meet_78
        · skip
          try simp only [rg, not_and, Int.not_le] at hp
          have hp1906 := hp
          refine lv_if_ne (tgt := 42) hx hb dX11_meet_37 (by decide) (fun c => absurd c (by decide)) (fun _ => ?_)
          have hI := th_I.close hI hq1803 hO (ok_4 hq1822 ⟨by omega, by omega⟩ (by omega))
          exact J_40 s.heap locs ls  (lv_sub hl [0, 1, 2, 3] rfl)  hI hS
    · skip
      have hp1907 := hp
      refine lv_if_eq (tgt := 40) hx hb dX11_meet_25 (by decide) (fun _ => ?_) (fun c => absurd c (by decide))
      have hI := th_I.close hI hq1803 hO (ok_4 hq1822 ⟨by omega, by omega⟩ (by omega))
      exact J_40 s.heap locs ls  (lv_sub hl [0, 1, 2, 3] rfl)  hI hS
  · skip
    have hp1908 := hp
    refine lv_if_eq (tgt := 40) hx hb dX11_meet_11 (by decide) (fun _ => ?_) (fun c => absurd c (by decide))
    have hI := th_I.close hI hq1737 hO (ok_4 hq1756 ⟨by omega, by omega⟩ (by omega))
    exact J_40 s.heap locs ls  (lv_sub hl [0, 1, 2, 3] rfl)  hI hS
theorem dX11_pour_0 : decode cX11_pour 0 = .ok (.iload_n 1, 1) := by decide +kernel
theorem dX11_pour_1 : decode cX11_pour 1 = .ok (.iload_n 2, 1) := by decide +kernel
theorem dX11_pour_2 : decode cX11_pour 2 = .ok (.iload_n 3, 1) := by decide +kernel
theorem dX11_pour_3 : decode cX11_pour 3 = .ok (.iload 4, 2) := by decide +kernel
theorem dX11_pour_5 : decode cX11_pour 5 = .ok (.invokestatic 262, 3) := by decide +kernel
theorem dX11_pour_8 : decode cX11_pour 8 = .ok (.ifCond .ne 9, 3) := by decide +kernel
theorem dX11_pour_11 : decode cX11_pour 11 = .ok (.aload_n 0, 1) := by decide +kernel
theorem dX11_pour_12 : decode cX11_pour 12 = .ok (.iconst (-1), 1) := by decide +kernel
theorem dX11_pour_13 : decode cX11_pour 13 = .ok (.invokevirtual 113, 3) := by decide +kernel
theorem dX11_pour_16 : decode cX11_pour 16 = .ok (.ireturn, 1) := by decide +kernel
theorem dX11_pour_17 : decode cX11_pour 17 = .ok (.aload_n 0, 1) := by decide +kernel
theorem dX11_pour_18 : decode cX11_pour 18 = .ok (.getfield 42, 3) := by decide +kernel
theorem dX11_pour_21 : decode cX11_pour 21 = .ok (.iload_n 1, 1) := by decide +kernel
theorem dX11_pour_22 : decode cX11_pour 22 = .ok (.iload_n 2, 1) := by decide +kernel
theorem dX11_pour_23 : decode cX11_pour 23 = .ok (.invokevirtual 220, 3) := by decide +kernel
theorem dX11_pour_26 : decode cX11_pour 26 = .ok (.ifCond .eq 10, 3) := by decide +kernel
theorem dX11_pour_29 : decode cX11_pour 29 = .ok (.aload_n 0, 1) := by decide +kernel
theorem dX11_pour_30 : decode cX11_pour 30 = .ok (.bipush (-3), 2) := by decide +kernel
theorem dX11_pour_32 : decode cX11_pour 32 = .ok (.invokevirtual 113, 3) := by decide +kernel
theorem dX11_pour_35 : decode cX11_pour 35 = .ok (.ireturn, 1) := by decide +kernel
theorem dX11_pour_36 : decode cX11_pour 36 = .ok (.aload_n 0, 1) := by decide +kernel
theorem dX11_pour_37 : decode cX11_pour 37 = .ok (.getfield 12, 3) := by decide +kernel
theorem dX11_pour_40 : decode cX11_pour 40 = .ok (.getfield 266, 3) := by decide +kernel
theorem dX11_pour_43 : decode cX11_pour 43 = .ok (.invokevirtual 149, 3) := by decide +kernel
theorem dX11_pour_46 : decode cX11_pour 46 = .ok (.ifCond .eq 10, 3) := by decide +kernel
theorem dX11_pour_49 : decode cX11_pour 49 = .ok (.aload_n 0, 1) := by decide +kernel
theorem dX11_pour_50 : decode cX11_pour 50 = .ok (.bipush (-5), 2) := by decide +kernel
theorem dX11_pour_52 : decode cX11_pour 52 = .ok (.invokevirtual 113, 3) := by decide +kernel
theorem dX11_pour_55 : decode cX11_pour 55 = .ok (.ireturn, 1) := by decide +kernel
theorem dX11_pour_56 : decode cX11_pour 56 = .ok (.aload_n 0, 1) := by decide +kernel
theorem dX11_pour_57 : decode cX11_pour 57 = .ok (.invokevirtual 191, 3) := by decide +kernel
theorem dX11_pour_60 : decode cX11_pour 60 = .ok (.aload_n 0, 1) := by decide +kernel
theorem dX11_pour_61 : decode cX11_pour 61 = .ok (.aload_n 0, 1) := by decide +kernel
theorem dX11_pour_62 : decode cX11_pour 62 = .ok (.getfield 12, 3) := by decide +kernel
theorem dX11_pour_65 : decode cX11_pour 65 = .ok (.getfield 266, 3) := by decide +kernel
theorem dX11_pour_68 : decode cX11_pour 68 = .ok (.iload_n 1, 1) := by decide +kernel
theorem dX11_pour_69 : decode cX11_pour 69 = .ok (.iload_n 2, 1) := by decide +kernel
theorem dX11_pour_70 : decode cX11_pour 70 = .ok (.iload_n 3, 1) := by decide +kernel
theorem dX11_pour_71 : decode cX11_pour 71 = .ok (.iload 4, 2) := by decide +kernel
theorem dX11_pour_73 : decode cX11_pour 73 = .ok (.invokevirtual 155, 3) := by decide +kernel
theorem dX11_pour_76 : decode cX11_pour 76 = .ok (.invokevirtual 127, 3) := by decide +kernel
theorem dX11_pour_79 : decode cX11_pour 79 = .ok (.ireturn, 1) := by decide +kernel
set_option maxHeartbeats 4000000 in
set_option maxRecDepth 100000 in
theorem c_X11_pour (l : Launch) (E : Nat → ClassId) (D : va_G) (G : th_G) (h0 n : Nat) (hG0 : G h0 = some (15, n)) (x1 x2 x3 x4 : Int32) : Met l yX11_pour (tb (.code yX11_pour cX11_pour 5 (some .int))) (rm 6) (va_Pc [.ref h0, .int x1, .int x2, .int x3, .int x4] (th_P E D G)) (QI E D G (fun r => True)) 0 0 (th_A G) := by
  refine Met.ofW (cc := cX11_pour) (maxL := 5) (ret := (some .int)) (by decide) rfl ?_
  intro p e s m args below meth c s₁ B hml hv
  obtain ⟨hav, hI, hN, hK⟩ := hv
  have hx := B.exec
  have hb := B.bytes
  have hr := B.returns
  have hts := atoms_spec (ws := tb (.code yX11_pour cX11_pour 5 (some .int))) B.pre
  have hown : s.vm.findClass RX11 = some m.cls := findClass_of_methodNamed B.named
  have hlocks := B.notSynchronized
  have hS : va_S (th_A G) s.heap s.heap [] := va_S.rf
  have hl := lv_entry ([.ref h0, .int x1, .int x2, .int x3, .int x4]) (n := 5) (Nat.le_of_ble_eq_true rfl)
  rw [show entryFrame m args 5 = entryFrame m ([.ref h0, .int x1, .int x2, .int x3, .int x4] : List Value).toArray 5 from by rw [hav], lg_entry_eq]
  generalize (lg_sl ([.ref h0, .int x1, .int x2, .int x3, .int x4]) ++ List.replicate (5 - (lg_sl ([.ref h0, .int x1, .int x2, .int x3, .int x4])).length) Slot.unset).toArray = ls at hl ⊢
  have hl : lv_has ls 5 [(0, .ref h0), (1, .int x1), (2, .int x2), (3, .int x3), (4, .int x4)] := hl
  generalize hR : (headSpec (tb (.code yX11_pour cX11_pour 5 (some .int))) (rm 6)).room = R
  have hR := hR.symm
  generalize hQ : MQ below (QI E D G (fun r => True)) args s 0 0 (th_A G) = QF
  have hQ := hQ.symm
  refine lv_iload_n hx hb dX11_pour_0 rfl (lv_at hl 1 rfl) ?_
  refine lv_iload_n hx hb dX11_pour_1 rfl (lv_at hl 2 rfl) ?_
  refine lv_iload_n hx hb dX11_pour_2 rfl (lv_at hl 3 rfl) ?_
  refine lv_iload hx hb dX11_pour_3 (lv_at hl 4 rfl) ?_
  refine th_cSs (As := [.int x1, .int x2, .int x3, .int x4]) (rest := []) (n := 4) (d := 1) ⟨hx, hb, hml, hown, hts⟩ (c_X11_isPour l s.heap x1 x2 x3 x4) wd_617 wd_618 wd_1 wd_619 (by decide +kernel) ⟨by rw [hR]; exact Nat.le_of_ble_eq_true rfl, by rw [hR]; exact Nat.le_of_ble_eq_true rfl⟩ hN hS rfl hl.1 rfl (Nat.le_of_ble_eq_true rfl) dX11_pour_5 ⟨Nat.zero_le _, Nat.zero_le _⟩ (fun r1 locs hp hS => ?_)
  rcases hp with ⟨rfl, hp⟩ | ⟨rfl, hp⟩
  · skip
    try simp only [rg, not_and, Int.not_le] at hp
    have hp2 := hp
    refine lv_if_ne (tgt := 17) hx hb dX11_pour_8 (by decide) (fun _ => ?_) (fun c => absurd c (by decide))
    refine lv_aload_n hx hb dX11_pour_17 rfl (lv_at hl 0 rfl) ?_
    obtain ⟨a3, a7, a9, a11, a13, a15, a17, a19, a21, a23, a25, w27, w30, w31, w32, w33, hO, hq4, ⟨m6, hq5⟩, hq8, hq10, hq12, hq14, hq16, hq18, hq20, hq22, hq24, hq26, ⟨k28, k29⟩⟩ := op_15 hI hG0 List.not_mem_nil
    have hI := th_I.weak (a := h0) hI
    refine th_get hx hb hts inT11 hown hK hO rfl 6 (by decide) (hts _ (tb_c wd_351)) rfl rfl dX11_pour_18 ?_
    refine lv_iload_n hx hb dX11_pour_21 rfl (lv_at hl 1 rfl) ?_
    refine lv_iload_n hx hb dX11_pour_22 rfl (lv_at hl 2 rfl) ?_
    have hI := th_I.close hI hG0 hO (ok_15 hq4 ⟨_, hq5⟩ hq8 hq10 hq12 hq14 hq16 hq18 hq20 hq22 hq24 hq26 ⟨by omega, by omega⟩)
    refine th_cVi (As := [.int x1, .int x2]) (rest := []) (n := 2) (d := 5) ⟨hx, hb, hml, hown, hts⟩ (c_X7_isBarred l E D G a15 hq16 x1 x2) wd_623 wd_624 wd_625 wd_6 wd_626 (by decide +kernel) ⟨by rw [hR]; exact Nat.le_of_ble_eq_true rfl, by rw [hR]; exact Nat.le_of_ble_eq_true rfl⟩ hI hN hK hS (rc_9 hI hq16 List.not_mem_nil) rfl rfl hl.1 rfl (Nat.le_of_ble_eq_true rfl) dX11_pour_23 ⟨Nat.zero_le _, Nat.zero_le _⟩ (fun r34 H locs hp hI hS => ?_)
    have hp35 := hp
    refine lv_if_eq (tgt := 36) hx hb dX11_pour_26 (by decide) (fun c36 => ?_) (fun c36 => ?_)
    · skip
      have k37 := iv_eq (X := r34.toInt) (Y := (0)) rfl (by decide) c36
      refine lv_aload_n hx hb dX11_pour_36 rfl (lv_at hl 0 rfl) ?_
      obtain ⟨a38, a42, a44, a46, a48, a50, a52, a54, a56, a58, a60, w62, w65, w66, w67, w68, hO, hq39, ⟨m41, hq40⟩, hq43, hq45, hq47, hq49, hq51, hq53, hq55, hq57, hq59, hq61, ⟨k63, k64⟩⟩ := op_15 hI hG0 List.not_mem_nil
      have hI := th_I.weak (a := h0) hI
      refine th_get hx hb hts inT11 hown hK hO rfl 0 (by decide) (hts _ (tb_c wd_345)) rfl rfl dX11_pour_37 ?_
      have hI := th_I.close hI hG0 hO (ok_15 hq39 ⟨_, hq40⟩ hq43 hq45 hq47 hq49 hq51 hq53 hq55 hq57 hq59 hq61 ⟨by omega, by omega⟩)
      obtain ⟨a69, a71, a73, a75, a77, a79, a81, a83, a85, a87, w89, w92, w93, w94, hO, hq70, hq72, hq74, hq76, hq78, hq80, hq82, hq84, hq86, hq88, ⟨k90, k91⟩⟩ := op_6 hI hq39 List.not_mem_nil
      have hI := th_I.weak (a := a38) hI
      refine th_getN hx hb hts inT6 hown hK hN hO rfl 5 (by decide) wn_71 rfl rfl dX11_pour_40 ?_
      have hI := th_I.close hI hq39 hO (ok_6 hq70 hq72 hq74 hq76 hq78 hq80 hq82 hq84 hq86 hq88 ⟨by omega, by omega⟩)
      obtain ⟨a96, w98, hO, hq97, ⟨k99, k100⟩, k101⟩ := op_4 hI hq80 List.not_mem_nil
      have hI := th_I.weak (a := a79) hI
      have k102 : (nI 16).toInt = ((16 : Nat) : Int) := nI_toInt (by omega)
      refine th_cVs (As := []) (rest := []) (n := 0) (d := 0) ⟨hx, hb, hml, hown, hts⟩ (c_X4_isFull l E D H a79 16 a96 w98 hO (by omega) (by omega) (by omega)) wd_481 wd_482 wd_483 wd_3 wd_484 (by decide +kernel) ⟨by rw [hR]; exact Nat.le_of_ble_eq_true rfl, by rw [hR]; exact Nat.le_of_ble_eq_true rfl⟩ hN hK hS ⟨_, hO⟩ rfl rfl hl.1 rfl (Nat.le_of_ble_eq_true rfl) dX11_pour_43 ⟨Nat.zero_le _, Nat.zero_le _⟩ (fun r95 locs hp hS => ?_)
      rcases hp with ⟨rfl, hp⟩ | ⟨rfl, hp⟩
      · skip
        try simp only [rg, not_and, Int.not_le] at hp
        have hp103 := hp
        refine lv_if_eq (tgt := 56) hx hb dX11_pour_46 (by decide) (fun c => absurd c (by decide)) (fun _ => ?_)
        refine lv_aload_n hx hb dX11_pour_49 rfl (lv_at hl 0 rfl) ?_
        refine lv_bipush (v := (-5)) hx hb dX11_pour_50 (by decide) ?_
        have hI := th_I.close hI hq80 hO (ok_4 hq97 ⟨by omega, by omega⟩ (by omega))
        refine th_cVi (As := [.int (-5)]) (rest := []) (n := 1) (d := 0) ⟨hx, hb, hml, hown, hts⟩ (c_X11_refuse l E D G h0 (n) hG0 (-5)) wd_407 wd_409 wp_0 wd_1 wd_410 (by decide +kernel) ⟨by rw [hR]; exact Nat.le_of_ble_eq_true rfl, by rw [hR]; exact Nat.le_of_ble_eq_true rfl⟩ hI hN hK hS (rc_15 hI hG0 List.not_mem_nil) rfl rfl hl.1 rfl (Nat.le_of_ble_eq_true rfl) dX11_pour_52 ⟨Nat.zero_le _, Nat.zero_le _⟩ (fun r104 H locs hp hI hS => ?_)
        have hp := hp.symm
        subst hp
        have hpost : True := trivial
        rw [hQ]
        exact W.iret (v := (-5)) hx hb hr (fun t ht hW => ⟨⟨(-5), (), rfl, hpost, by rw [ht]; exact hI, hN.warm hW, va_K.moved hW.alike hK⟩, hS.F ht⟩) hS.2.2 dX11_pour_55
      · skip
        have hp105 := hp
        refine lv_if_eq (tgt := 56) hx hb dX11_pour_46 (by decide) (fun _ => ?_) (fun c => absurd c (by decide))
        refine lv_aload_n hx hb dX11_pour_56 rfl (lv_at hl 0 rfl) ?_
        have hI := th_I.close hI hq80 hO (ok_4 hq97 ⟨by omega, by omega⟩ (by omega))
        refine th_cVv (As := []) (rest := []) (n := 0) (d := 1) ⟨hx, hb, hml, hown, hts⟩ (c_X11_turnLists l E D G h0 (n) hG0 ) wd_431 wd_433 wp_2 wd_1 wd_434 (by decide +kernel) ⟨by rw [hR]; exact Nat.le_of_ble_eq_true rfl, by rw [hR]; exact Nat.le_of_ble_eq_true rfl⟩ hI hN hK hS (rc_15 hI hG0 List.not_mem_nil) rfl rfl hl.1 rfl (Nat.le_of_ble_eq_true rfl) dX11_pour_57 ⟨Nat.zero_le _, Nat.zero_le _⟩ (fun H locs hI hS => ?_)
        refine lv_aload_n hx hb dX11_pour_60 rfl (lv_at hl 0 rfl) ?_
        refine lv_aload_n hx hb dX11_pour_61 rfl (lv_at hl 0 rfl) ?_
        obtain ⟨a107, a111, a113, a115, a117, a119, a121, a123, a125, a127, a129, w131, w134, w135, w136, w137, hO, hq108, ⟨m110, hq109⟩, hq112, hq114, hq116, hq118, hq120, hq122, hq124, hq126, hq128, hq130, ⟨k132, k133⟩⟩ := op_15 hI hG0 List.not_mem_nil
        have hI := th_I.weak (a := h0) hI
        refine th_get hx hb hts inT11 hown hK hO rfl 0 (by decide) (hts _ (tb_c wd_345)) rfl rfl dX11_pour_62 ?_
        have hI := th_I.close hI hG0 hO (ok_15 hq108 ⟨_, hq109⟩ hq112 hq114 hq116 hq118 hq120 hq122 hq124 hq126 hq128 hq130 ⟨by omega, by omega⟩)
        obtain ⟨a138, a140, a142, a144, a146, a148, a150, a152, a154, a156, w158, w161, w162, w163, hO, hq139, hq141, hq143, hq145, hq147, hq149, hq151, hq153, hq155, hq157, ⟨k159, k160⟩⟩ := op_6 hI hq108 List.not_mem_nil
        have hI := th_I.weak (a := a107) hI
        refine th_getN hx hb hts inT6 hown hK hN hO rfl 5 (by decide) wn_71 rfl rfl dX11_pour_65 ?_
        refine lv_iload_n hx hb dX11_pour_68 rfl (lv_at hl 1 rfl) ?_
        refine lv_iload_n hx hb dX11_pour_69 rfl (lv_at hl 2 rfl) ?_
        refine lv_iload_n hx hb dX11_pour_70 rfl (lv_at hl 3 rfl) ?_
        refine lv_iload hx hb dX11_pour_71 (lv_at hl 4 rfl) ?_
        have hI := th_I.close hI hq108 hO (ok_6 hq139 hq141 hq143 hq145 hq147 hq149 hq151 hq153 hq155 hq157 ⟨by omega, by omega⟩)
        refine th_cVi (As := [.int x1, .int x2, .int x3, .int x4]) (rest := [.ref h0]) (n := 4) (d := 1) ⟨hx, hb, hml, hown, hts⟩ (c_X4_put l E D G a148 (16) hq149 x1 x2 x3 x4) wd_485 wd_486 wd_487 wd_3 wd_488 (by decide +kernel) ⟨by rw [hR]; exact Nat.le_of_ble_eq_true rfl, by rw [hR]; exact Nat.le_of_ble_eq_true rfl⟩ hI hN hK hS (rc_4 hI hq149 List.not_mem_nil) rfl rfl hl.1 rfl (Nat.le_of_ble_eq_true rfl) dX11_pour_73 ⟨Nat.zero_le _, Nat.zero_le _⟩ (fun r164 H locs hp hI hS => ?_)
        refine th_cVi (As := [.int r164]) (rest := []) (n := 1) (d := 0) ⟨hx, hb, hml, hown, hts⟩ (c_X11_accept l E D G h0 (n) hG0 r164) wd_447 wd_449 wp_3 wd_1 wd_450 (by decide +kernel) ⟨by rw [hR]; exact Nat.le_of_ble_eq_true rfl, by rw [hR]; exact Nat.le_of_ble_eq_true rfl⟩ hI hN hK hS (rc_15 hI hG0 List.not_mem_nil) rfl rfl hl.1 rfl (Nat.le_of_ble_eq_true rfl) dX11_pour_76 ⟨Nat.zero_le _, Nat.zero_le _⟩ (fun r165 H locs hp hI hS => ?_)
        have hp := hp.symm
        subst hp
        have hpost : True := trivial
        rw [hQ]
        exact W.iret (v := r164) hx hb hr (fun t ht hW => ⟨⟨r164, (), rfl, hpost, by rw [ht]; exact hI, hN.warm hW, va_K.moved hW.alike hK⟩, hS.F ht⟩) hS.2.2 dX11_pour_79
    · skip
      have k166 := iv_ne (X := r34.toInt) (Y := (0)) rfl (by decide) c36
      refine lv_aload_n hx hb dX11_pour_29 rfl (lv_at hl 0 rfl) ?_
      refine lv_bipush (v := (-3)) hx hb dX11_pour_30 (by decide) ?_
      refine th_cVi (As := [.int (-3)]) (rest := []) (n := 1) (d := 0) ⟨hx, hb, hml, hown, hts⟩ (c_X11_refuse l E D G h0 (n) hG0 (-3)) wd_407 wd_409 wp_0 wd_1 wd_410 (by decide +kernel) ⟨by rw [hR]; exact Nat.le_of_ble_eq_true rfl, by rw [hR]; exact Nat.le_of_ble_eq_true rfl⟩ hI hN hK hS (rc_15 hI hG0 List.not_mem_nil) rfl rfl hl.1 rfl (Nat.le_of_ble_eq_true rfl) dX11_pour_32 ⟨Nat.zero_le _, Nat.zero_le _⟩ (fun r167 H locs hp hI hS => ?_)
      have hp := hp.symm
      subst hp
      have hpost : True := trivial
      rw [hQ]
      exact W.iret (v := (-3)) hx hb hr (fun t ht hW => ⟨⟨(-3), (), rfl, hpost, by rw [ht]; exact hI, hN.warm hW, va_K.moved hW.alike hK⟩, hS.F ht⟩) hS.2.2 dX11_pour_35
  · skip
    try simp only [rg, not_and, Int.not_le] at hp
    have hp168 := hp
    refine lv_if_ne (tgt := 17) hx hb dX11_pour_8 (by decide) (fun c => absurd c (by decide)) (fun _ => ?_)
    refine lv_aload_n hx hb dX11_pour_11 rfl (lv_at hl 0 rfl) ?_
    refine lv_iconst (v := (-1)) hx hb dX11_pour_12 (by decide) ?_
    refine th_cVi (As := [.int (-1)]) (rest := []) (n := 1) (d := 0) ⟨hx, hb, hml, hown, hts⟩ (c_X11_refuse l E D G h0 (n) hG0 (-1)) wd_407 wd_409 wp_0 wd_1 wd_410 (by decide +kernel) ⟨by rw [hR]; exact Nat.le_of_ble_eq_true rfl, by rw [hR]; exact Nat.le_of_ble_eq_true rfl⟩ hI hN hK hS (rc_15 hI hG0 List.not_mem_nil) rfl rfl hl.1 rfl (Nat.le_of_ble_eq_true rfl) dX11_pour_13 ⟨Nat.zero_le _, Nat.zero_le _⟩ (fun r169 H locs hp hI hS => ?_)
    have hp := hp.symm
    subst hp
    have hpost : True := trivial
    rw [hQ]
    exact W.iret (v := (-1)) hx hb hr (fun t ht hW => ⟨⟨(-1), (), rfl, hpost, by rw [ht]; exact hI, hN.warm hW, va_K.moved hW.alike hK⟩, hS.F ht⟩) hS.2.2 dX11_pour_16
theorem dX11_undo_0 : decode cX11_undo 0 = .ok (.aload_n 0, 1) := by decide +kernel
theorem dX11_undo_1 : decode cX11_undo 1 = .ok (.getfield 12, 3) := by decide +kernel
theorem dX11_undo_4 : decode cX11_undo 4 = .ok (.getfield 266, 3) := by decide +kernel
theorem dX11_undo_7 : decode cX11_undo 7 = .ok (.invokevirtual 166, 3) := by decide +kernel
theorem dX11_undo_10 : decode cX11_undo 10 = .ok (.istore_n 1, 1) := by decide +kernel
theorem dX11_undo_11 : decode cX11_undo 11 = .ok (.iload_n 1, 1) := by decide +kernel
theorem dX11_undo_12 : decode cX11_undo 12 = .ok (.ifCond .ne 10, 3) := by decide +kernel
theorem dX11_undo_15 : decode cX11_undo 15 = .ok (.aload_n 0, 1) := by decide +kernel
theorem dX11_undo_16 : decode cX11_undo 16 = .ok (.bipush (-3), 2) := by decide +kernel
theorem dX11_undo_18 : decode cX11_undo 18 = .ok (.invokevirtual 113, 3) := by decide +kernel
theorem dX11_undo_21 : decode cX11_undo 21 = .ok (.ireturn, 1) := by decide +kernel
theorem dX11_undo_22 : decode cX11_undo 22 = .ok (.aload_n 0, 1) := by decide +kernel
theorem dX11_undo_23 : decode cX11_undo 23 = .ok (.getfield 12, 3) := by decide +kernel
theorem dX11_undo_26 : decode cX11_undo 26 = .ok (.getfield 266, 3) := by decide +kernel
theorem dX11_undo_29 : decode cX11_undo 29 = .ok (.iload_n 1, 1) := by decide +kernel
theorem dX11_undo_30 : decode cX11_undo 30 = .ok (.iconst 1, 1) := by decide +kernel
theorem dX11_undo_31 : decode cX11_undo 31 = .ok (.isub, 1) := by decide +kernel
theorem dX11_undo_32 : decode cX11_undo 32 = .ok (.invokevirtual 162, 3) := by decide +kernel
theorem dX11_undo_35 : decode cX11_undo 35 = .ok (.aload_n 0, 1) := by decide +kernel
theorem dX11_undo_36 : decode cX11_undo 36 = .ok (.invokevirtual 191, 3) := by decide +kernel
theorem dX11_undo_39 : decode cX11_undo 39 = .ok (.aload_n 0, 1) := by decide +kernel
theorem dX11_undo_40 : decode cX11_undo 40 = .ok (.iload_n 1, 1) := by decide +kernel
theorem dX11_undo_41 : decode cX11_undo 41 = .ok (.iconst 1, 1) := by decide +kernel
theorem dX11_undo_42 : decode cX11_undo 42 = .ok (.isub, 1) := by decide +kernel
theorem dX11_undo_43 : decode cX11_undo 43 = .ok (.invokevirtual 127, 3) := by decide +kernel
theorem dX11_undo_46 : decode cX11_undo 46 = .ok (.ireturn, 1) := by decide +kernel
set_option maxHeartbeats 4000000 in
set_option maxRecDepth 100000 in
theorem c_X11_undo (l : Launch) (E : Nat → ClassId) (D : va_G) (G : th_G) (h0 n : Nat) (hG0 : G h0 = some (15, n)) : Met l yX11_undo (tb (.code yX11_undo cX11_undo 2 (some .int))) (rm 2) (va_Pc [.ref h0] (th_P E D G)) (QI E D G (fun r => True)) 0 0 (th_A G) := by
  refine Met.ofW (cc := cX11_undo) (maxL := 2) (ret := (some .int)) (by decide) rfl ?_
  intro p e s m args below meth c s₁ B hml hv
  obtain ⟨hav, hI, hN, hK⟩ := hv
  have hx := B.exec
  have hb := B.bytes
  have hr := B.returns
  have hts := atoms_spec (ws := tb (.code yX11_undo cX11_undo 2 (some .int))) B.pre
  have hown : s.vm.findClass RX11 = some m.cls := findClass_of_methodNamed B.named
  have hlocks := B.notSynchronized
  have hS : va_S (th_A G) s.heap s.heap [] := va_S.rf
  have hl := lv_entry ([.ref h0]) (n := 2) (Nat.le_of_ble_eq_true rfl)
  rw [show entryFrame m args 2 = entryFrame m ([.ref h0] : List Value).toArray 2 from by rw [hav], lg_entry_eq]
  generalize (lg_sl ([.ref h0]) ++ List.replicate (2 - (lg_sl ([.ref h0])).length) Slot.unset).toArray = ls at hl ⊢
  have hl : lv_has ls 2 [(0, .ref h0)] := hl
  generalize hR : (headSpec (tb (.code yX11_undo cX11_undo 2 (some .int))) (rm 2)).room = R
  have hR := hR.symm
  generalize hQ : MQ below (QI E D G (fun r => True)) args s 0 0 (th_A G) = QF
  have hQ := hQ.symm
  refine lv_aload_n hx hb dX11_undo_0 rfl (lv_at hl 0 rfl) ?_
  obtain ⟨a1, a5, a7, a9, a11, a13, a15, a17, a19, a21, a23, w25, w28, w29, w30, w31, hO, hq2, ⟨m4, hq3⟩, hq6, hq8, hq10, hq12, hq14, hq16, hq18, hq20, hq22, hq24, ⟨k26, k27⟩⟩ := op_15 hI hG0 List.not_mem_nil
  have hI := th_I.weak (a := h0) hI
  refine th_get hx hb hts inT11 hown hK hO rfl 0 (by decide) (hts _ (tb_c wd_345)) rfl rfl dX11_undo_1 ?_
  have hI := th_I.close hI hG0 hO (ok_15 hq2 ⟨_, hq3⟩ hq6 hq8 hq10 hq12 hq14 hq16 hq18 hq20 hq22 hq24 ⟨by omega, by omega⟩)
  obtain ⟨a32, a34, a36, a38, a40, a42, a44, a46, a48, a50, w52, w55, w56, w57, hO, hq33, hq35, hq37, hq39, hq41, hq43, hq45, hq47, hq49, hq51, ⟨k53, k54⟩⟩ := op_6 hI hq2 List.not_mem_nil
  have hI := th_I.weak (a := a1) hI
  refine th_getN hx hb hts inT6 hown hK hN hO rfl 5 (by decide) wn_71 rfl rfl dX11_undo_4 ?_
  have hI := th_I.close hI hq2 hO (ok_6 hq33 hq35 hq37 hq39 hq41 hq43 hq45 hq47 hq49 hq51 ⟨by omega, by omega⟩)
  obtain ⟨a59, w61, hO, hq60, ⟨k62, k63⟩, k64⟩ := op_4 hI hq43 List.not_mem_nil
  have hI := th_I.weak (a := a42) hI
  have k65 : (nI 16).toInt = ((16 : Nat) : Int) := nI_toInt (by omega)
  refine th_cVs (As := []) (rest := []) (n := 0) (d := 0) ⟨hx, hb, hml, hown, hts⟩ (c_X4_size l E D s.heap a42 16 a59 w61 hO (by omega) (by omega) (by omega)) wd_506 wd_507 wd_508 wd_3 wd_509 (by decide +kernel) ⟨by rw [hR]; exact Nat.le_of_ble_eq_true rfl, by rw [hR]; exact Nat.le_of_ble_eq_true rfl⟩ hN hK hS ⟨_, hO⟩ rfl rfl hl.1 rfl (Nat.le_of_ble_eq_true rfl) dX11_undo_7 ⟨Nat.zero_le _, Nat.zero_le _⟩ (fun r58 locs hp hS => ?_)
  have hp := hp.symm
  subst hp
  refine lv_istore_n (lv' := [(1, .int w61), (0, .ref h0)]) hx hb dX11_undo_10 rfl hl (by decide) rfl (fun ls hl => ?_)
  refine lv_iload_n hx hb dX11_undo_11 rfl (lv_at hl 0 rfl) ?_
  refine lv_if_ne (tgt := 22) hx hb dX11_undo_12 (by decide) (fun c66 => ?_) (fun c66 => ?_)
  · skip
    have k67 := iv_ne (X := w61.toInt) (Y := (0)) rfl (by decide) c66
    refine lv_aload_n hx hb dX11_undo_22 rfl (lv_at hl 1 rfl) ?_
    have hI := th_I.close hI hq43 hO (ok_4 hq60 ⟨by omega, by omega⟩ (by omega))
    obtain ⟨a68, a72, a74, a76, a78, a80, a82, a84, a86, a88, a90, w92, w95, w96, w97, w98, hO, hq69, ⟨m71, hq70⟩, hq73, hq75, hq77, hq79, hq81, hq83, hq85, hq87, hq89, hq91, ⟨k93, k94⟩⟩ := op_15 hI hG0 List.not_mem_nil
    have hI := th_I.weak (a := h0) hI
    refine th_get hx hb hts inT11 hown hK hO rfl 0 (by decide) (hts _ (tb_c wd_345)) rfl rfl dX11_undo_23 ?_
    have hI := th_I.close hI hG0 hO (ok_15 hq69 ⟨_, hq70⟩ hq73 hq75 hq77 hq79 hq81 hq83 hq85 hq87 hq89 hq91 ⟨by omega, by omega⟩)
    obtain ⟨a99, a101, a103, a105, a107, a109, a111, a113, a115, a117, w119, w122, w123, w124, hO, hq100, hq102, hq104, hq106, hq108, hq110, hq112, hq114, hq116, hq118, ⟨k120, k121⟩⟩ := op_6 hI hq69 List.not_mem_nil
    have hI := th_I.weak (a := a68) hI
    refine th_getN hx hb hts inT6 hown hK hN hO rfl 5 (by decide) wn_71 rfl rfl dX11_undo_26 ?_
    refine lv_iload_n hx hb dX11_undo_29 rfl (lv_at hl 0 rfl) ?_
    refine lv_iconst (v := 1) hx hb dX11_undo_30 (by decide) ?_
    refine lv_isub hx hb dX11_undo_31 ?_
    refine lv_topi (fun v125 e126 => ?_)
    have tv125 : v125.toInt = w61.toInt - (1) := iv_sub rfl (by decide) e126 (by omega) (by omega)
    have hI := th_I.close hI hq69 hO (ok_6 hq100 hq102 hq104 hq106 hq108 hq110 hq112 hq114 hq116 hq118 ⟨by omega, by omega⟩)
    refine th_cVv (As := [.int v125]) (rest := []) (n := 1) (d := 1) ⟨hx, hb, hml, hown, hts⟩ (c_X4_takeOut l E D G a109 (16) hq110 v125) wd_498 wd_499 wd_500 wd_3 wd_501 (by decide +kernel) ⟨by rw [hR]; exact Nat.le_of_ble_eq_true rfl, by rw [hR]; exact Nat.le_of_ble_eq_true rfl⟩ hI hN hK hS (rc_4 hI hq110 List.not_mem_nil) rfl rfl hl.1 rfl (Nat.le_of_ble_eq_true rfl) dX11_undo_32 ⟨Nat.zero_le _, Nat.zero_le _⟩ (fun H locs hI hS => ?_)
    refine lv_aload_n hx hb dX11_undo_35 rfl (lv_at hl 1 rfl) ?_
    refine th_cVv (As := []) (rest := []) (n := 0) (d := 1) ⟨hx, hb, hml, hown, hts⟩ (c_X11_turnLists l E D G h0 (n) hG0 ) wd_431 wd_433 wp_2 wd_1 wd_434 (by decide +kernel) ⟨by rw [hR]; exact Nat.le_of_ble_eq_true rfl, by rw [hR]; exact Nat.le_of_ble_eq_true rfl⟩ hI hN hK hS (rc_15 hI hG0 List.not_mem_nil) rfl rfl hl.1 rfl (Nat.le_of_ble_eq_true rfl) dX11_undo_36 ⟨Nat.zero_le _, Nat.zero_le _⟩ (fun H locs hI hS => ?_)
    refine lv_aload_n hx hb dX11_undo_39 rfl (lv_at hl 1 rfl) ?_
    refine lv_iload_n hx hb dX11_undo_40 rfl (lv_at hl 0 rfl) ?_
    refine lv_iconst (v := 1) hx hb dX11_undo_41 (by decide) ?_
    refine lv_isub hx hb dX11_undo_42 ?_
    refine lv_topi (fun v129 e130 => ?_)
    have tv129 : v129.toInt = w61.toInt - (1) := iv_sub rfl (by decide) e130 (by omega) (by omega)
    refine th_cVi (As := [.int v129]) (rest := []) (n := 1) (d := 0) ⟨hx, hb, hml, hown, hts⟩ (c_X11_accept l E D G h0 (n) hG0 v129) wd_447 wd_449 wp_3 wd_1 wd_450 (by decide +kernel) ⟨by rw [hR]; exact Nat.le_of_ble_eq_true rfl, by rw [hR]; exact Nat.le_of_ble_eq_true rfl⟩ hI hN hK hS (rc_15 hI hG0 List.not_mem_nil) rfl rfl hl.1 rfl (Nat.le_of_ble_eq_true rfl) dX11_undo_43 ⟨Nat.zero_le _, Nat.zero_le _⟩ (fun r131 H locs hp hI hS => ?_)
    have hp := hp.symm
    subst hp
    have hpost : True := trivial
    rw [hQ]
    exact W.iret (v := v129) hx hb hr (fun t ht hW => ⟨⟨v129, (), rfl, hpost, by rw [ht]; exact hI, hN.warm hW, va_K.moved hW.alike hK⟩, hS.F ht⟩) hS.2.2 dX11_undo_46
  · skip
    have k132 := iv_eq (X := w61.toInt) (Y := (0)) rfl (by decide) c66
    refine lv_aload_n hx hb dX11_undo_15 rfl (lv_at hl 1 rfl) ?_
    refine lv_bipush (v := (-3)) hx hb dX11_undo_16 (by decide) ?_
    have hI := th_I.close hI hq43 hO (ok_4 hq60 ⟨by omega, by omega⟩ (by omega))
    refine th_cVi (As := [.int (-3)]) (rest := []) (n := 1) (d := 0) ⟨hx, hb, hml, hown, hts⟩ (c_X11_refuse l E D G h0 (n) hG0 (-3)) wd_407 wd_409 wp_0 wd_1 wd_410 (by decide +kernel) ⟨by rw [hR]; exact Nat.le_of_ble_eq_true rfl, by rw [hR]; exact Nat.le_of_ble_eq_true rfl⟩ hI hN hK hS (rc_15 hI hG0 List.not_mem_nil) rfl rfl hl.1 rfl (Nat.le_of_ble_eq_true rfl) dX11_undo_18 ⟨Nat.zero_le _, Nat.zero_le _⟩ (fun r133 H locs hp hI hS => ?_)
    have hp := hp.symm
    subst hp
    have hpost : True := trivial
    rw [hQ]
    exact W.iret (v := (-3)) hx hb hr (fun t ht hW => ⟨⟨(-3), (), rfl, hpost, by rw [ht]; exact hI, hN.warm hW, va_K.moved hW.alike hK⟩, hS.F ht⟩) hS.2.2 dX11_undo_21
theorem dX11_dye_0 : decode cX11_dye 0 = .ok (.iload_n 1, 1) := by decide +kernel
theorem dX11_dye_1 : decode cX11_dye 1 = .ok (.invokestatic 240, 3) := by decide +kernel
theorem dX11_dye_4 : decode cX11_dye 4 = .ok (.ifCond .eq 30, 3) := by decide +kernel
theorem dX11_dye_7 : decode cX11_dye 7 = .ok (.iload_n 2, 1) := by decide +kernel
theorem dX11_dye_8 : decode cX11_dye 8 = .ok (.invokestatic 226, 3) := by decide +kernel
theorem dX11_dye_11 : decode cX11_dye 11 = .ok (.ifCond .eq 23, 3) := by decide +kernel
theorem dX11_dye_14 : decode cX11_dye 14 = .ok (.iload_n 3, 1) := by decide +kernel
theorem dX11_dye_15 : decode cX11_dye 15 = .ok (.invokestatic 269, 3) := by decide +kernel
theorem dX11_dye_18 : decode cX11_dye 18 = .ok (.ifCond .eq 16, 3) := by decide +kernel
theorem dX11_dye_21 : decode cX11_dye 21 = .ok (.aload_n 0, 1) := by decide +kernel
theorem dX11_dye_22 : decode cX11_dye 22 = .ok (.getfield 60, 3) := by decide +kernel
theorem dX11_dye_25 : decode cX11_dye 25 = .ok (.iload_n 1, 1) := by decide +kernel
theorem dX11_dye_26 : decode cX11_dye 26 = .ok (.iload_n 2, 1) := by decide +kernel
theorem dX11_dye_27 : decode cX11_dye 27 = .ok (.iload_n 3, 1) := by decide +kernel
theorem dX11_dye_28 : decode cX11_dye 28 = .ok (.invokevirtual 272, 3) := by decide +kernel
theorem dX11_dye_31 : decode cX11_dye 31 = .ok (.goto 4, 3) := by decide +kernel
theorem dX11_dye_34 : decode cX11_dye 34 = .ok (.iconst (-1), 1) := by decide +kernel
theorem dX11_dye_35 : decode cX11_dye 35 = .ok (.ireturn, 1) := by decide +kernel
set_option maxHeartbeats 4000000 in
set_option maxRecDepth 100000 in
theorem c_X11_dye (l : Launch) (E : Nat → ClassId) (D : va_G) (G : th_G) (h0 n : Nat) (hG0 : G h0 = some (15, n)) (x1 x2 x3 : Int32) : Met l yX11_dye (tb (.code yX11_dye cX11_dye 4 (some .int))) (rm 8) (va_Pc [.ref h0, .int x1, .int x2, .int x3] (th_P E D G)) (QI E D G (fun r => True)) 0 0 (th_A G) := by
  refine Met.ofW (cc := cX11_dye) (maxL := 4) (ret := (some .int)) (by decide) rfl ?_
  intro p e s m args below meth c s₁ B hml hv
  obtain ⟨hav, hI, hN, hK⟩ := hv
  have hx := B.exec
  have hb := B.bytes
  have hr := B.returns
  have hts := atoms_spec (ws := tb (.code yX11_dye cX11_dye 4 (some .int))) B.pre
  have hown : s.vm.findClass RX11 = some m.cls := findClass_of_methodNamed B.named
  have hlocks := B.notSynchronized
  have hS : va_S (th_A G) s.heap s.heap [] := va_S.rf
  have hl := lv_entry ([.ref h0, .int x1, .int x2, .int x3]) (n := 4) (Nat.le_of_ble_eq_true rfl)
  rw [show entryFrame m args 4 = entryFrame m ([.ref h0, .int x1, .int x2, .int x3] : List Value).toArray 4 from by rw [hav], lg_entry_eq]
  generalize (lg_sl ([.ref h0, .int x1, .int x2, .int x3]) ++ List.replicate (4 - (lg_sl ([.ref h0, .int x1, .int x2, .int x3])).length) Slot.unset).toArray = ls at hl ⊢
  have hl : lv_has ls 4 [(0, .ref h0), (1, .int x1), (2, .int x2), (3, .int x3)] := hl
  generalize hR : (headSpec (tb (.code yX11_dye cX11_dye 4 (some .int))) (rm 8)).room = R
  have hR := hR.symm
  generalize hQ : MQ below (QI E D G (fun r => True)) args s 0 0 (th_A G) = QF
  have hQ := hQ.symm
  refine lv_iload_n hx hb dX11_dye_0 rfl (lv_at hl 1 rfl) ?_
  refine th_cSs (As := [.int x1]) (rest := []) (n := 1) (d := 0) ⟨hx, hb, hml, hown, hts⟩ (c_X11_isPlace l s.heap x1) wd_847 wd_848 wd_1 wd_849 (by decide +kernel) ⟨by rw [hR]; exact Nat.le_of_ble_eq_true rfl, by rw [hR]; exact Nat.le_of_ble_eq_true rfl⟩ hN hS rfl hl.1 rfl (Nat.le_of_ble_eq_true rfl) dX11_dye_1 ⟨Nat.zero_le _, Nat.zero_le _⟩ (fun r1 locs hp hS => ?_)
  rcases hp with ⟨rfl, hp⟩ | ⟨rfl, hp⟩
  · skip
    try simp only [rg, not_and, Int.not_le] at hp
    have hp2 := hp
    refine lv_if_eq (tgt := 34) hx hb dX11_dye_4 (by decide) (fun c => absurd c (by decide)) (fun _ => ?_)
    refine lv_iload_n hx hb dX11_dye_7 rfl (lv_at hl 2 rfl) ?_
    refine th_cSs (As := [.int x2]) (rest := []) (n := 1) (d := 0) ⟨hx, hb, hml, hown, hts⟩ (c_X11_isMoment l s.heap x2) wd_826 wd_827 wd_1 wd_828 (by decide +kernel) ⟨by rw [hR]; exact Nat.le_of_ble_eq_true rfl, by rw [hR]; exact Nat.le_of_ble_eq_true rfl⟩ hN hS rfl hl.1 rfl (Nat.le_of_ble_eq_true rfl) dX11_dye_8 ⟨Nat.zero_le _, Nat.zero_le _⟩ (fun r3 locs hp hS => ?_)
    rcases hp with ⟨rfl, hp⟩ | ⟨rfl, hp⟩
    · skip
      try simp only [rg, not_and, Int.not_le] at hp
      have hp4 := hp
      refine lv_if_eq (tgt := 34) hx hb dX11_dye_11 (by decide) (fun c => absurd c (by decide)) (fun _ => ?_)
      refine lv_iload_n hx hb dX11_dye_14 rfl (lv_at hl 3 rfl) ?_
      refine th_cSs (As := [.int x3]) (rest := []) (n := 1) (d := 0) ⟨hx, hb, hml, hown, hts⟩ (c_X11_isColour l s.heap x3) wd_620 wd_621 wd_1 wd_622 (by decide +kernel) ⟨by rw [hR]; exact Nat.le_of_ble_eq_true rfl, by rw [hR]; exact Nat.le_of_ble_eq_true rfl⟩ hN hS rfl hl.1 rfl (Nat.le_of_ble_eq_true rfl) dX11_dye_15 ⟨Nat.zero_le _, Nat.zero_le _⟩ (fun r5 locs hp hS => ?_)
      rcases hp with ⟨rfl, hp⟩ | ⟨rfl, hp⟩
      · skip
        try simp only [rg, not_and, Int.not_le] at hp
        have hp6 := hp
        refine lv_if_eq (tgt := 34) hx hb dX11_dye_18 (by decide) (fun c => absurd c (by decide)) (fun _ => ?_)
        refine lv_aload_n hx hb dX11_dye_21 rfl (lv_at hl 0 rfl) ?_
        obtain ⟨a7, a11, a13, a15, a17, a19, a21, a23, a25, a27, a29, w31, w34, w35, w36, w37, hO, hq8, ⟨m10, hq9⟩, hq12, hq14, hq16, hq18, hq20, hq22, hq24, hq26, hq28, hq30, ⟨k32, k33⟩⟩ := op_15 hI hG0 List.not_mem_nil
        have hI := th_I.weak (a := h0) hI
        refine th_get hx hb hts inT11 hown hK hO rfl 8 (by decide) (hts _ (tb_c wd_353)) rfl rfl dX11_dye_22 ?_
        refine lv_iload_n hx hb dX11_dye_25 rfl (lv_at hl 1 rfl) ?_
        refine lv_iload_n hx hb dX11_dye_26 rfl (lv_at hl 2 rfl) ?_
        refine lv_iload_n hx hb dX11_dye_27 rfl (lv_at hl 3 rfl) ?_
        have hI := th_I.close hI hG0 hO (ok_15 hq8 ⟨_, hq9⟩ hq12 hq14 hq16 hq18 hq20 hq22 hq24 hq26 hq28 hq30 ⟨by omega, by omega⟩)
        refine th_cVi (As := [.int x1, .int x2, .int x3]) (rest := []) (n := 3) (d := 7) ⟨hx, hb, hml, hown, hts⟩ (c_X1_amountAt l E D G a23 hq24 x1 x2 x3) wd_916 wd_917 wd_918 wd_9 wd_919 (by decide +kernel) ⟨by rw [hR]; exact Nat.le_of_ble_eq_true rfl, by rw [hR]; exact Nat.le_of_ble_eq_true rfl⟩ hI hN hK hS (rc_11 hI hq24 List.not_mem_nil) rfl rfl hl.1 rfl (Nat.le_of_ble_eq_true rfl) dX11_dye_28 ⟨Nat.zero_le _, Nat.zero_le _⟩ (fun r38 H locs hp hI hS => ?_)
        refine lv_goto (tgt := 35) hx hb dX11_dye_31 (by decide) ?_
        have hpost : True := trivial
        rw [hQ]
        exact W.iret (v := r38) hx hb hr (fun t ht hW => ⟨⟨r38, (), rfl, hpost, by rw [ht]; exact hI, hN.warm hW, va_K.moved hW.alike hK⟩, hS.F ht⟩) hS.2.2 dX11_dye_35
      · skip
        try simp only [rg, not_and, Int.not_le] at hp
        have hp39 := hp
        refine lv_if_eq (tgt := 34) hx hb dX11_dye_18 (by decide) (fun _ => ?_) (fun c => absurd c (by decide))
        refine lv_iconst (v := (-1)) hx hb dX11_dye_34 (by decide) ?_
        have hpost : True := trivial
        rw [hQ]
        exact W.iret (v := (-1)) hx hb hr (fun t ht hW => ⟨⟨(-1), (), rfl, hpost, by rw [ht]; exact hI, hN.warm hW, va_K.moved hW.alike hK⟩, hS.F ht⟩) hS.2.2 dX11_dye_35
    · skip
      try simp only [rg, not_and, Int.not_le] at hp
      have hp40 := hp
      refine lv_if_eq (tgt := 34) hx hb dX11_dye_11 (by decide) (fun _ => ?_) (fun c => absurd c (by decide))
      refine lv_iconst (v := (-1)) hx hb dX11_dye_34 (by decide) ?_
      have hpost : True := trivial
      rw [hQ]
      exact W.iret (v := (-1)) hx hb hr (fun t ht hW => ⟨⟨(-1), (), rfl, hpost, by rw [ht]; exact hI, hN.warm hW, va_K.moved hW.alike hK⟩, hS.F ht⟩) hS.2.2 dX11_dye_35
  · skip
    try simp only [rg, not_and, Int.not_le] at hp
    have hp41 := hp
    refine lv_if_eq (tgt := 34) hx hb dX11_dye_4 (by decide) (fun _ => ?_) (fun c => absurd c (by decide))
    refine lv_iconst (v := (-1)) hx hb dX11_dye_34 (by decide) ?_
    have hpost : True := trivial
    rw [hQ]
    exact W.iret (v := (-1)) hx hb hr (fun t ht hW => ⟨⟨(-1), (), rfl, hpost, by rw [ht]; exact hI, hN.warm hW, va_K.moved hW.alike hK⟩, hS.F ht⟩) hS.2.2 dX11_dye_35
theorem dX11_comes_0 : decode cX11_comes 0 = .ok (.iload_n 1, 1) := by decide +kernel
theorem dX11_comes_1 : decode cX11_comes 1 = .ok (.invokestatic 240, 3) := by decide +kernel
theorem dX11_comes_4 : decode cX11_comes 4 = .ok (.ifCond .eq 30, 3) := by decide +kernel
theorem dX11_comes_7 : decode cX11_comes 7 = .ok (.iload_n 2, 1) := by decide +kernel
theorem dX11_comes_8 : decode cX11_comes 8 = .ok (.invokestatic 269, 3) := by decide +kernel
theorem dX11_comes_11 : decode cX11_comes 11 = .ok (.ifCond .eq 23, 3) := by decide +kernel
theorem dX11_comes_14 : decode cX11_comes 14 = .ok (.iload_n 3, 1) := by decide +kernel
theorem dX11_comes_15 : decode cX11_comes 15 = .ok (.invokestatic 226, 3) := by decide +kernel
theorem dX11_comes_18 : decode cX11_comes 18 = .ok (.ifCond .eq 16, 3) := by decide +kernel
theorem dX11_comes_21 : decode cX11_comes 21 = .ok (.aload_n 0, 1) := by decide +kernel
theorem dX11_comes_22 : decode cX11_comes 22 = .ok (.getfield 60, 3) := by decide +kernel
theorem dX11_comes_25 : decode cX11_comes 25 = .ok (.iload_n 1, 1) := by decide +kernel
theorem dX11_comes_26 : decode cX11_comes 26 = .ok (.iload_n 2, 1) := by decide +kernel
theorem dX11_comes_27 : decode cX11_comes 27 = .ok (.iload_n 3, 1) := by decide +kernel
theorem dX11_comes_28 : decode cX11_comes 28 = .ok (.invokevirtual 275, 3) := by decide +kernel
theorem dX11_comes_31 : decode cX11_comes 31 = .ok (.goto 4, 3) := by decide +kernel
theorem dX11_comes_34 : decode cX11_comes 34 = .ok (.iconst (-1), 1) := by decide +kernel
theorem dX11_comes_35 : decode cX11_comes 35 = .ok (.ireturn, 1) := by decide +kernel
set_option maxHeartbeats 4000000 in
set_option maxRecDepth 100000 in
theorem c_X11_comes (l : Launch) (E : Nat → ClassId) (D : va_G) (G : th_G) (h0 n : Nat) (hG0 : G h0 = some (15, n)) (x1 x2 x3 : Int32) : Met l yX11_comes (tb (.code yX11_comes cX11_comes 4 (some .int))) (rm 8) (va_Pc [.ref h0, .int x1, .int x2, .int x3] (th_P E D G)) (QI E D G (fun r => True)) 0 0 (th_A G) := by
  refine Met.ofW (cc := cX11_comes) (maxL := 4) (ret := (some .int)) (by decide) rfl ?_
  intro p e s m args below meth c s₁ B hml hv
  obtain ⟨hav, hI, hN, hK⟩ := hv
  have hx := B.exec
  have hb := B.bytes
  have hr := B.returns
  have hts := atoms_spec (ws := tb (.code yX11_comes cX11_comes 4 (some .int))) B.pre
  have hown : s.vm.findClass RX11 = some m.cls := findClass_of_methodNamed B.named
  have hlocks := B.notSynchronized
  have hS : va_S (th_A G) s.heap s.heap [] := va_S.rf
  have hl := lv_entry ([.ref h0, .int x1, .int x2, .int x3]) (n := 4) (Nat.le_of_ble_eq_true rfl)
  rw [show entryFrame m args 4 = entryFrame m ([.ref h0, .int x1, .int x2, .int x3] : List Value).toArray 4 from by rw [hav], lg_entry_eq]
  generalize (lg_sl ([.ref h0, .int x1, .int x2, .int x3]) ++ List.replicate (4 - (lg_sl ([.ref h0, .int x1, .int x2, .int x3])).length) Slot.unset).toArray = ls at hl ⊢
  have hl : lv_has ls 4 [(0, .ref h0), (1, .int x1), (2, .int x2), (3, .int x3)] := hl
  generalize hR : (headSpec (tb (.code yX11_comes cX11_comes 4 (some .int))) (rm 8)).room = R
  have hR := hR.symm
  generalize hQ : MQ below (QI E D G (fun r => True)) args s 0 0 (th_A G) = QF
  have hQ := hQ.symm
  refine lv_iload_n hx hb dX11_comes_0 rfl (lv_at hl 1 rfl) ?_
  refine th_cSs (As := [.int x1]) (rest := []) (n := 1) (d := 0) ⟨hx, hb, hml, hown, hts⟩ (c_X11_isPlace l s.heap x1) wd_847 wd_848 wd_1 wd_849 (by decide +kernel) ⟨by rw [hR]; exact Nat.le_of_ble_eq_true rfl, by rw [hR]; exact Nat.le_of_ble_eq_true rfl⟩ hN hS rfl hl.1 rfl (Nat.le_of_ble_eq_true rfl) dX11_comes_1 ⟨Nat.zero_le _, Nat.zero_le _⟩ (fun r1 locs hp hS => ?_)
  rcases hp with ⟨rfl, hp⟩ | ⟨rfl, hp⟩
  · skip
    try simp only [rg, not_and, Int.not_le] at hp
    have hp2 := hp
    refine lv_if_eq (tgt := 34) hx hb dX11_comes_4 (by decide) (fun c => absurd c (by decide)) (fun _ => ?_)
    refine lv_iload_n hx hb dX11_comes_7 rfl (lv_at hl 2 rfl) ?_
    refine th_cSs (As := [.int x2]) (rest := []) (n := 1) (d := 0) ⟨hx, hb, hml, hown, hts⟩ (c_X11_isColour l s.heap x2) wd_620 wd_621 wd_1 wd_622 (by decide +kernel) ⟨by rw [hR]; exact Nat.le_of_ble_eq_true rfl, by rw [hR]; exact Nat.le_of_ble_eq_true rfl⟩ hN hS rfl hl.1 rfl (Nat.le_of_ble_eq_true rfl) dX11_comes_8 ⟨Nat.zero_le _, Nat.zero_le _⟩ (fun r3 locs hp hS => ?_)
    rcases hp with ⟨rfl, hp⟩ | ⟨rfl, hp⟩
    · skip
      try simp only [rg, not_and, Int.not_le] at hp
      have hp4 := hp
      refine lv_if_eq (tgt := 34) hx hb dX11_comes_11 (by decide) (fun c => absurd c (by decide)) (fun _ => ?_)
      refine lv_iload_n hx hb dX11_comes_14 rfl (lv_at hl 3 rfl) ?_
      refine th_cSs (As := [.int x3]) (rest := []) (n := 1) (d := 0) ⟨hx, hb, hml, hown, hts⟩ (c_X11_isMoment l s.heap x3) wd_826 wd_827 wd_1 wd_828 (by decide +kernel) ⟨by rw [hR]; exact Nat.le_of_ble_eq_true rfl, by rw [hR]; exact Nat.le_of_ble_eq_true rfl⟩ hN hS rfl hl.1 rfl (Nat.le_of_ble_eq_true rfl) dX11_comes_15 ⟨Nat.zero_le _, Nat.zero_le _⟩ (fun r5 locs hp hS => ?_)
      rcases hp with ⟨rfl, hp⟩ | ⟨rfl, hp⟩
      · skip
        try simp only [rg, not_and, Int.not_le] at hp
        have hp6 := hp
        refine lv_if_eq (tgt := 34) hx hb dX11_comes_18 (by decide) (fun c => absurd c (by decide)) (fun _ => ?_)
        refine lv_aload_n hx hb dX11_comes_21 rfl (lv_at hl 0 rfl) ?_
        obtain ⟨a7, a11, a13, a15, a17, a19, a21, a23, a25, a27, a29, w31, w34, w35, w36, w37, hO, hq8, ⟨m10, hq9⟩, hq12, hq14, hq16, hq18, hq20, hq22, hq24, hq26, hq28, hq30, ⟨k32, k33⟩⟩ := op_15 hI hG0 List.not_mem_nil
        have hI := th_I.weak (a := h0) hI
        refine th_get hx hb hts inT11 hown hK hO rfl 8 (by decide) (hts _ (tb_c wd_353)) rfl rfl dX11_comes_22 ?_
        refine lv_iload_n hx hb dX11_comes_25 rfl (lv_at hl 1 rfl) ?_
        refine lv_iload_n hx hb dX11_comes_26 rfl (lv_at hl 2 rfl) ?_
        refine lv_iload_n hx hb dX11_comes_27 rfl (lv_at hl 3 rfl) ?_
        have hI := th_I.close hI hG0 hO (ok_15 hq8 ⟨_, hq9⟩ hq12 hq14 hq16 hq18 hq20 hq22 hq24 hq26 hq28 hq30 ⟨by omega, by omega⟩)
        refine th_cVi (As := [.int x1, .int x2, .int x3]) (rest := []) (n := 3) (d := 7) ⟨hx, hb, hml, hown, hts⟩ (c_X1_firstComing l E D G a23 hq24 x1 x2 x3) wd_931 wd_932 wd_933 wd_9 wd_934 (by decide +kernel) ⟨by rw [hR]; exact Nat.le_of_ble_eq_true rfl, by rw [hR]; exact Nat.le_of_ble_eq_true rfl⟩ hI hN hK hS (rc_11 hI hq24 List.not_mem_nil) rfl rfl hl.1 rfl (Nat.le_of_ble_eq_true rfl) dX11_comes_28 ⟨Nat.zero_le _, Nat.zero_le _⟩ (fun r38 H locs hp hI hS => ?_)
        refine lv_goto (tgt := 35) hx hb dX11_comes_31 (by decide) ?_
        have hpost : True := trivial
        rw [hQ]
        exact W.iret (v := r38) hx hb hr (fun t ht hW => ⟨⟨r38, (), rfl, hpost, by rw [ht]; exact hI, hN.warm hW, va_K.moved hW.alike hK⟩, hS.F ht⟩) hS.2.2 dX11_comes_35
      · skip
        try simp only [rg, not_and, Int.not_le] at hp
        have hp39 := hp
        refine lv_if_eq (tgt := 34) hx hb dX11_comes_18 (by decide) (fun _ => ?_) (fun c => absurd c (by decide))
        refine lv_iconst (v := (-1)) hx hb dX11_comes_34 (by decide) ?_
        have hpost : True := trivial
        rw [hQ]
        exact W.iret (v := (-1)) hx hb hr (fun t ht hW => ⟨⟨(-1), (), rfl, hpost, by rw [ht]; exact hI, hN.warm hW, va_K.moved hW.alike hK⟩, hS.F ht⟩) hS.2.2 dX11_comes_35
    · skip
      try simp only [rg, not_and, Int.not_le] at hp
      have hp40 := hp
      refine lv_if_eq (tgt := 34) hx hb dX11_comes_11 (by decide) (fun _ => ?_) (fun c => absurd c (by decide))
      refine lv_iconst (v := (-1)) hx hb dX11_comes_34 (by decide) ?_
      have hpost : True := trivial
      rw [hQ]
      exact W.iret (v := (-1)) hx hb hr (fun t ht hW => ⟨⟨(-1), (), rfl, hpost, by rw [ht]; exact hI, hN.warm hW, va_K.moved hW.alike hK⟩, hS.F ht⟩) hS.2.2 dX11_comes_35
  · skip
    try simp only [rg, not_and, Int.not_le] at hp
    have hp41 := hp
    refine lv_if_eq (tgt := 34) hx hb dX11_comes_4 (by decide) (fun _ => ?_) (fun c => absurd c (by decide))
    refine lv_iconst (v := (-1)) hx hb dX11_comes_34 (by decide) ?_
    have hpost : True := trivial
    rw [hQ]
    exact W.iret (v := (-1)) hx hb hr (fun t ht hW => ⟨⟨(-1), (), rfl, hpost, by rw [ht]; exact hI, hN.warm hW, va_K.moved hW.alike hK⟩, hS.F ht⟩) hS.2.2 dX11_comes_35
theorem dX11_most_0 : decode cX11_most 0 = .ok (.iload_n 1, 1) := by decide +kernel
theorem dX11_most_1 : decode cX11_most 1 = .ok (.invokestatic 211, 3) := by decide +kernel
theorem dX11_most_4 : decode cX11_most 4 = .ok (.ifCond .eq 17, 3) := by decide +kernel
theorem dX11_most_7 : decode cX11_most 7 = .ok (.iload_n 2, 1) := by decide +kernel
theorem dX11_most_8 : decode cX11_most 8 = .ok (.invokestatic 269, 3) := by decide +kernel
theorem dX11_most_11 : decode cX11_most 11 = .ok (.ifCond .eq 10, 3) := by decide +kernel
theorem dX11_most_14 : decode cX11_most 14 = .ok (.iload_n 3, 1) := by decide +kernel
theorem dX11_most_15 : decode cX11_most 15 = .ok (.invokestatic 138, 3) := by decide +kernel
theorem dX11_most_18 : decode cX11_most 18 = .ok (.ifCond .ne 5, 3) := by decide +kernel
theorem dX11_most_21 : decode cX11_most 21 = .ok (.iconst (-1), 1) := by decide +kernel
theorem dX11_most_22 : decode cX11_most 22 = .ok (.ireturn, 1) := by decide +kernel
theorem dX11_most_23 : decode cX11_most 23 = .ok (.aload_n 0, 1) := by decide +kernel
theorem dX11_most_24 : decode cX11_most 24 = .ok (.getfield 60, 3) := by decide +kernel
theorem dX11_most_27 : decode cX11_most 27 = .ok (.iload_n 1, 1) := by decide +kernel
theorem dX11_most_28 : decode cX11_most 28 = .ok (.iload_n 2, 1) := by decide +kernel
theorem dX11_most_29 : decode cX11_most 29 = .ok (.invokevirtual 278, 3) := by decide +kernel
theorem dX11_most_32 : decode cX11_most 32 = .ok (.iload_n 3, 1) := by decide +kernel
theorem dX11_most_33 : decode cX11_most 33 = .ok (.ifCond .ne 13, 3) := by decide +kernel
theorem dX11_most_36 : decode cX11_most 36 = .ok (.aload_n 0, 1) := by decide +kernel
theorem dX11_most_37 : decode cX11_most 37 = .ok (.getfield 60, 3) := by decide +kernel
theorem dX11_most_40 : decode cX11_most 40 = .ok (.invokevirtual 282, 3) := by decide +kernel
theorem dX11_most_43 : decode cX11_most 43 = .ok (.goto 10, 3) := by decide +kernel
theorem dX11_most_46 : decode cX11_most 46 = .ok (.aload_n 0, 1) := by decide +kernel
theorem dX11_most_47 : decode cX11_most 47 = .ok (.getfield 60, 3) := by decide +kernel
theorem dX11_most_50 : decode cX11_most 50 = .ok (.invokevirtual 285, 3) := by decide +kernel
theorem dX11_most_53 : decode cX11_most 53 = .ok (.ireturn, 1) := by decide +kernel
set_option maxHeartbeats 4000000 in
set_option maxRecDepth 100000 in
theorem c_X11_most (l : Launch) (E : Nat → ClassId) (D : va_G) (G : th_G) (h0 n : Nat) (hG0 : G h0 = some (15, n)) (x1 x2 x3 : Int32) : Met l yX11_most (tb (.code yX11_most cX11_most 4 (some .int))) (rm 8) (va_Pc [.ref h0, .int x1, .int x2, .int x3] (th_P E D G)) (QI E D G (fun r => True)) 0 0 (th_A G) := by
  refine Met.ofW (cc := cX11_most) (maxL := 4) (ret := (some .int)) (by decide) rfl ?_
  intro p e s m args below meth c s₁ B hml hv
  obtain ⟨hav, hI, hN, hK⟩ := hv
  have hx := B.exec
  have hb := B.bytes
  have hr := B.returns
  have hts := atoms_spec (ws := tb (.code yX11_most cX11_most 4 (some .int))) B.pre
  have hown : s.vm.findClass RX11 = some m.cls := findClass_of_methodNamed B.named
  have hlocks := B.notSynchronized
  have hS : va_S (th_A G) s.heap s.heap [] := va_S.rf
  have hl := lv_entry ([.ref h0, .int x1, .int x2, .int x3]) (n := 4) (Nat.le_of_ble_eq_true rfl)
  rw [show entryFrame m args 4 = entryFrame m ([.ref h0, .int x1, .int x2, .int x3] : List Value).toArray 4 from by rw [hav], lg_entry_eq]
  generalize (lg_sl ([.ref h0, .int x1, .int x2, .int x3]) ++ List.replicate (4 - (lg_sl ([.ref h0, .int x1, .int x2, .int x3])).length) Slot.unset).toArray = ls at hl ⊢
  have hl : lv_has ls 4 [(0, .ref h0), (1, .int x1), (2, .int x2), (3, .int x3)] := hl
  generalize hR : (headSpec (tb (.code yX11_most cX11_most 4 (some .int))) (rm 8)).room = R
  have hR := hR.symm
  generalize hQ : MQ below (QI E D G (fun r => True)) args s 0 0 (th_A G) = QF
  have hQ := hQ.symm
  have J_21 : ∀ (H : Heap) (locs : List Loc) (ls : Array Slot) , lv_has ls 4 [(0, .ref h0), (1, .int x1), (2, .int x2), (3, .int x3)] → th_I (okC E) D G [] H → va_S (th_A G) s.heap H locs → W p l e R s m args below meth c H locs 0 0 QF (F0 m 21 ls []) := by
    intro H locs ls  hl  hI hS
    refine lv_iconst (v := (-1)) hx hb dX11_most_21 (by decide) ?_
    have hpost : True := trivial
    rw [hQ]
    exact W.iret (v := (-1)) hx hb hr (fun t ht hW => ⟨⟨(-1), (), rfl, hpost, by rw [ht]; exact hI, hN.warm hW, va_K.moved hW.alike hK⟩, hS.F ht⟩) hS.2.2 dX11_most_22
  refine lv_iload_n hx hb dX11_most_0 rfl (lv_at hl 1 rfl) ?_
  refine th_cSs (As := [.int x1]) (rest := []) (n := 1) (d := 0) ⟨hx, hb, hml, hown, hts⟩ (c_X11_isHour l s.heap x1) wd_466 wd_467 wd_1 wd_468 (by decide +kernel) ⟨by rw [hR]; exact Nat.le_of_ble_eq_true rfl, by rw [hR]; exact Nat.le_of_ble_eq_true rfl⟩ hN hS rfl hl.1 rfl (Nat.le_of_ble_eq_true rfl) dX11_most_1 ⟨Nat.zero_le _, Nat.zero_le _⟩ (fun r865 locs hp hS => ?_)
  rcases hp with ⟨rfl, hp⟩ | ⟨rfl, hp⟩
  · skip
    try simp only [rg, not_and, Int.not_le] at hp
    have hp866 := hp
    refine lv_if_eq (tgt := 21) hx hb dX11_most_4 (by decide) (fun c => absurd c (by decide)) (fun _ => ?_)
    refine lv_iload_n hx hb dX11_most_7 rfl (lv_at hl 2 rfl) ?_
    refine th_cSs (As := [.int x2]) (rest := []) (n := 1) (d := 0) ⟨hx, hb, hml, hown, hts⟩ (c_X11_isColour l s.heap x2) wd_620 wd_621 wd_1 wd_622 (by decide +kernel) ⟨by rw [hR]; exact Nat.le_of_ble_eq_true rfl, by rw [hR]; exact Nat.le_of_ble_eq_true rfl⟩ hN hS rfl hl.1 rfl (Nat.le_of_ble_eq_true rfl) dX11_most_8 ⟨Nat.zero_le _, Nat.zero_le _⟩ (fun r867 locs hp hS => ?_)
    rcases hp with ⟨rfl, hp⟩ | ⟨rfl, hp⟩
    · skip
      try simp only [rg, not_and, Int.not_le] at hp
      have hp868 := hp
      refine lv_if_eq (tgt := 21) hx hb dX11_most_11 (by decide) (fun c => absurd c (by decide)) (fun _ => ?_)
      refine lv_iload_n hx hb dX11_most_14 rfl (lv_at hl 3 rfl) ?_
      refine th_cSs (As := [.int x3]) (rest := []) (n := 1) (d := 0) ⟨hx, hb, hml, hown, hts⟩ (c_X11_isFlag l s.heap x3) wd_469 wd_470 wd_1 wd_471 (by decide +kernel) ⟨by rw [hR]; exact Nat.le_of_ble_eq_true rfl, by rw [hR]; exact Nat.le_of_ble_eq_true rfl⟩ hN hS rfl hl.1 rfl (Nat.le_of_ble_eq_true rfl) dX11_most_15 ⟨Nat.zero_le _, Nat.zero_le _⟩ (fun r869 locs hp hS => ?_)
      rcases hp with ⟨rfl, hp⟩ | ⟨rfl, hp⟩
      · skip
        try simp only [rg, not_and, Int.not_le] at hp
        have hp870 := hp
        refine lv_if_ne (tgt := 23) hx hb dX11_most_18 (by decide) (fun _ => ?_) (fun c => absurd c (by decide))
        refine lv_aload_n hx hb dX11_most_23 rfl (lv_at hl 0 rfl) ?_
        obtain ⟨a871, a875, a877, a879, a881, a883, a885, a887, a889, a891, a893, w895, w898, w899, w900, w901, hO, hq872, ⟨m874, hq873⟩, hq876, hq878, hq880, hq882, hq884, hq886, hq888, hq890, hq892, hq894, ⟨k896, k897⟩⟩ := op_15 hI hG0 List.not_mem_nil
        have hI := th_I.weak (a := h0) hI
        refine th_get hx hb hts inT11 hown hK hO rfl 8 (by decide) (hts _ (tb_c wd_353)) rfl rfl dX11_most_24 ?_
        refine lv_iload_n hx hb dX11_most_27 rfl (lv_at hl 1 rfl) ?_
        refine lv_iload_n hx hb dX11_most_28 rfl (lv_at hl 2 rfl) ?_
        have hI := th_I.close hI hG0 hO (ok_15 hq872 ⟨_, hq873⟩ hq876 hq878 hq880 hq882 hq884 hq886 hq888 hq890 hq892 hq894 ⟨by omega, by omega⟩)
        refine th_cVv (As := [.int x1, .int x2]) (rest := []) (n := 2) (d := 7) ⟨hx, hb, hml, hown, hts⟩ (c_X1_spread l E D G a887 hq888 x1 x2) wd_941 wd_942 wd_943 wd_9 wd_944 (by decide +kernel) ⟨by rw [hR]; exact Nat.le_of_ble_eq_true rfl, by rw [hR]; exact Nat.le_of_ble_eq_true rfl⟩ hI hN hK hS (rc_11 hI hq888 List.not_mem_nil) rfl rfl hl.1 rfl (Nat.le_of_ble_eq_true rfl) dX11_most_29 ⟨Nat.zero_le _, Nat.zero_le _⟩ (fun H locs hI hS => ?_)
        refine lv_iload_n hx hb dX11_most_32 rfl (lv_at hl 3 rfl) ?_
        refine lv_if_ne (tgt := 46) hx hb dX11_most_33 (by decide) (fun c903 => ?_) (fun c903 => ?_)
        · skip
          have k904 := iv_ne (X := x3.toInt) (Y := (0)) rfl (by decide) c903
          refine lv_aload_n hx hb dX11_most_46 rfl (lv_at hl 0 rfl) ?_
          obtain ⟨a905, a909, a911, a913, a915, a917, a919, a921, a923, a925, a927, w929, w932, w933, w934, w935, hO, hq906, ⟨m908, hq907⟩, hq910, hq912, hq914, hq916, hq918, hq920, hq922, hq924, hq926, hq928, ⟨k930, k931⟩⟩ := op_15 hI hG0 List.not_mem_nil
          have hI := th_I.weak (a := h0) hI
          refine th_get hx hb hts inT11 hown hK hO rfl 8 (by decide) (hts _ (tb_c wd_353)) rfl rfl dX11_most_47 ?_
          have hI := th_I.close hI hG0 hO (ok_15 hq906 ⟨_, hq907⟩ hq910 hq912 hq914 hq916 hq918 hq920 hq922 hq924 hq926 hq928 ⟨by omega, by omega⟩)
          refine th_cVi (As := []) (rest := []) (n := 0) (d := 0) ⟨hx, hb, hml, hown, hts⟩ (c_X1_coloured l E D G a921 hq922 ) wd_951 wd_952 wd_953 wd_9 wd_954 (by decide +kernel) ⟨by rw [hR]; exact Nat.le_of_ble_eq_true rfl, by rw [hR]; exact Nat.le_of_ble_eq_true rfl⟩ hI hN hK hS (rc_11 hI hq922 List.not_mem_nil) rfl rfl hl.1 rfl (Nat.le_of_ble_eq_true rfl) dX11_most_50 ⟨Nat.zero_le _, Nat.zero_le _⟩ (fun r936 H locs hp hI hS => ?_)
          have hpost : True := trivial
          rw [hQ]
          exact W.iret (v := r936) hx hb hr (fun t ht hW => ⟨⟨r936, (), rfl, hpost, by rw [ht]; exact hI, hN.warm hW, va_K.moved hW.alike hK⟩, hS.F ht⟩) hS.2.2 dX11_most_53
        · skip
          have k937 := iv_eq (X := x3.toInt) (Y := (0)) rfl (by decide) c903
          refine lv_aload_n hx hb dX11_most_36 rfl (lv_at hl 0 rfl) ?_
          obtain ⟨a938, a942, a944, a946, a948, a950, a952, a954, a956, a958, a960, w962, w965, w966, w967, w968, hO, hq939, ⟨m941, hq940⟩, hq943, hq945, hq947, hq949, hq951, hq953, hq955, hq957, hq959, hq961, ⟨k963, k964⟩⟩ := op_15 hI hG0 List.not_mem_nil
          have hI := th_I.weak (a := h0) hI
          refine th_get hx hb hts inT11 hown hK hO rfl 8 (by decide) (hts _ (tb_c wd_353)) rfl rfl dX11_most_37 ?_
          have hI := th_I.close hI hG0 hO (ok_15 hq939 ⟨_, hq940⟩ hq943 hq945 hq947 hq949 hq951 hq953 hq955 hq957 hq959 hq961 ⟨by omega, by omega⟩)
          refine th_cVi (As := []) (rest := []) (n := 0) (d := 0) ⟨hx, hb, hml, hown, hts⟩ (c_X1_fullest l E D G a954 hq955 ) wd_947 wd_948 wd_949 wd_9 wd_950 (by decide +kernel) ⟨by rw [hR]; exact Nat.le_of_ble_eq_true rfl, by rw [hR]; exact Nat.le_of_ble_eq_true rfl⟩ hI hN hK hS (rc_11 hI hq955 List.not_mem_nil) rfl rfl hl.1 rfl (Nat.le_of_ble_eq_true rfl) dX11_most_40 ⟨Nat.zero_le _, Nat.zero_le _⟩ (fun r969 H locs hp hI hS => ?_)
          refine lv_goto (tgt := 53) hx hb dX11_most_43 (by decide) ?_
          have hpost : True := trivial
          rw [hQ]
          exact W.iret (v := r969) hx hb hr (fun t ht hW => ⟨⟨r969, (), rfl, hpost, by rw [ht]; exact hI, hN.warm hW, va_K.moved hW.alike hK⟩, hS.F ht⟩) hS.2.2 dX11_most_53
      · skip
        try simp only [rg, not_and, Int.not_le] at hp
        have hp970 := hp
        refine lv_if_ne (tgt := 23) hx hb dX11_most_18 (by decide) (fun c => absurd c (by decide)) (fun _ => ?_)
        exact J_21 s.heap locs ls  (lv_sub hl [0, 1, 2, 3] rfl)  hI hS
    · skip
      try simp only [rg, not_and, Int.not_le] at hp
      have hp971 := hp
      refine lv_if_eq (tgt := 21) hx hb dX11_most_11 (by decide) (fun _ => ?_) (fun c => absurd c (by decide))
      exact J_21 s.heap locs ls  (lv_sub hl [0, 1, 2, 3] rfl)  hI hS
  · skip
    try simp only [rg, not_and, Int.not_le] at hp
    have hp972 := hp
    refine lv_if_eq (tgt := 21) hx hb dX11_most_4 (by decide) (fun _ => ?_) (fun c => absurd c (by decide))
    exact J_21 s.heap locs ls  (lv_sub hl [0, 1, 2, 3] rfl)  hI hS
theorem dX11_least_0 : decode cX11_least 0 = .ok (.iload_n 1, 1) := by decide +kernel
theorem dX11_least_1 : decode cX11_least 1 = .ok (.invokestatic 240, 3) := by decide +kernel
theorem dX11_least_4 : decode cX11_least 4 = .ok (.ifCond .eq 41, 3) := by decide +kernel
theorem dX11_least_7 : decode cX11_least 7 = .ok (.iload_n 2, 1) := by decide +kernel
theorem dX11_least_8 : decode cX11_least 8 = .ok (.invokestatic 226, 3) := by decide +kernel
theorem dX11_least_11 : decode cX11_least 11 = .ok (.ifCond .eq 34, 3) := by decide +kernel
theorem dX11_least_14 : decode cX11_least 14 = .ok (.iload_n 3, 1) := by decide +kernel
theorem dX11_least_15 : decode cX11_least 15 = .ok (.invokestatic 226, 3) := by decide +kernel
theorem dX11_least_18 : decode cX11_least 18 = .ok (.ifCond .eq 27, 3) := by decide +kernel
theorem dX11_least_21 : decode cX11_least 21 = .ok (.iload_n 2, 1) := by decide +kernel
theorem dX11_least_22 : decode cX11_least 22 = .ok (.iload_n 3, 1) := by decide +kernel
theorem dX11_least_23 : decode cX11_least 23 = .ok (.if_icmp .gt 22, 3) := by decide +kernel
theorem dX11_least_26 : decode cX11_least 26 = .ok (.iload 4, 2) := by decide +kernel
theorem dX11_least_28 : decode cX11_least 28 = .ok (.invokestatic 211, 3) := by decide +kernel
theorem dX11_least_31 : decode cX11_least 31 = .ok (.ifCond .eq 14, 3) := by decide +kernel
theorem dX11_least_34 : decode cX11_least 34 = .ok (.iload 5, 2) := by decide +kernel
theorem dX11_least_36 : decode cX11_least 36 = .ok (.ifCond .lt 9, 3) := by decide +kernel
theorem dX11_least_39 : decode cX11_least 39 = .ok (.iload 5, 2) := by decide +kernel
theorem dX11_least_41 : decode cX11_least 41 = .ok (.iconst 3, 1) := by decide +kernel
theorem dX11_least_42 : decode cX11_least 42 = .ok (.if_icmp .le 5, 3) := by decide +kernel
theorem dX11_least_45 : decode cX11_least 45 = .ok (.iconst (-1), 1) := by decide +kernel
theorem dX11_least_46 : decode cX11_least 46 = .ok (.ireturn, 1) := by decide +kernel
theorem dX11_least_47 : decode cX11_least 47 = .ok (.aload_n 0, 1) := by decide +kernel
theorem dX11_least_48 : decode cX11_least 48 = .ok (.getfield 78, 3) := by decide +kernel
theorem dX11_least_51 : decode cX11_least 51 = .ok (.iload_n 1, 1) := by decide +kernel
theorem dX11_least_52 : decode cX11_least 52 = .ok (.iload_n 2, 1) := by decide +kernel
theorem dX11_least_53 : decode cX11_least 53 = .ok (.iload_n 3, 1) := by decide +kernel
theorem dX11_least_54 : decode cX11_least 54 = .ok (.iload 4, 2) := by decide +kernel
theorem dX11_least_56 : decode cX11_least 56 = .ok (.iload 5, 2) := by decide +kernel
theorem dX11_least_58 : decode cX11_least 58 = .ok (.invokevirtual 288, 3) := by decide +kernel
theorem dX11_least_61 : decode cX11_least 61 = .ok (.ireturn, 1) := by decide +kernel
set_option maxHeartbeats 4000000 in
set_option maxRecDepth 100000 in
theorem c_X11_least (l : Launch) (E : Nat → ClassId) (D : va_G) (G : th_G) (h0 n : Nat) (hG0 : G h0 = some (15, n)) (x1 x2 x3 x4 x5 : Int32) : Met l yX11_least (tb (.code yX11_least cX11_least 6 (some .int))) (rm 7) (va_Pc [.ref h0, .int x1, .int x2, .int x3, .int x4, .int x5] (th_P E D G)) (QI E D G (fun r => True)) 0 0 (th_A G) := by
  refine Met.ofW (cc := cX11_least) (maxL := 6) (ret := (some .int)) (by decide) rfl ?_
  intro p e s m args below meth c s₁ B hml hv
  obtain ⟨hav, hI, hN, hK⟩ := hv
  have hx := B.exec
  have hb := B.bytes
  have hr := B.returns
  have hts := atoms_spec (ws := tb (.code yX11_least cX11_least 6 (some .int))) B.pre
  have hown : s.vm.findClass RX11 = some m.cls := findClass_of_methodNamed B.named
  have hlocks := B.notSynchronized
  have hS : va_S (th_A G) s.heap s.heap [] := va_S.rf
  have hl := lv_entry ([.ref h0, .int x1, .int x2, .int x3, .int x4, .int x5]) (n := 6) (Nat.le_of_ble_eq_true rfl)
  rw [show entryFrame m args 6 = entryFrame m ([.ref h0, .int x1, .int x2, .int x3, .int x4, .int x5] : List Value).toArray 6 from by rw [hav], lg_entry_eq]
  generalize (lg_sl ([.ref h0, .int x1, .int x2, .int x3, .int x4, .int x5]) ++ List.replicate (6 - (lg_sl ([.ref h0, .int x1, .int x2, .int x3, .int x4, .int x5])).length) Slot.unset).toArray = ls at hl ⊢
  have hl : lv_has ls 6 [(0, .ref h0), (1, .int x1), (2, .int x2), (3, .int x3), (4, .int x4), (5, .int x5)] := hl
  generalize hR : (headSpec (tb (.code yX11_least cX11_least 6 (some .int))) (rm 7)).room = R
  have hR := hR.symm
  generalize hQ : MQ below (QI E D G (fun r => True)) args s 0 0 (th_A G) = QF
  have hQ := hQ.symm
  have J_45 : ∀ (H : Heap) (locs : List Loc) (ls : Array Slot) , lv_has ls 6 [(0, .ref h0), (1, .int x1), (2, .int x2), (3, .int x3), (4, .int x4), (5, .int x5)] → th_I (okC E) D G [] H → va_S (th_A G) s.heap H locs → W p l e R s m args below meth c H locs 0 0 QF (F0 m 45 ls []) := by
    intro H locs ls  hl  hI hS
    refine lv_iconst (v := (-1)) hx hb dX11_least_45 (by decide) ?_
    have hpost : True := trivial
    rw [hQ]
    exact W.iret (v := (-1)) hx hb hr (fun t ht hW => ⟨⟨(-1), (), rfl, hpost, by rw [ht]; exact hI, hN.warm hW, va_K.moved hW.alike hK⟩, hS.F ht⟩) hS.2.2 dX11_least_46
  refine lv_iload_n hx hb dX11_least_0 rfl (lv_at hl 1 rfl) ?_
  refine th_cSs (As := [.int x1]) (rest := []) (n := 1) (d := 0) ⟨hx, hb, hml, hown, hts⟩ (c_X11_isPlace l s.heap x1) wd_847 wd_848 wd_1 wd_849 (by decide +kernel) ⟨by rw [hR]; exact Nat.le_of_ble_eq_true rfl, by rw [hR]; exact Nat.le_of_ble_eq_true rfl⟩ hN hS rfl hl.1 rfl (Nat.le_of_ble_eq_true rfl) dX11_least_1 ⟨Nat.zero_le _, Nat.zero_le _⟩ (fun r441 locs hp hS => ?_)
  rcases hp with ⟨rfl, hp⟩ | ⟨rfl, hp⟩
  · skip
    try simp only [rg, not_and, Int.not_le] at hp
    have hp442 := hp
    refine lv_if_eq (tgt := 45) hx hb dX11_least_4 (by decide) (fun c => absurd c (by decide)) (fun _ => ?_)
    refine lv_iload_n hx hb dX11_least_7 rfl (lv_at hl 2 rfl) ?_
    refine th_cSs (As := [.int x2]) (rest := []) (n := 1) (d := 0) ⟨hx, hb, hml, hown, hts⟩ (c_X11_isMoment l s.heap x2) wd_826 wd_827 wd_1 wd_828 (by decide +kernel) ⟨by rw [hR]; exact Nat.le_of_ble_eq_true rfl, by rw [hR]; exact Nat.le_of_ble_eq_true rfl⟩ hN hS rfl hl.1 rfl (Nat.le_of_ble_eq_true rfl) dX11_least_8 ⟨Nat.zero_le _, Nat.zero_le _⟩ (fun r443 locs hp hS => ?_)
    rcases hp with ⟨rfl, hp⟩ | ⟨rfl, hp⟩
    · skip
      try simp only [rg, not_and, Int.not_le] at hp
      have hp444 := hp
      refine lv_if_eq (tgt := 45) hx hb dX11_least_11 (by decide) (fun c => absurd c (by decide)) (fun _ => ?_)
      refine lv_iload_n hx hb dX11_least_14 rfl (lv_at hl 3 rfl) ?_
      refine th_cSs (As := [.int x3]) (rest := []) (n := 1) (d := 0) ⟨hx, hb, hml, hown, hts⟩ (c_X11_isMoment l s.heap x3) wd_826 wd_827 wd_1 wd_828 (by decide +kernel) ⟨by rw [hR]; exact Nat.le_of_ble_eq_true rfl, by rw [hR]; exact Nat.le_of_ble_eq_true rfl⟩ hN hS rfl hl.1 rfl (Nat.le_of_ble_eq_true rfl) dX11_least_15 ⟨Nat.zero_le _, Nat.zero_le _⟩ (fun r445 locs hp hS => ?_)
      rcases hp with ⟨rfl, hp⟩ | ⟨rfl, hp⟩
      · skip
        try simp only [rg, not_and, Int.not_le] at hp
        have hp446 := hp
        refine lv_if_eq (tgt := 45) hx hb dX11_least_18 (by decide) (fun c => absurd c (by decide)) (fun _ => ?_)
        refine lv_iload_n hx hb dX11_least_21 rfl (lv_at hl 2 rfl) ?_
        refine lv_iload_n hx hb dX11_least_22 rfl (lv_at hl 3 rfl) ?_
        refine lv_icmp_gt (tgt := 45) hx hb dX11_least_23 (by decide) (fun c447 => ?_) (fun c447 => ?_)
        · skip
          have k448 := iv_lt (X := x3.toInt) (Y := x2.toInt) rfl rfl c447
          exact J_45 s.heap locs ls  (lv_sub hl [0, 1, 2, 3, 4, 5] rfl)  hI hS
        · skip
          have k449 := iv_nlt (X := x3.toInt) (Y := x2.toInt) rfl rfl c447
          refine lv_iload hx hb dX11_least_26 (lv_at hl 4 rfl) ?_
          refine th_cSs (As := [.int x4]) (rest := []) (n := 1) (d := 0) ⟨hx, hb, hml, hown, hts⟩ (c_X11_isHour l s.heap x4) wd_466 wd_467 wd_1 wd_468 (by decide +kernel) ⟨by rw [hR]; exact Nat.le_of_ble_eq_true rfl, by rw [hR]; exact Nat.le_of_ble_eq_true rfl⟩ hN hS rfl hl.1 rfl (Nat.le_of_ble_eq_true rfl) dX11_least_28 ⟨Nat.zero_le _, Nat.zero_le _⟩ (fun r450 locs hp hS => ?_)
          rcases hp with ⟨rfl, hp⟩ | ⟨rfl, hp⟩
          · skip
            try simp only [rg, not_and, Int.not_le] at hp
            have hp451 := hp
            refine lv_if_eq (tgt := 45) hx hb dX11_least_31 (by decide) (fun c => absurd c (by decide)) (fun _ => ?_)
            refine lv_iload hx hb dX11_least_34 (lv_at hl 5 rfl) ?_
            have k452 := iv_lo x5
            have k453 := iv_hi x5
            refine lv_if_lt (tgt := 45) hx hb dX11_least_36 (by decide) (fun c454 => ?_) (fun c454 => ?_)
            · skip
              have k455 := iv_lt (X := x5.toInt) (Y := (0)) rfl (by decide) c454
              exact J_45 s.heap locs ls  (lv_sub hl [0, 1, 2, 3, 4, 5] rfl)  hI hS
            · skip
              have k456 := iv_nlt (X := x5.toInt) (Y := (0)) rfl (by decide) c454
              refine lv_iload hx hb dX11_least_39 (lv_at hl 5 rfl) ?_
              refine lv_iconst (v := 3) hx hb dX11_least_41 (by decide) ?_
              refine lv_icmp_le (tgt := 47) hx hb dX11_least_42 (by decide) (fun c457 => ?_) (fun c457 => ?_)
              · skip
                have k458 := iv_le (X := x5.toInt) (Y := (3)) rfl (by decide) c457
                refine lv_aload_n hx hb dX11_least_47 rfl (lv_at hl 0 rfl) ?_
                obtain ⟨a459, a463, a465, a467, a469, a471, a473, a475, a477, a479, a481, w483, w486, w487, w488, w489, hO, hq460, ⟨m462, hq461⟩, hq464, hq466, hq468, hq470, hq472, hq474, hq476, hq478, hq480, hq482, ⟨k484, k485⟩⟩ := op_15 hI hG0 List.not_mem_nil
                have hI := th_I.weak (a := h0) hI
                refine th_get hx hb hts inT11 hown hK hO rfl 10 (by decide) (hts _ (tb_c wd_355)) rfl rfl dX11_least_48 ?_
                refine lv_iload_n hx hb dX11_least_51 rfl (lv_at hl 1 rfl) ?_
                refine lv_iload_n hx hb dX11_least_52 rfl (lv_at hl 2 rfl) ?_
                refine lv_iload_n hx hb dX11_least_53 rfl (lv_at hl 3 rfl) ?_
                refine lv_iload hx hb dX11_least_54 (lv_at hl 4 rfl) ?_
                refine lv_iload hx hb dX11_least_56 (lv_at hl 5 rfl) ?_
                have hI := th_I.close hI hG0 hO (ok_15 hq460 ⟨_, hq461⟩ hq464 hq466 hq468 hq470 hq472 hq474 hq476 hq478 hq480 hq482 ⟨by omega, by omega⟩)
                refine th_cVi (As := [.int x1, .int x2, .int x3, .int x4, .int x5]) (rest := []) (n := 5) (d := 6) ⟨hx, hb, hml, hown, hts⟩ (c_X8_cheapest l E D G a479 hq480 x1 x2 x3 x4 x5) wd_959 wd_960 wd_961 wd_11 wd_962 (by decide +kernel) ⟨by rw [hR]; exact Nat.le_of_ble_eq_true rfl, by rw [hR]; exact Nat.le_of_ble_eq_true rfl⟩ hI hN hK hS (rc_13 hI hq480 List.not_mem_nil) rfl rfl hl.1 rfl (Nat.le_of_ble_eq_true rfl) dX11_least_58 ⟨Nat.zero_le _, Nat.zero_le _⟩ (fun r490 H locs hp hI hS => ?_)
                have hpost : True := trivial
                rw [hQ]
                exact W.iret (v := r490) hx hb hr (fun t ht hW => ⟨⟨r490, (), rfl, hpost, by rw [ht]; exact hI, hN.warm hW, va_K.moved hW.alike hK⟩, hS.F ht⟩) hS.2.2 dX11_least_61
              · skip
                have k491 := iv_nle (X := x5.toInt) (Y := (3)) rfl (by decide) c457
                exact J_45 s.heap locs ls  (lv_sub hl [0, 1, 2, 3, 4, 5] rfl)  hI hS
          · skip
            try simp only [rg, not_and, Int.not_le] at hp
            have hp492 := hp
            refine lv_if_eq (tgt := 45) hx hb dX11_least_31 (by decide) (fun _ => ?_) (fun c => absurd c (by decide))
            exact J_45 s.heap locs ls  (lv_sub hl [0, 1, 2, 3, 4, 5] rfl)  hI hS
      · skip
        try simp only [rg, not_and, Int.not_le] at hp
        have hp493 := hp
        refine lv_if_eq (tgt := 45) hx hb dX11_least_18 (by decide) (fun _ => ?_) (fun c => absurd c (by decide))
        exact J_45 s.heap locs ls  (lv_sub hl [0, 1, 2, 3, 4, 5] rfl)  hI hS
    · skip
      try simp only [rg, not_and, Int.not_le] at hp
      have hp494 := hp
      refine lv_if_eq (tgt := 45) hx hb dX11_least_11 (by decide) (fun _ => ?_) (fun c => absurd c (by decide))
      exact J_45 s.heap locs ls  (lv_sub hl [0, 1, 2, 3, 4, 5] rfl)  hI hS
  · skip
    try simp only [rg, not_and, Int.not_le] at hp
    have hp495 := hp
    refine lv_if_eq (tgt := 45) hx hb dX11_least_4 (by decide) (fun _ => ?_) (fun c => absurd c (by decide))
    exact J_45 s.heap locs ls  (lv_sub hl [0, 1, 2, 3, 4, 5] rfl)  hI hS
theorem dX11_sight_0 : decode cX11_sight 0 = .ok (.iload_n 1, 1) := by decide +kernel
theorem dX11_sight_1 : decode cX11_sight 1 = .ok (.invokestatic 106, 3) := by decide +kernel
theorem dX11_sight_4 : decode cX11_sight 4 = .ok (.ifCond .eq 25, 3) := by decide +kernel
theorem dX11_sight_7 : decode cX11_sight 7 = .ok (.iload_n 2, 1) := by decide +kernel
theorem dX11_sight_8 : decode cX11_sight 8 = .ok (.invokestatic 226, 3) := by decide +kernel
theorem dX11_sight_11 : decode cX11_sight 11 = .ok (.ifCond .eq 18, 3) := by decide +kernel
theorem dX11_sight_14 : decode cX11_sight 14 = .ok (.iload_n 3, 1) := by decide +kernel
theorem dX11_sight_15 : decode cX11_sight 15 = .ok (.invokestatic 269, 3) := by decide +kernel
theorem dX11_sight_18 : decode cX11_sight 18 = .ok (.ifCond .eq 11, 3) := by decide +kernel
theorem dX11_sight_21 : decode cX11_sight 21 = .ok (.iload 4, 2) := by decide +kernel
theorem dX11_sight_23 : decode cX11_sight 23 = .ok (.invokestatic 138, 3) := by decide +kernel
theorem dX11_sight_26 : decode cX11_sight 26 = .ok (.ifCond .ne 9, 3) := by decide +kernel
theorem dX11_sight_29 : decode cX11_sight 29 = .ok (.aload_n 0, 1) := by decide +kernel
theorem dX11_sight_30 : decode cX11_sight 30 = .ok (.iconst (-1), 1) := by decide +kernel
theorem dX11_sight_31 : decode cX11_sight 31 = .ok (.invokevirtual 113, 3) := by decide +kernel
theorem dX11_sight_34 : decode cX11_sight 34 = .ok (.ireturn, 1) := by decide +kernel
theorem dX11_sight_35 : decode cX11_sight 35 = .ok (.aload_n 0, 1) := by decide +kernel
theorem dX11_sight_36 : decode cX11_sight 36 = .ok (.getfield 12, 3) := by decide +kernel
theorem dX11_sight_39 : decode cX11_sight 39 = .ok (.getfield 292, 3) := by decide +kernel
theorem dX11_sight_42 : decode cX11_sight 42 = .ok (.invokevirtual 149, 3) := by decide +kernel
theorem dX11_sight_45 : decode cX11_sight 45 = .ok (.ifCond .eq 10, 3) := by decide +kernel
theorem dX11_sight_48 : decode cX11_sight 48 = .ok (.aload_n 0, 1) := by decide +kernel
theorem dX11_sight_49 : decode cX11_sight 49 = .ok (.bipush (-5), 2) := by decide +kernel
theorem dX11_sight_51 : decode cX11_sight 51 = .ok (.invokevirtual 113, 3) := by decide +kernel
theorem dX11_sight_54 : decode cX11_sight 54 = .ok (.ireturn, 1) := by decide +kernel
theorem dX11_sight_55 : decode cX11_sight 55 = .ok (.aload_n 0, 1) := by decide +kernel
theorem dX11_sight_56 : decode cX11_sight 56 = .ok (.getfield 12, 3) := by decide +kernel
theorem dX11_sight_59 : decode cX11_sight 59 = .ok (.getfield 292, 3) := by decide +kernel
theorem dX11_sight_62 : decode cX11_sight 62 = .ok (.iload_n 1, 1) := by decide +kernel
theorem dX11_sight_63 : decode cX11_sight 63 = .ok (.iload_n 2, 1) := by decide +kernel
theorem dX11_sight_64 : decode cX11_sight 64 = .ok (.iload_n 3, 1) := by decide +kernel
theorem dX11_sight_65 : decode cX11_sight 65 = .ok (.iload 4, 2) := by decide +kernel
theorem dX11_sight_67 : decode cX11_sight 67 = .ok (.invokevirtual 155, 3) := by decide +kernel
theorem dX11_sight_70 : decode cX11_sight 70 = .ok (.pop, 1) := by decide +kernel
theorem dX11_sight_71 : decode cX11_sight 71 = .ok (.aload_n 0, 1) := by decide +kernel
theorem dX11_sight_72 : decode cX11_sight 72 = .ok (.invokevirtual 191, 3) := by decide +kernel
theorem dX11_sight_75 : decode cX11_sight 75 = .ok (.aload_n 0, 1) := by decide +kernel
theorem dX11_sight_76 : decode cX11_sight 76 = .ok (.aload_n 0, 1) := by decide +kernel
theorem dX11_sight_77 : decode cX11_sight 77 = .ok (.getfield 12, 3) := by decide +kernel
theorem dX11_sight_80 : decode cX11_sight 80 = .ok (.getfield 292, 3) := by decide +kernel
theorem dX11_sight_83 : decode cX11_sight 83 = .ok (.invokevirtual 166, 3) := by decide +kernel
theorem dX11_sight_86 : decode cX11_sight 86 = .ok (.invokevirtual 127, 3) := by decide +kernel
theorem dX11_sight_89 : decode cX11_sight 89 = .ok (.ireturn, 1) := by decide +kernel
set_option maxHeartbeats 4000000 in
set_option maxRecDepth 100000 in
theorem c_X11_sight (l : Launch) (E : Nat → ClassId) (D : va_G) (G : th_G) (h0 n : Nat) (hG0 : G h0 = some (15, n)) (x1 x2 x3 x4 : Int32) : Met l yX11_sight (tb (.code yX11_sight cX11_sight 5 (some .int))) (rm 2) (va_Pc [.ref h0, .int x1, .int x2, .int x3, .int x4] (th_P E D G)) (QI E D G (fun r => True)) 0 0 (th_A G) := by
  refine Met.ofW (cc := cX11_sight) (maxL := 5) (ret := (some .int)) (by decide) rfl ?_
  intro p e s m args below meth c s₁ B hml hv
  obtain ⟨hav, hI, hN, hK⟩ := hv
  have hx := B.exec
  have hb := B.bytes
  have hr := B.returns
  have hts := atoms_spec (ws := tb (.code yX11_sight cX11_sight 5 (some .int))) B.pre
  have hown : s.vm.findClass RX11 = some m.cls := findClass_of_methodNamed B.named
  have hlocks := B.notSynchronized
  have hS : va_S (th_A G) s.heap s.heap [] := va_S.rf
  have hl := lv_entry ([.ref h0, .int x1, .int x2, .int x3, .int x4]) (n := 5) (Nat.le_of_ble_eq_true rfl)
  rw [show entryFrame m args 5 = entryFrame m ([.ref h0, .int x1, .int x2, .int x3, .int x4] : List Value).toArray 5 from by rw [hav], lg_entry_eq]
  generalize (lg_sl ([.ref h0, .int x1, .int x2, .int x3, .int x4]) ++ List.replicate (5 - (lg_sl ([.ref h0, .int x1, .int x2, .int x3, .int x4])).length) Slot.unset).toArray = ls at hl ⊢
  have hl : lv_has ls 5 [(0, .ref h0), (1, .int x1), (2, .int x2), (3, .int x3), (4, .int x4)] := hl
  generalize hR : (headSpec (tb (.code yX11_sight cX11_sight 5 (some .int))) (rm 2)).room = R
  have hR := hR.symm
  generalize hQ : MQ below (QI E D G (fun r => True)) args s 0 0 (th_A G) = QF
  have hQ := hQ.symm
  have J_29 : ∀ (H : Heap) (locs : List Loc) (ls : Array Slot) , lv_has ls 5 [(0, .ref h0), (1, .int x1), (2, .int x2), (3, .int x3), (4, .int x4)] → th_I (okC E) D G [] H → va_S (th_A G) s.heap H locs → W p l e R s m args below meth c H locs 0 0 QF (F0 m 29 ls []) := by
    intro H locs ls  hl  hI hS
    refine lv_aload_n hx hb dX11_sight_29 rfl (lv_at hl 0 rfl) ?_
    refine lv_iconst (v := (-1)) hx hb dX11_sight_30 (by decide) ?_
    refine th_cVi (As := [.int (-1)]) (rest := []) (n := 1) (d := 0) ⟨hx, hb, hml, hown, hts⟩ (c_X11_refuse l E D G h0 (n) hG0 (-1)) wd_407 wd_409 wp_0 wd_1 wd_410 (by decide +kernel) ⟨by rw [hR]; exact Nat.le_of_ble_eq_true rfl, by rw [hR]; exact Nat.le_of_ble_eq_true rfl⟩ hI hN hK hS (rc_15 hI hG0 List.not_mem_nil) rfl rfl hl.1 rfl (Nat.le_of_ble_eq_true rfl) dX11_sight_31 ⟨Nat.zero_le _, Nat.zero_le _⟩ (fun r1648 H locs hp hI hS => ?_)
    have hp := hp.symm
    subst hp
    have hpost : True := trivial
    rw [hQ]
    exact W.iret (v := (-1)) hx hb hr (fun t ht hW => ⟨⟨(-1), (), rfl, hpost, by rw [ht]; exact hI, hN.warm hW, va_K.moved hW.alike hK⟩, hS.F ht⟩) hS.2.2 dX11_sight_34
  refine lv_iload_n hx hb dX11_sight_0 rfl (lv_at hl 1 rfl) ?_
  refine th_cSs (As := [.int x1]) (rest := []) (n := 1) (d := 0) ⟨hx, hb, hml, hown, hts⟩ (c_X11_isCell l s.heap x1) wd_401 wd_402 wd_1 wd_403 (by decide +kernel) ⟨by rw [hR]; exact Nat.le_of_ble_eq_true rfl, by rw [hR]; exact Nat.le_of_ble_eq_true rfl⟩ hN hS rfl hl.1 rfl (Nat.le_of_ble_eq_true rfl) dX11_sight_1 ⟨Nat.zero_le _, Nat.zero_le _⟩ (fun r1649 locs hp hS => ?_)
  rcases hp with ⟨rfl, hp⟩ | ⟨rfl, hp⟩
  · skip
    try simp only [rg, not_and, Int.not_le] at hp
    have hp1650 := hp
    refine lv_if_eq (tgt := 29) hx hb dX11_sight_4 (by decide) (fun c => absurd c (by decide)) (fun _ => ?_)
    refine lv_iload_n hx hb dX11_sight_7 rfl (lv_at hl 2 rfl) ?_
    refine th_cSs (As := [.int x2]) (rest := []) (n := 1) (d := 0) ⟨hx, hb, hml, hown, hts⟩ (c_X11_isMoment l s.heap x2) wd_826 wd_827 wd_1 wd_828 (by decide +kernel) ⟨by rw [hR]; exact Nat.le_of_ble_eq_true rfl, by rw [hR]; exact Nat.le_of_ble_eq_true rfl⟩ hN hS rfl hl.1 rfl (Nat.le_of_ble_eq_true rfl) dX11_sight_8 ⟨Nat.zero_le _, Nat.zero_le _⟩ (fun r1651 locs hp hS => ?_)
    rcases hp with ⟨rfl, hp⟩ | ⟨rfl, hp⟩
    · skip
      try simp only [rg, not_and, Int.not_le] at hp
      have hp1652 := hp
      refine lv_if_eq (tgt := 29) hx hb dX11_sight_11 (by decide) (fun c => absurd c (by decide)) (fun _ => ?_)
      refine lv_iload_n hx hb dX11_sight_14 rfl (lv_at hl 3 rfl) ?_
      refine th_cSs (As := [.int x3]) (rest := []) (n := 1) (d := 0) ⟨hx, hb, hml, hown, hts⟩ (c_X11_isColour l s.heap x3) wd_620 wd_621 wd_1 wd_622 (by decide +kernel) ⟨by rw [hR]; exact Nat.le_of_ble_eq_true rfl, by rw [hR]; exact Nat.le_of_ble_eq_true rfl⟩ hN hS rfl hl.1 rfl (Nat.le_of_ble_eq_true rfl) dX11_sight_15 ⟨Nat.zero_le _, Nat.zero_le _⟩ (fun r1653 locs hp hS => ?_)
      rcases hp with ⟨rfl, hp⟩ | ⟨rfl, hp⟩
      · skip
        try simp only [rg, not_and, Int.not_le] at hp
        have hp1654 := hp
        refine lv_if_eq (tgt := 29) hx hb dX11_sight_18 (by decide) (fun c => absurd c (by decide)) (fun _ => ?_)
        refine lv_iload hx hb dX11_sight_21 (lv_at hl 4 rfl) ?_
        refine th_cSs (As := [.int x4]) (rest := []) (n := 1) (d := 0) ⟨hx, hb, hml, hown, hts⟩ (c_X11_isFlag l s.heap x4) wd_469 wd_470 wd_1 wd_471 (by decide +kernel) ⟨by rw [hR]; exact Nat.le_of_ble_eq_true rfl, by rw [hR]; exact Nat.le_of_ble_eq_true rfl⟩ hN hS rfl hl.1 rfl (Nat.le_of_ble_eq_true rfl) dX11_sight_23 ⟨Nat.zero_le _, Nat.zero_le _⟩ (fun r1655 locs hp hS => ?_)
        rcases hp with ⟨rfl, hp⟩ | ⟨rfl, hp⟩
        · skip
          try simp only [rg, not_and, Int.not_le] at hp
          have hp1656 := hp
          refine lv_if_ne (tgt := 35) hx hb dX11_sight_26 (by decide) (fun _ => ?_) (fun c => absurd c (by decide))
          refine lv_aload_n hx hb dX11_sight_35 rfl (lv_at hl 0 rfl) ?_
          obtain ⟨a1657, a1661, a1663, a1665, a1667, a1669, a1671, a1673, a1675, a1677, a1679, w1681, w1684, w1685, w1686, w1687, hO, hq1658, ⟨m1660, hq1659⟩, hq1662, hq1664, hq1666, hq1668, hq1670, hq1672, hq1674, hq1676, hq1678, hq1680, ⟨k1682, k1683⟩⟩ := op_15 hI hG0 List.not_mem_nil
          have hI := th_I.weak (a := h0) hI
          refine th_get hx hb hts inT11 hown hK hO rfl 0 (by decide) (hts _ (tb_c wd_345)) rfl rfl dX11_sight_36 ?_
          have hI := th_I.close hI hG0 hO (ok_15 hq1658 ⟨_, hq1659⟩ hq1662 hq1664 hq1666 hq1668 hq1670 hq1672 hq1674 hq1676 hq1678 hq1680 ⟨by omega, by omega⟩)
          obtain ⟨a1688, a1690, a1692, a1694, a1696, a1698, a1700, a1702, a1704, a1706, w1708, w1711, w1712, w1713, hO, hq1689, hq1691, hq1693, hq1695, hq1697, hq1699, hq1701, hq1703, hq1705, hq1707, ⟨k1709, k1710⟩⟩ := op_6 hI hq1658 List.not_mem_nil
          have hI := th_I.weak (a := a1657) hI
          refine th_getN hx hb hts inT6 hown hK hN hO rfl 6 (by decide) wn_74 rfl rfl dX11_sight_39 ?_
          have hI := th_I.close hI hq1658 hO (ok_6 hq1689 hq1691 hq1693 hq1695 hq1697 hq1699 hq1701 hq1703 hq1705 hq1707 ⟨by omega, by omega⟩)
          obtain ⟨a1715, w1717, hO, hq1716, ⟨k1718, k1719⟩, k1720⟩ := op_4 hI hq1701 List.not_mem_nil
          have hI := th_I.weak (a := a1700) hI
          have k1721 : (nI 10).toInt = ((10 : Nat) : Int) := nI_toInt (by omega)
          refine th_cVs (As := []) (rest := []) (n := 0) (d := 0) ⟨hx, hb, hml, hown, hts⟩ (c_X4_isFull l E D s.heap a1700 10 a1715 w1717 hO (by omega) (by omega) (by omega)) wd_481 wd_482 wd_483 wd_3 wd_484 (by decide +kernel) ⟨by rw [hR]; exact Nat.le_of_ble_eq_true rfl, by rw [hR]; exact Nat.le_of_ble_eq_true rfl⟩ hN hK hS ⟨_, hO⟩ rfl rfl hl.1 rfl (Nat.le_of_ble_eq_true rfl) dX11_sight_42 ⟨Nat.zero_le _, Nat.zero_le _⟩ (fun r1714 locs hp hS => ?_)
          rcases hp with ⟨rfl, hp⟩ | ⟨rfl, hp⟩
          · skip
            try simp only [rg, not_and, Int.not_le] at hp
            have hp1722 := hp
            refine lv_if_eq (tgt := 55) hx hb dX11_sight_45 (by decide) (fun c => absurd c (by decide)) (fun _ => ?_)
            refine lv_aload_n hx hb dX11_sight_48 rfl (lv_at hl 0 rfl) ?_
            refine lv_bipush (v := (-5)) hx hb dX11_sight_49 (by decide) ?_
            have hI := th_I.close hI hq1701 hO (ok_4 hq1716 ⟨by omega, by omega⟩ (by omega))
            refine th_cVi (As := [.int (-5)]) (rest := []) (n := 1) (d := 0) ⟨hx, hb, hml, hown, hts⟩ (c_X11_refuse l E D G h0 (n) hG0 (-5)) wd_407 wd_409 wp_0 wd_1 wd_410 (by decide +kernel) ⟨by rw [hR]; exact Nat.le_of_ble_eq_true rfl, by rw [hR]; exact Nat.le_of_ble_eq_true rfl⟩ hI hN hK hS (rc_15 hI hG0 List.not_mem_nil) rfl rfl hl.1 rfl (Nat.le_of_ble_eq_true rfl) dX11_sight_51 ⟨Nat.zero_le _, Nat.zero_le _⟩ (fun r1723 H locs hp hI hS => ?_)
            have hp := hp.symm
            subst hp
            have hpost : True := trivial
            rw [hQ]
            exact W.iret (v := (-5)) hx hb hr (fun t ht hW => ⟨⟨(-5), (), rfl, hpost, by rw [ht]; exact hI, hN.warm hW, va_K.moved hW.alike hK⟩, hS.F ht⟩) hS.2.2 dX11_sight_54
          · skip
            have hp1724 := hp
            refine lv_if_eq (tgt := 55) hx hb dX11_sight_45 (by decide) (fun _ => ?_) (fun c => absurd c (by decide))
            refine lv_aload_n hx hb dX11_sight_55 rfl (lv_at hl 0 rfl) ?_
            have hI := th_I.close hI hq1701 hO (ok_4 hq1716 ⟨by omega, by omega⟩ (by omega))
            obtain ⟨a1725, a1729, a1731, a1733, a1735, a1737, a1739, a1741, a1743, a1745, a1747, w1749, w1752, w1753, w1754, w1755, hO, hq1726, ⟨m1728, hq1727⟩, hq1730, hq1732, hq1734, hq1736, hq1738, hq1740, hq1742, hq1744, hq1746, hq1748, ⟨k1750, k1751⟩⟩ := op_15 hI hG0 List.not_mem_nil
            have hI := th_I.weak (a := h0) hI
            refine th_get hx hb hts inT11 hown hK hO rfl 0 (by decide) (hts _ (tb_c wd_345)) rfl rfl dX11_sight_56 ?_
            have hI := th_I.close hI hG0 hO (ok_15 hq1726 ⟨_, hq1727⟩ hq1730 hq1732 hq1734 hq1736 hq1738 hq1740 hq1742 hq1744 hq1746 hq1748 ⟨by omega, by omega⟩)
            obtain ⟨a1756, a1758, a1760, a1762, a1764, a1766, a1768, a1770, a1772, a1774, w1776, w1779, w1780, w1781, hO, hq1757, hq1759, hq1761, hq1763, hq1765, hq1767, hq1769, hq1771, hq1773, hq1775, ⟨k1777, k1778⟩⟩ := op_6 hI hq1726 List.not_mem_nil
            have hI := th_I.weak (a := a1725) hI
            refine th_getN hx hb hts inT6 hown hK hN hO rfl 6 (by decide) wn_74 rfl rfl dX11_sight_59 ?_
            refine lv_iload_n hx hb dX11_sight_62 rfl (lv_at hl 1 rfl) ?_
            refine lv_iload_n hx hb dX11_sight_63 rfl (lv_at hl 2 rfl) ?_
            refine lv_iload_n hx hb dX11_sight_64 rfl (lv_at hl 3 rfl) ?_
            refine lv_iload hx hb dX11_sight_65 (lv_at hl 4 rfl) ?_
            have hI := th_I.close hI hq1726 hO (ok_6 hq1757 hq1759 hq1761 hq1763 hq1765 hq1767 hq1769 hq1771 hq1773 hq1775 ⟨by omega, by omega⟩)
            refine th_cVi (As := [.int x1, .int x2, .int x3, .int x4]) (rest := []) (n := 4) (d := 1) ⟨hx, hb, hml, hown, hts⟩ (c_X4_put l E D G a1768 (10) hq1769 x1 x2 x3 x4) wd_485 wd_486 wd_487 wd_3 wd_488 (by decide +kernel) ⟨by rw [hR]; exact Nat.le_of_ble_eq_true rfl, by rw [hR]; exact Nat.le_of_ble_eq_true rfl⟩ hI hN hK hS (rc_4 hI hq1769 List.not_mem_nil) rfl rfl hl.1 rfl (Nat.le_of_ble_eq_true rfl) dX11_sight_67 ⟨Nat.zero_le _, Nat.zero_le _⟩ (fun r1782 H locs hp hI hS => ?_)
            refine lv_pop hx hb dX11_sight_70 rfl ?_
            refine lv_aload_n hx hb dX11_sight_71 rfl (lv_at hl 0 rfl) ?_
            refine th_cVv (As := []) (rest := []) (n := 0) (d := 1) ⟨hx, hb, hml, hown, hts⟩ (c_X11_turnLists l E D G h0 (n) hG0 ) wd_431 wd_433 wp_2 wd_1 wd_434 (by decide +kernel) ⟨by rw [hR]; exact Nat.le_of_ble_eq_true rfl, by rw [hR]; exact Nat.le_of_ble_eq_true rfl⟩ hI hN hK hS (rc_15 hI hG0 List.not_mem_nil) rfl rfl hl.1 rfl (Nat.le_of_ble_eq_true rfl) dX11_sight_72 ⟨Nat.zero_le _, Nat.zero_le _⟩ (fun H locs hI hS => ?_)
            refine lv_aload_n hx hb dX11_sight_75 rfl (lv_at hl 0 rfl) ?_
            refine lv_aload_n hx hb dX11_sight_76 rfl (lv_at hl 0 rfl) ?_
            obtain ⟨a1784, a1788, a1790, a1792, a1794, a1796, a1798, a1800, a1802, a1804, a1806, w1808, w1811, w1812, w1813, w1814, hO, hq1785, ⟨m1787, hq1786⟩, hq1789, hq1791, hq1793, hq1795, hq1797, hq1799, hq1801, hq1803, hq1805, hq1807, ⟨k1809, k1810⟩⟩ := op_15 hI hG0 List.not_mem_nil
            have hI := th_I.weak (a := h0) hI
            refine th_get hx hb hts inT11 hown hK hO rfl 0 (by decide) (hts _ (tb_c wd_345)) rfl rfl dX11_sight_77 ?_
            have hI := th_I.close hI hG0 hO (ok_15 hq1785 ⟨_, hq1786⟩ hq1789 hq1791 hq1793 hq1795 hq1797 hq1799 hq1801 hq1803 hq1805 hq1807 ⟨by omega, by omega⟩)
            obtain ⟨a1815, a1817, a1819, a1821, a1823, a1825, a1827, a1829, a1831, a1833, w1835, w1838, w1839, w1840, hO, hq1816, hq1818, hq1820, hq1822, hq1824, hq1826, hq1828, hq1830, hq1832, hq1834, ⟨k1836, k1837⟩⟩ := op_6 hI hq1785 List.not_mem_nil
            have hI := th_I.weak (a := a1784) hI
            refine th_getN hx hb hts inT6 hown hK hN hO rfl 6 (by decide) wn_74 rfl rfl dX11_sight_80 ?_
            have hI := th_I.close hI hq1785 hO (ok_6 hq1816 hq1818 hq1820 hq1822 hq1824 hq1826 hq1828 hq1830 hq1832 hq1834 ⟨by omega, by omega⟩)
            obtain ⟨a1842, w1844, hO, hq1843, ⟨k1845, k1846⟩, k1847⟩ := op_4 hI hq1828 List.not_mem_nil
            have hI := th_I.weak (a := a1827) hI
            have k1848 : (nI 10).toInt = ((10 : Nat) : Int) := nI_toInt (by omega)
            refine th_cVs (As := []) (rest := [.ref h0]) (n := 0) (d := 0) ⟨hx, hb, hml, hown, hts⟩ (c_X4_size l E D H a1827 10 a1842 w1844 hO (by omega) (by omega) (by omega)) wd_506 wd_507 wd_508 wd_3 wd_509 (by decide +kernel) ⟨by rw [hR]; exact Nat.le_of_ble_eq_true rfl, by rw [hR]; exact Nat.le_of_ble_eq_true rfl⟩ hN hK hS ⟨_, hO⟩ rfl rfl hl.1 rfl (Nat.le_of_ble_eq_true rfl) dX11_sight_83 ⟨Nat.zero_le _, Nat.zero_le _⟩ (fun r1841 locs hp hS => ?_)
            have hp := hp.symm
            subst hp
            have hI := th_I.close hI hq1828 hO (ok_4 hq1843 ⟨by omega, by omega⟩ (by omega))
            refine th_cVi (As := [.int w1844]) (rest := []) (n := 1) (d := 0) ⟨hx, hb, hml, hown, hts⟩ (c_X11_accept l E D G h0 (n) hG0 w1844) wd_447 wd_449 wp_3 wd_1 wd_450 (by decide +kernel) ⟨by rw [hR]; exact Nat.le_of_ble_eq_true rfl, by rw [hR]; exact Nat.le_of_ble_eq_true rfl⟩ hI hN hK hS (rc_15 hI hG0 List.not_mem_nil) rfl rfl hl.1 rfl (Nat.le_of_ble_eq_true rfl) dX11_sight_86 ⟨Nat.zero_le _, Nat.zero_le _⟩ (fun r1849 H locs hp hI hS => ?_)
            have hp := hp.symm
            subst hp
            have hpost : True := trivial
            rw [hQ]
            exact W.iret (v := w1844) hx hb hr (fun t ht hW => ⟨⟨w1844, (), rfl, hpost, by rw [ht]; exact hI, hN.warm hW, va_K.moved hW.alike hK⟩, hS.F ht⟩) hS.2.2 dX11_sight_89
        · skip
          try simp only [rg, not_and, Int.not_le] at hp
          have hp1850 := hp
          refine lv_if_ne (tgt := 35) hx hb dX11_sight_26 (by decide) (fun c => absurd c (by decide)) (fun _ => ?_)
          exact J_29 s.heap locs ls  (lv_sub hl [0, 1, 2, 3, 4] rfl)  hI hS
      · skip
        try simp only [rg, not_and, Int.not_le] at hp
        have hp1851 := hp
        refine lv_if_eq (tgt := 29) hx hb dX11_sight_18 (by decide) (fun _ => ?_) (fun c => absurd c (by decide))
        exact J_29 s.heap locs ls  (lv_sub hl [0, 1, 2, 3, 4] rfl)  hI hS
    · skip
      try simp only [rg, not_and, Int.not_le] at hp
      have hp1852 := hp
      refine lv_if_eq (tgt := 29) hx hb dX11_sight_11 (by decide) (fun _ => ?_) (fun c => absurd c (by decide))
      exact J_29 s.heap locs ls  (lv_sub hl [0, 1, 2, 3, 4] rfl)  hI hS
  · skip
    try simp only [rg, not_and, Int.not_le] at hp
    have hp1853 := hp
    refine lv_if_eq (tgt := 29) hx hb dX11_sight_4 (by decide) (fun _ => ?_) (fun c => absurd c (by decide))
    exact J_29 s.heap locs ls  (lv_sub hl [0, 1, 2, 3, 4] rfl)  hI hS
theorem dX11_forget_0 : decode cX11_forget 0 = .ok (.aload_n 0, 1) := by decide +kernel
theorem dX11_forget_1 : decode cX11_forget 1 = .ok (.invokevirtual 191, 3) := by decide +kernel
theorem dX11_forget_4 : decode cX11_forget 4 = .ok (.aload_n 0, 1) := by decide +kernel
theorem dX11_forget_5 : decode cX11_forget 5 = .ok (.getfield 12, 3) := by decide +kernel
theorem dX11_forget_8 : decode cX11_forget 8 = .ok (.getfield 292, 3) := by decide +kernel
theorem dX11_forget_11 : decode cX11_forget 11 = .ok (.invokevirtual 295, 3) := by decide +kernel
theorem dX11_forget_14 : decode cX11_forget 14 = .ok (.ireturn, 1) := by decide +kernel
set_option maxHeartbeats 4000000 in
set_option maxRecDepth 100000 in
theorem c_X11_forget (l : Launch) (E : Nat → ClassId) (D : va_G) (G : th_G) (h0 n : Nat) (hG0 : G h0 = some (15, n)) : Met l yX11_forget (tb (.code yX11_forget cX11_forget 1 (some .int))) (rm 2) (va_Pc [.ref h0] (th_P E D G)) (QI E D G (fun r => True)) 0 0 (th_A G) := by
  refine Met.ofW (cc := cX11_forget) (maxL := 1) (ret := (some .int)) (by decide) rfl ?_
  intro p e s m args below meth c s₁ B hml hv
  obtain ⟨hav, hI, hN, hK⟩ := hv
  have hx := B.exec
  have hb := B.bytes
  have hr := B.returns
  have hts := atoms_spec (ws := tb (.code yX11_forget cX11_forget 1 (some .int))) B.pre
  have hown : s.vm.findClass RX11 = some m.cls := findClass_of_methodNamed B.named
  have hlocks := B.notSynchronized
  have hS : va_S (th_A G) s.heap s.heap [] := va_S.rf
  have hl := lv_entry ([.ref h0]) (n := 1) (Nat.le_of_ble_eq_true rfl)
  rw [show entryFrame m args 1 = entryFrame m ([.ref h0] : List Value).toArray 1 from by rw [hav], lg_entry_eq]
  generalize (lg_sl ([.ref h0]) ++ List.replicate (1 - (lg_sl ([.ref h0])).length) Slot.unset).toArray = ls at hl ⊢
  have hl : lv_has ls 1 [(0, .ref h0)] := hl
  generalize hR : (headSpec (tb (.code yX11_forget cX11_forget 1 (some .int))) (rm 2)).room = R
  have hR := hR.symm
  generalize hQ : MQ below (QI E D G (fun r => True)) args s 0 0 (th_A G) = QF
  have hQ := hQ.symm
  refine lv_aload_n hx hb dX11_forget_0 rfl (lv_at hl 0 rfl) ?_
  refine th_cVv (As := []) (rest := []) (n := 0) (d := 1) ⟨hx, hb, hml, hown, hts⟩ (c_X11_turnLists l E D G h0 (n) hG0 ) wd_431 wd_433 wp_2 wd_1 wd_434 (by decide +kernel) ⟨by rw [hR]; exact Nat.le_of_ble_eq_true rfl, by rw [hR]; exact Nat.le_of_ble_eq_true rfl⟩ hI hN hK hS (rc_15 hI hG0 List.not_mem_nil) rfl rfl hl.1 rfl (Nat.le_of_ble_eq_true rfl) dX11_forget_1 ⟨Nat.zero_le _, Nat.zero_le _⟩ (fun H locs hI hS => ?_)
  refine lv_aload_n hx hb dX11_forget_4 rfl (lv_at hl 0 rfl) ?_
  obtain ⟨a2, a6, a8, a10, a12, a14, a16, a18, a20, a22, a24, w26, w29, w30, w31, w32, hO, hq3, ⟨m5, hq4⟩, hq7, hq9, hq11, hq13, hq15, hq17, hq19, hq21, hq23, hq25, ⟨k27, k28⟩⟩ := op_15 hI hG0 List.not_mem_nil
  have hI := th_I.weak (a := h0) hI
  refine th_get hx hb hts inT11 hown hK hO rfl 0 (by decide) (hts _ (tb_c wd_345)) rfl rfl dX11_forget_5 ?_
  have hI := th_I.close hI hG0 hO (ok_15 hq3 ⟨_, hq4⟩ hq7 hq9 hq11 hq13 hq15 hq17 hq19 hq21 hq23 hq25 ⟨by omega, by omega⟩)
  obtain ⟨a33, a35, a37, a39, a41, a43, a45, a47, a49, a51, w53, w56, w57, w58, hO, hq34, hq36, hq38, hq40, hq42, hq44, hq46, hq48, hq50, hq52, ⟨k54, k55⟩⟩ := op_6 hI hq3 List.not_mem_nil
  have hI := th_I.weak (a := a2) hI
  refine th_getN hx hb hts inT6 hown hK hN hO rfl 6 (by decide) wn_74 rfl rfl dX11_forget_8 ?_
  have hI := th_I.close hI hq3 hO (ok_6 hq34 hq36 hq38 hq40 hq42 hq44 hq46 hq48 hq50 hq52 ⟨by omega, by omega⟩)
  refine th_cVi (As := []) (rest := []) (n := 0) (d := 0) ⟨hx, hb, hml, hown, hts⟩ (c_X4_clear l E D G a45 (10) hq46 ) wd_983 wd_984 wd_985 wd_3 wd_986 (by decide +kernel) ⟨by rw [hR]; exact Nat.le_of_ble_eq_true rfl, by rw [hR]; exact Nat.le_of_ble_eq_true rfl⟩ hI hN hK hS (rc_4 hI hq46 List.not_mem_nil) rfl rfl hl.1 rfl (Nat.le_of_ble_eq_true rfl) dX11_forget_11 ⟨Nat.zero_le _, Nat.zero_le _⟩ (fun r59 H locs hp hI hS => ?_)
  have hpost : True := trivial
  rw [hQ]
  exact W.iret (v := r59) hx hb hr (fun t ht hW => ⟨⟨r59, (), rfl, hpost, by rw [ht]; exact hI, hN.warm hW, va_K.moved hW.alike hK⟩, hS.F ht⟩) hS.2.2 dX11_forget_14
theorem dX11_so_0 : decode cX11_so 0 = .ok (.aload_n 0, 1) := by decide +kernel
theorem dX11_so_1 : decode cX11_so 1 = .ok (.getfield 12, 3) := by decide +kernel
theorem dX11_so_4 : decode cX11_so 4 = .ok (.getfield 292, 3) := by decide +kernel
theorem dX11_so_7 : decode cX11_so 7 = .ok (.iload_n 1, 1) := by decide +kernel
theorem dX11_so_8 : decode cX11_so 8 = .ok (.invokevirtual 159, 3) := by decide +kernel
theorem dX11_so_11 : decode cX11_so 11 = .ok (.ifCond .ne 5, 3) := by decide +kernel
theorem dX11_so_14 : decode cX11_so 14 = .ok (.iconst (-1), 1) := by decide +kernel
theorem dX11_so_15 : decode cX11_so 15 = .ok (.ireturn, 1) := by decide +kernel
theorem dX11_so_16 : decode cX11_so 16 = .ok (.aload_n 0, 1) := by decide +kernel
theorem dX11_so_17 : decode cX11_so 17 = .ok (.getfield 60, 3) := by decide +kernel
theorem dX11_so_20 : decode cX11_so 20 = .ok (.aload_n 0, 1) := by decide +kernel
theorem dX11_so_21 : decode cX11_so 21 = .ok (.getfield 12, 3) := by decide +kernel
theorem dX11_so_24 : decode cX11_so 24 = .ok (.getfield 292, 3) := by decide +kernel
theorem dX11_so_27 : decode cX11_so 27 = .ok (.iload_n 1, 1) := by decide +kernel
theorem dX11_so_28 : decode cX11_so 28 = .ok (.iconst 0, 1) := by decide +kernel
theorem dX11_so_29 : decode cX11_so 29 = .ok (.invokevirtual 173, 3) := by decide +kernel
theorem dX11_so_32 : decode cX11_so 32 = .ok (.aload_n 0, 1) := by decide +kernel
theorem dX11_so_33 : decode cX11_so 33 = .ok (.getfield 12, 3) := by decide +kernel
theorem dX11_so_36 : decode cX11_so 36 = .ok (.getfield 292, 3) := by decide +kernel
theorem dX11_so_39 : decode cX11_so 39 = .ok (.iload_n 1, 1) := by decide +kernel
theorem dX11_so_40 : decode cX11_so 40 = .ok (.iconst 1, 1) := by decide +kernel
theorem dX11_so_41 : decode cX11_so 41 = .ok (.invokevirtual 173, 3) := by decide +kernel
theorem dX11_so_44 : decode cX11_so 44 = .ok (.aload_n 0, 1) := by decide +kernel
theorem dX11_so_45 : decode cX11_so 45 = .ok (.getfield 12, 3) := by decide +kernel
theorem dX11_so_48 : decode cX11_so 48 = .ok (.getfield 292, 3) := by decide +kernel
theorem dX11_so_51 : decode cX11_so 51 = .ok (.iload_n 1, 1) := by decide +kernel
theorem dX11_so_52 : decode cX11_so 52 = .ok (.iconst 2, 1) := by decide +kernel
theorem dX11_so_53 : decode cX11_so 53 = .ok (.invokevirtual 173, 3) := by decide +kernel
theorem dX11_so_56 : decode cX11_so 56 = .ok (.invokevirtual 272, 3) := by decide +kernel
theorem dX11_so_59 : decode cX11_so 59 = .ok (.istore_n 2, 1) := by decide +kernel
theorem dX11_so_60 : decode cX11_so 60 = .ok (.aload_n 0, 1) := by decide +kernel
theorem dX11_so_61 : decode cX11_so 61 = .ok (.getfield 12, 3) := by decide +kernel
theorem dX11_so_64 : decode cX11_so 64 = .ok (.getfield 292, 3) := by decide +kernel
theorem dX11_so_67 : decode cX11_so 67 = .ok (.iload_n 1, 1) := by decide +kernel
theorem dX11_so_68 : decode cX11_so 68 = .ok (.iconst 3, 1) := by decide +kernel
theorem dX11_so_69 : decode cX11_so 69 = .ok (.invokevirtual 173, 3) := by decide +kernel
theorem dX11_so_72 : decode cX11_so 72 = .ok (.iconst 1, 1) := by decide +kernel
theorem dX11_so_73 : decode cX11_so 73 = .ok (.if_icmp .ne 7, 3) := by decide +kernel
theorem dX11_so_76 : decode cX11_so 76 = .ok (.iconst 1, 1) := by decide +kernel
theorem dX11_so_77 : decode cX11_so 77 = .ok (.goto 4, 3) := by decide +kernel
theorem dX11_so_80 : decode cX11_so 80 = .ok (.iconst 0, 1) := by decide +kernel
theorem dX11_so_81 : decode cX11_so 81 = .ok (.istore_n 3, 1) := by decide +kernel
theorem dX11_so_82 : decode cX11_so 82 = .ok (.iload_n 2, 1) := by decide +kernel
theorem dX11_so_83 : decode cX11_so 83 = .ok (.ifCond .le 7, 3) := by decide +kernel
theorem dX11_so_86 : decode cX11_so 86 = .ok (.iconst 1, 1) := by decide +kernel
theorem dX11_so_87 : decode cX11_so 87 = .ok (.goto 4, 3) := by decide +kernel
theorem dX11_so_90 : decode cX11_so 90 = .ok (.iconst 0, 1) := by decide +kernel
theorem dX11_so_91 : decode cX11_so 91 = .ok (.iload_n 3, 1) := by decide +kernel
theorem dX11_so_92 : decode cX11_so 92 = .ok (.if_icmp .ne 7, 3) := by decide +kernel
theorem dX11_so_95 : decode cX11_so 95 = .ok (.iconst 1, 1) := by decide +kernel
theorem dX11_so_96 : decode cX11_so 96 = .ok (.goto 4, 3) := by decide +kernel
theorem dX11_so_99 : decode cX11_so 99 = .ok (.iconst 0, 1) := by decide +kernel
theorem dX11_so_100 : decode cX11_so 100 = .ok (.ireturn, 1) := by decide +kernel
set_option maxHeartbeats 4000000 in
set_option maxRecDepth 100000 in
theorem c_X11_so (l : Launch) (E : Nat → ClassId) (D : va_G) (G : th_G) (h0 n : Nat) (hG0 : G h0 = some (15, n)) (x1 : Int32) : Met l yX11_so (tb (.code yX11_so cX11_so 4 (some .int))) (rm 8) (va_Pc [.ref h0, .int x1] (th_P E D G)) (QI E D G (fun r => True)) 0 0 (th_A G) := by
  refine Met.ofW (cc := cX11_so) (maxL := 4) (ret := (some .int)) (by decide) rfl ?_
  intro p e s m args below meth c s₁ B hml hv
  obtain ⟨hav, hI, hN, hK⟩ := hv
  have hx := B.exec
  have hb := B.bytes
  have hr := B.returns
  have hts := atoms_spec (ws := tb (.code yX11_so cX11_so 4 (some .int))) B.pre
  have hown : s.vm.findClass RX11 = some m.cls := findClass_of_methodNamed B.named
  have hlocks := B.notSynchronized
  have hS : va_S (th_A G) s.heap s.heap [] := va_S.rf
  have hl := lv_entry ([.ref h0, .int x1]) (n := 4) (Nat.le_of_ble_eq_true rfl)
  rw [show entryFrame m args 4 = entryFrame m ([.ref h0, .int x1] : List Value).toArray 4 from by rw [hav], lg_entry_eq]
  generalize (lg_sl ([.ref h0, .int x1]) ++ List.replicate (4 - (lg_sl ([.ref h0, .int x1])).length) Slot.unset).toArray = ls at hl ⊢
  have hl : lv_has ls 4 [(0, .ref h0), (1, .int x1)] := hl
  generalize hR : (headSpec (tb (.code yX11_so cX11_so 4 (some .int))) (rm 8)).room = R
  have hR := hR.symm
  generalize hQ : MQ below (QI E D G (fun r => True)) args s 0 0 (th_A G) = QF
  have hQ := hQ.symm
  have J_81 : ∀ (H : Heap) (locs : List Loc) (ls : Array Slot) (v2532 : Int32) (v2533 : Int32), lv_has ls 4 [(2, .int v2532), (0, .ref h0), (1, .int x1)] → ((0 : Int) ≤ x1.toInt ∧ x1.toInt ≤ 15) → ((0 : Int) ≤ v2533.toInt ∧ v2533.toInt ≤ 1) → th_I (okC E) D G [] H → va_S (th_A G) s.heap H locs → W p l e R s m args below meth c H locs 0 0 QF (F0 m 81 ls [.int v2533]) := by
    intro H locs ls v2532 v2533 hl k2534 k2535 hI hS
    refine lv_istore_n (lv' := [(3, .int v2533), (2, .int v2532), (0, .ref h0), (1, .int x1)]) hx hb dX11_so_81 rfl hl (by decide) rfl (fun ls hl => ?_)
    refine lv_iload_n hx hb dX11_so_82 rfl (lv_at hl 1 rfl) ?_
    have k2536 := iv_lo v2532
    have k2537 := iv_hi v2532
    refine lv_if_le (tgt := 90) hx hb dX11_so_83 (by decide) (fun c2538 => ?_) (fun c2538 => ?_)
    · skip
      have k2539 := iv_le (X := v2532.toInt) (Y := (0)) rfl (by decide) c2538
      refine lv_iconst (v := 0) hx hb dX11_so_90 (by decide) ?_
      refine lv_iload_n hx hb dX11_so_91 rfl (lv_at hl 0 rfl) ?_
      refine lv_icmp_ne (tgt := 99) hx hb dX11_so_92 (by decide) (fun c2540 => ?_) (fun c2540 => ?_)
      · skip
        have k2541 := iv_ne (X := (0)) (Y := v2533.toInt) (by decide) rfl c2540
        refine lv_iconst (v := 0) hx hb dX11_so_99 (by decide) ?_
        have hpost : True := trivial
        rw [hQ]
        exact W.iret (v := 0) hx hb hr (fun t ht hW => ⟨⟨0, (), rfl, hpost, by rw [ht]; exact hI, hN.warm hW, va_K.moved hW.alike hK⟩, hS.F ht⟩) hS.2.2 dX11_so_100
      · skip
        have k2542 := iv_eq (X := (0)) (Y := v2533.toInt) (by decide) rfl c2540
        refine lv_iconst (v := 1) hx hb dX11_so_95 (by decide) ?_
        refine lv_goto (tgt := 100) hx hb dX11_so_96 (by decide) ?_
        have hpost : True := trivial
        rw [hQ]
        exact W.iret (v := 1) hx hb hr (fun t ht hW => ⟨⟨1, (), rfl, hpost, by rw [ht]; exact hI, hN.warm hW, va_K.moved hW.alike hK⟩, hS.F ht⟩) hS.2.2 dX11_so_100
    · skip
      have k2543 := iv_nle (X := v2532.toInt) (Y := (0)) rfl (by decide) c2538
      refine lv_iconst (v := 1) hx hb dX11_so_86 (by decide) ?_
      refine lv_goto (tgt := 91) hx hb dX11_so_87 (by decide) ?_
      refine lv_iload_n hx hb dX11_so_91 rfl (lv_at hl 0 rfl) ?_
      refine lv_icmp_ne (tgt := 99) hx hb dX11_so_92 (by decide) (fun c2544 => ?_) (fun c2544 => ?_)
      · skip
        have k2545 := iv_ne (X := (1)) (Y := v2533.toInt) (by decide) rfl c2544
        refine lv_iconst (v := 0) hx hb dX11_so_99 (by decide) ?_
        have hpost : True := trivial
        rw [hQ]
        exact W.iret (v := 0) hx hb hr (fun t ht hW => ⟨⟨0, (), rfl, hpost, by rw [ht]; exact hI, hN.warm hW, va_K.moved hW.alike hK⟩, hS.F ht⟩) hS.2.2 dX11_so_100
      · skip
        have k2546 := iv_eq (X := (1)) (Y := v2533.toInt) (by decide) rfl c2544
        refine lv_iconst (v := 1) hx hb dX11_so_95 (by decide) ?_
        refine lv_goto (tgt := 100) hx hb dX11_so_96 (by decide) ?_
        have hpost : True := trivial
        rw [hQ]
        exact W.iret (v := 1) hx hb hr (fun t ht hW => ⟨⟨1, (), rfl, hpost, by rw [ht]; exact hI, hN.warm hW, va_K.moved hW.alike hK⟩, hS.F ht⟩) hS.2.2 dX11_so_100
  refine lv_aload_n hx hb dX11_so_0 rfl (lv_at hl 0 rfl) ?_
  obtain ⟨a2547, a2551, a2553, a2555, a2557, a2559, a2561, a2563, a2565, a2567, a2569, w2571, w2574, w2575, w2576, w2577, hO, hq2548, ⟨m2550, hq2549⟩, hq2552, hq2554, hq2556, hq2558, hq2560, hq2562, hq2564, hq2566, hq2568, hq2570, ⟨k2572, k2573⟩⟩ := op_15 hI hG0 List.not_mem_nil
  have hI := th_I.weak (a := h0) hI
  refine th_get hx hb hts inT11 hown hK hO rfl 0 (by decide) (hts _ (tb_c wd_345)) rfl rfl dX11_so_1 ?_
  have hI := th_I.close hI hG0 hO (ok_15 hq2548 ⟨_, hq2549⟩ hq2552 hq2554 hq2556 hq2558 hq2560 hq2562 hq2564 hq2566 hq2568 hq2570 ⟨by omega, by omega⟩)
  obtain ⟨a2578, a2580, a2582, a2584, a2586, a2588, a2590, a2592, a2594, a2596, w2598, w2601, w2602, w2603, hO, hq2579, hq2581, hq2583, hq2585, hq2587, hq2589, hq2591, hq2593, hq2595, hq2597, ⟨k2599, k2600⟩⟩ := op_6 hI hq2548 List.not_mem_nil
  have hI := th_I.weak (a := a2547) hI
  refine th_getN hx hb hts inT6 hown hK hN hO rfl 6 (by decide) wn_74 rfl rfl dX11_so_4 ?_
  refine lv_iload_n hx hb dX11_so_7 rfl (lv_at hl 1 rfl) ?_
  have hI := th_I.close hI hq2548 hO (ok_6 hq2579 hq2581 hq2583 hq2585 hq2587 hq2589 hq2591 hq2593 hq2595 hq2597 ⟨by omega, by omega⟩)
  obtain ⟨a2605, w2607, hO, hq2606, ⟨k2608, k2609⟩, k2610⟩ := op_4 hI hq2591 List.not_mem_nil
  have hI := th_I.weak (a := a2590) hI
  have k2611 : (nI 10).toInt = ((10 : Nat) : Int) := nI_toInt (by omega)
  refine th_cVs (As := [.int x1]) (rest := []) (n := 1) (d := 0) ⟨hx, hb, hml, hown, hts⟩ (c_X4_has l E D s.heap a2590 10 a2605 w2607 hO (by omega) (by omega) (by omega) x1) wd_494 wd_495 wd_496 wd_3 wd_497 (by decide +kernel) ⟨by rw [hR]; exact Nat.le_of_ble_eq_true rfl, by rw [hR]; exact Nat.le_of_ble_eq_true rfl⟩ hN hK hS ⟨_, hO⟩ rfl rfl hl.1 rfl (Nat.le_of_ble_eq_true rfl) dX11_so_8 ⟨Nat.zero_le _, Nat.zero_le _⟩ (fun r2604 locs hp hS => ?_)
  rcases hp with ⟨rfl, hp⟩ | ⟨rfl, hp⟩
  · skip
    try simp only [rg, not_and, Int.not_le] at hp
    have hp2612 := hp
    refine lv_if_ne (tgt := 16) hx hb dX11_so_11 (by decide) (fun _ => ?_) (fun c => absurd c (by decide))
    refine lv_aload_n hx hb dX11_so_16 rfl (lv_at hl 0 rfl) ?_
    have hI := th_I.close hI hq2591 hO (ok_4 hq2606 ⟨by omega, by omega⟩ (by omega))
    obtain ⟨a2613, a2617, a2619, a2621, a2623, a2625, a2627, a2629, a2631, a2633, a2635, w2637, w2640, w2641, w2642, w2643, hO, hq2614, ⟨m2616, hq2615⟩, hq2618, hq2620, hq2622, hq2624, hq2626, hq2628, hq2630, hq2632, hq2634, hq2636, ⟨k2638, k2639⟩⟩ := op_15 hI hG0 List.not_mem_nil
    have hI := th_I.weak (a := h0) hI
    refine th_get hx hb hts inT11 hown hK hO rfl 8 (by decide) (hts _ (tb_c wd_353)) rfl rfl dX11_so_17 ?_
    refine lv_aload_n hx hb dX11_so_20 rfl (lv_at hl 0 rfl) ?_
    refine th_get hx hb hts inT11 hown hK hO rfl 0 (by decide) (hts _ (tb_c wd_345)) rfl rfl dX11_so_21 ?_
    have hI := th_I.close hI hG0 hO (ok_15 hq2614 ⟨_, hq2615⟩ hq2618 hq2620 hq2622 hq2624 hq2626 hq2628 hq2630 hq2632 hq2634 hq2636 ⟨by omega, by omega⟩)
    obtain ⟨a2644, a2646, a2648, a2650, a2652, a2654, a2656, a2658, a2660, a2662, w2664, w2667, w2668, w2669, hO, hq2645, hq2647, hq2649, hq2651, hq2653, hq2655, hq2657, hq2659, hq2661, hq2663, ⟨k2665, k2666⟩⟩ := op_6 hI hq2614 List.not_mem_nil
    have hI := th_I.weak (a := a2613) hI
    refine th_getN hx hb hts inT6 hown hK hN hO rfl 6 (by decide) wn_74 rfl rfl dX11_so_24 ?_
    refine lv_iload_n hx hb dX11_so_27 rfl (lv_at hl 1 rfl) ?_
    refine lv_iconst (v := 0) hx hb dX11_so_28 (by decide) ?_
    have hI := th_I.close hI hq2614 hO (ok_6 hq2645 hq2647 hq2649 hq2651 hq2653 hq2655 hq2657 hq2659 hq2661 hq2663 ⟨by omega, by omega⟩)
    refine th_cVi (As := [.int x1, .int 0]) (rest := [.ref a2629]) (n := 2) (d := 0) ⟨hx, hb, hml, hown, hts⟩ (c_X4_at l E D G a2656 (10) hq2657 x1 0) wd_518 wd_519 wd_520 wd_3 wd_521 (by decide +kernel) ⟨by rw [hR]; exact Nat.le_of_ble_eq_true rfl, by rw [hR]; exact Nat.le_of_ble_eq_true rfl⟩ hI hN hK hS (rc_4 hI hq2657 List.not_mem_nil) rfl rfl hl.1 rfl (Nat.le_of_ble_eq_true rfl) dX11_so_29 ⟨Nat.zero_le _, Nat.zero_le _⟩ (fun r2670 H locs hp hI hS => ?_)
    refine lv_aload_n hx hb dX11_so_32 rfl (lv_at hl 0 rfl) ?_
    obtain ⟨a2671, a2675, a2677, a2679, a2681, a2683, a2685, a2687, a2689, a2691, a2693, w2695, w2698, w2699, w2700, w2701, hO, hq2672, ⟨m2674, hq2673⟩, hq2676, hq2678, hq2680, hq2682, hq2684, hq2686, hq2688, hq2690, hq2692, hq2694, ⟨k2696, k2697⟩⟩ := op_15 hI hG0 List.not_mem_nil
    have hI := th_I.weak (a := h0) hI
    refine th_get hx hb hts inT11 hown hK hO rfl 0 (by decide) (hts _ (tb_c wd_345)) rfl rfl dX11_so_33 ?_
    have hI := th_I.close hI hG0 hO (ok_15 hq2672 ⟨_, hq2673⟩ hq2676 hq2678 hq2680 hq2682 hq2684 hq2686 hq2688 hq2690 hq2692 hq2694 ⟨by omega, by omega⟩)
    obtain ⟨a2702, a2704, a2706, a2708, a2710, a2712, a2714, a2716, a2718, a2720, w2722, w2725, w2726, w2727, hO, hq2703, hq2705, hq2707, hq2709, hq2711, hq2713, hq2715, hq2717, hq2719, hq2721, ⟨k2723, k2724⟩⟩ := op_6 hI hq2672 List.not_mem_nil
    have hI := th_I.weak (a := a2671) hI
    refine th_getN hx hb hts inT6 hown hK hN hO rfl 6 (by decide) wn_74 rfl rfl dX11_so_36 ?_
    refine lv_iload_n hx hb dX11_so_39 rfl (lv_at hl 1 rfl) ?_
    refine lv_iconst (v := 1) hx hb dX11_so_40 (by decide) ?_
    have hI := th_I.close hI hq2672 hO (ok_6 hq2703 hq2705 hq2707 hq2709 hq2711 hq2713 hq2715 hq2717 hq2719 hq2721 ⟨by omega, by omega⟩)
    refine th_cVi (As := [.int x1, .int 1]) (rest := [.int r2670, .ref a2629]) (n := 2) (d := 0) ⟨hx, hb, hml, hown, hts⟩ (c_X4_at l E D G a2714 (10) hq2715 x1 1) wd_518 wd_519 wd_520 wd_3 wd_521 (by decide +kernel) ⟨by rw [hR]; exact Nat.le_of_ble_eq_true rfl, by rw [hR]; exact Nat.le_of_ble_eq_true rfl⟩ hI hN hK hS (rc_4 hI hq2715 List.not_mem_nil) rfl rfl hl.1 rfl (Nat.le_of_ble_eq_true rfl) dX11_so_41 ⟨Nat.zero_le _, Nat.zero_le _⟩ (fun r2728 H locs hp hI hS => ?_)
    refine lv_aload_n hx hb dX11_so_44 rfl (lv_at hl 0 rfl) ?_
    obtain ⟨a2729, a2733, a2735, a2737, a2739, a2741, a2743, a2745, a2747, a2749, a2751, w2753, w2756, w2757, w2758, w2759, hO, hq2730, ⟨m2732, hq2731⟩, hq2734, hq2736, hq2738, hq2740, hq2742, hq2744, hq2746, hq2748, hq2750, hq2752, ⟨k2754, k2755⟩⟩ := op_15 hI hG0 List.not_mem_nil
    have hI := th_I.weak (a := h0) hI
    refine th_get hx hb hts inT11 hown hK hO rfl 0 (by decide) (hts _ (tb_c wd_345)) rfl rfl dX11_so_45 ?_
    have hI := th_I.close hI hG0 hO (ok_15 hq2730 ⟨_, hq2731⟩ hq2734 hq2736 hq2738 hq2740 hq2742 hq2744 hq2746 hq2748 hq2750 hq2752 ⟨by omega, by omega⟩)
    obtain ⟨a2760, a2762, a2764, a2766, a2768, a2770, a2772, a2774, a2776, a2778, w2780, w2783, w2784, w2785, hO, hq2761, hq2763, hq2765, hq2767, hq2769, hq2771, hq2773, hq2775, hq2777, hq2779, ⟨k2781, k2782⟩⟩ := op_6 hI hq2730 List.not_mem_nil
    have hI := th_I.weak (a := a2729) hI
    refine th_getN hx hb hts inT6 hown hK hN hO rfl 6 (by decide) wn_74 rfl rfl dX11_so_48 ?_
    refine lv_iload_n hx hb dX11_so_51 rfl (lv_at hl 1 rfl) ?_
    refine lv_iconst (v := 2) hx hb dX11_so_52 (by decide) ?_
    have hI := th_I.close hI hq2730 hO (ok_6 hq2761 hq2763 hq2765 hq2767 hq2769 hq2771 hq2773 hq2775 hq2777 hq2779 ⟨by omega, by omega⟩)
    refine th_cVi (As := [.int x1, .int 2]) (rest := [.int r2728, .int r2670, .ref a2629]) (n := 2) (d := 0) ⟨hx, hb, hml, hown, hts⟩ (c_X4_at l E D G a2772 (10) hq2773 x1 2) wd_518 wd_519 wd_520 wd_3 wd_521 (by decide +kernel) ⟨by rw [hR]; exact Nat.le_of_ble_eq_true rfl, by rw [hR]; exact Nat.le_of_ble_eq_true rfl⟩ hI hN hK hS (rc_4 hI hq2773 List.not_mem_nil) rfl rfl hl.1 rfl (Nat.le_of_ble_eq_true rfl) dX11_so_53 ⟨Nat.zero_le _, Nat.zero_le _⟩ (fun r2786 H locs hp hI hS => ?_)
    refine th_cVi (As := [.int r2670, .int r2728, .int r2786]) (rest := []) (n := 3) (d := 7) ⟨hx, hb, hml, hown, hts⟩ (c_X1_amountAt l E D G a2629 hq2630 r2670 r2728 r2786) wd_916 wd_917 wd_918 wd_9 wd_919 (by decide +kernel) ⟨by rw [hR]; exact Nat.le_of_ble_eq_true rfl, by rw [hR]; exact Nat.le_of_ble_eq_true rfl⟩ hI hN hK hS (rc_11 hI hq2630 List.not_mem_nil) rfl rfl hl.1 rfl (Nat.le_of_ble_eq_true rfl) dX11_so_56 ⟨Nat.zero_le _, Nat.zero_le _⟩ (fun r2787 H locs hp hI hS => ?_)
    refine lv_istore_n (lv' := [(2, .int r2787), (0, .ref h0), (1, .int x1)]) hx hb dX11_so_59 rfl hl (by decide) rfl (fun ls hl => ?_)
    refine lv_aload_n hx hb dX11_so_60 rfl (lv_at hl 1 rfl) ?_
    obtain ⟨a2788, a2792, a2794, a2796, a2798, a2800, a2802, a2804, a2806, a2808, a2810, w2812, w2815, w2816, w2817, w2818, hO, hq2789, ⟨m2791, hq2790⟩, hq2793, hq2795, hq2797, hq2799, hq2801, hq2803, hq2805, hq2807, hq2809, hq2811, ⟨k2813, k2814⟩⟩ := op_15 hI hG0 List.not_mem_nil
    have hI := th_I.weak (a := h0) hI
    refine th_get hx hb hts inT11 hown hK hO rfl 0 (by decide) (hts _ (tb_c wd_345)) rfl rfl dX11_so_61 ?_
    have hI := th_I.close hI hG0 hO (ok_15 hq2789 ⟨_, hq2790⟩ hq2793 hq2795 hq2797 hq2799 hq2801 hq2803 hq2805 hq2807 hq2809 hq2811 ⟨by omega, by omega⟩)
    obtain ⟨a2819, a2821, a2823, a2825, a2827, a2829, a2831, a2833, a2835, a2837, w2839, w2842, w2843, w2844, hO, hq2820, hq2822, hq2824, hq2826, hq2828, hq2830, hq2832, hq2834, hq2836, hq2838, ⟨k2840, k2841⟩⟩ := op_6 hI hq2789 List.not_mem_nil
    have hI := th_I.weak (a := a2788) hI
    refine th_getN hx hb hts inT6 hown hK hN hO rfl 6 (by decide) wn_74 rfl rfl dX11_so_64 ?_
    refine lv_iload_n hx hb dX11_so_67 rfl (lv_at hl 2 rfl) ?_
    refine lv_iconst (v := 3) hx hb dX11_so_68 (by decide) ?_
    have hI := th_I.close hI hq2789 hO (ok_6 hq2820 hq2822 hq2824 hq2826 hq2828 hq2830 hq2832 hq2834 hq2836 hq2838 ⟨by omega, by omega⟩)
    refine th_cVi (As := [.int x1, .int 3]) (rest := []) (n := 2) (d := 0) ⟨hx, hb, hml, hown, hts⟩ (c_X4_at l E D G a2831 (10) hq2832 x1 3) wd_518 wd_519 wd_520 wd_3 wd_521 (by decide +kernel) ⟨by rw [hR]; exact Nat.le_of_ble_eq_true rfl, by rw [hR]; exact Nat.le_of_ble_eq_true rfl⟩ hI hN hK hS (rc_4 hI hq2832 List.not_mem_nil) rfl rfl hl.1 rfl (Nat.le_of_ble_eq_true rfl) dX11_so_69 ⟨Nat.zero_le _, Nat.zero_le _⟩ (fun r2845 H locs hp hI hS => ?_)
    refine lv_iconst (v := 1) hx hb dX11_so_72 (by decide) ?_
    have k2846 := iv_lo r2845
    have k2847 := iv_hi r2845
    refine lv_icmp_ne (tgt := 80) hx hb dX11_so_73 (by decide) (fun c2848 => ?_) (fun c2848 => ?_)
    · skip
      have k2849 := iv_ne (X := r2845.toInt) (Y := (1)) rfl (by decide) c2848
      refine lv_iconst (v := 0) hx hb dX11_so_80 (by decide) ?_
      exact J_81 H locs ls r2787 0 (lv_sub hl [0, 1, 2] rfl) ⟨by omega, by omega⟩ ⟨by decide, by decide⟩ hI hS
    · skip
      have k2850 := iv_eq (X := r2845.toInt) (Y := (1)) rfl (by decide) c2848
      refine lv_iconst (v := 1) hx hb dX11_so_76 (by decide) ?_
      refine lv_goto (tgt := 81) hx hb dX11_so_77 (by decide) ?_
      exact J_81 H locs ls r2787 1 (lv_sub hl [0, 1, 2] rfl) ⟨by omega, by omega⟩ ⟨by decide, by decide⟩ hI hS
  · skip
    have hp2851 := hp
    refine lv_if_ne (tgt := 16) hx hb dX11_so_11 (by decide) (fun c => absurd c (by decide)) (fun _ => ?_)
    refine lv_iconst (v := (-1)) hx hb dX11_so_14 (by decide) ?_
    have hI := th_I.close hI hq2591 hO (ok_4 hq2606 ⟨by omega, by omega⟩ (by omega))
    have hpost : True := trivial
    rw [hQ]
    exact W.iret (v := (-1)) hx hb hr (fun t ht hW => ⟨⟨(-1), (), rfl, hpost, by rw [ht]; exact hI, hN.warm hW, va_K.moved hW.alike hK⟩, hS.F ht⟩) hS.2.2 dX11_so_15
