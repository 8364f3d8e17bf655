theorem wn_61 : (Cond.fieldLinkNest RX11 (145 : Nat) "NineRiver$State" "gates" "LNineRiver$Rows;" "NineRiver") ∈ lw_tbl := List.mem_append_right _ (List.mem_of_getElem? (i := 61) (by decide +kernel))
theorem wn_64 : (Cond.fieldLinkNest RX11 (170 : Nat) "NineRiver$State" "mills" "LNineRiver$Rows;" "NineRiver") ∈ lw_tbl := List.mem_append_right _ (List.mem_of_getElem? (i := 64) (by decide +kernel))
theorem wn_68 : (Cond.fieldLinkNest RX11 (246 : Nat) "NineRiver$State" "boats" "LNineRiver$Rows;" "NineRiver") ∈ lw_tbl := List.mem_append_right _ (List.mem_of_getElem? (i := 68) (by decide +kernel))
theorem wn_71 : (Cond.fieldLinkNest RX11 (266 : Nat) "NineRiver$State" "pours" "LNineRiver$Rows;" "NineRiver") ∈ lw_tbl := List.mem_append_right _ (List.mem_of_getElem? (i := 71) (by decide +kernel))
theorem wn_74 : (Cond.fieldLinkNest RX11 (292 : Nat) "NineRiver$State" "sights" "LNineRiver$Rows;" "NineRiver") ∈ lw_tbl := List.mem_append_right _ (List.mem_of_getElem? (i := 74) (by decide +kernel))
theorem wd_352 : (Cond.fieldLink RX11 (51 : Nat) "NineRiver" "travel" "LNineRiver$Travel;") ∈ TB := tw 352 (by decide +kernel) (by decide +kernel)
theorem wd_355 : (Cond.fieldLink RX11 (78 : Nat) "NineRiver" "thrower" "LNineRiver$Thrower;") ∈ TB := tw 355 (by decide +kernel) (by decide +kernel)
theorem wd_481 : (Cond.methodLink RX11 (149 : Nat) yX4_isFull) ∈ TB := tw 481 (by decide +kernel) (by decide +kernel)
theorem wd_485 : (Cond.methodLink RX11 (155 : Nat) yX4_put) ∈ TB := tw 485 (by decide +kernel) (by decide +kernel)
theorem wd_486 : (Jvm.Cond.instanceMethod yX4_put) ∈ TB := tw 486 (by decide +kernel) (by decide +kernel)
theorem wd_487 : (Cond.selects RX4 yX4_put yX4_put) ∈ TB := tw 487 (by decide +kernel) (by decide +kernel)
theorem wd_488 : (Cond.code yX4_put cX4_put 6 (Option.some Jvm.ClassFile.FieldType.int)) ∈ TB := tw 488 (by decide +kernel) (by decide +kernel)
theorem wd_494 : (Cond.methodLink RX11 (159 : Nat) yX4_has) ∈ TB := tw 494 (by decide +kernel) (by decide +kernel)
theorem wd_498 : (Cond.methodLink RX11 (162 : Nat) yX4_takeOut) ∈ TB := tw 498 (by decide +kernel) (by decide +kernel)
theorem wd_499 : (Jvm.Cond.instanceMethod yX4_takeOut) ∈ TB := tw 499 (by decide +kernel) (by decide +kernel)
theorem wd_500 : (Cond.selects RX4 yX4_takeOut yX4_takeOut) ∈ TB := tw 500 (by decide +kernel) (by decide +kernel)
theorem wd_501 : (Cond.code yX4_takeOut cX4_takeOut 2 (Option.none : Option Jvm.ClassFile.FieldType)) ∈ TB := tw 501 (by decide +kernel) (by decide +kernel)
theorem wd_506 : (Cond.methodLink RX11 (166 : Nat) yX4_size) ∈ TB := tw 506 (by decide +kernel) (by decide +kernel)
theorem wd_518 : (Cond.methodLink RX11 (173 : Nat) yX4_at) ∈ TB := tw 518 (by decide +kernel) (by decide +kernel)
theorem wd_522 : (Cond.methodLink RX11 (176 : Nat) yX7_turns) ∈ TB := tw 522 (by decide +kernel) (by decide +kernel)
theorem wd_523 : (Jvm.Cond.instanceMethod yX7_turns) ∈ TB := tw 523 (by decide +kernel) (by decide +kernel)
theorem wd_524 : (Cond.selects RX7 yX7_turns yX7_turns) ∈ TB := tw 524 (by decide +kernel) (by decide +kernel)
theorem wd_525 : (Cond.code yX7_turns cX7_turns 6 (Option.some Jvm.ClassFile.FieldType.int)) ∈ TB := tw 525 (by decide +kernel) (by decide +kernel)
theorem wd_617 : (Cond.methodLink RX11 (262 : Nat) yX11_isPour) ∈ TB := tw 617 (by decide +kernel) (by decide +kernel)
theorem wd_618 : (Jvm.Cond.static yX11_isPour) ∈ TB := tw 618 (by decide +kernel) (by decide +kernel)
theorem wd_619 : (Cond.code yX11_isPour cX11_isPour 4 (Option.some Jvm.ClassFile.FieldType.boolean)) ∈ TB := tw 619 (by decide +kernel) (by decide +kernel)
theorem wd_623 : (Cond.methodLink RX11 (220 : Nat) yX7_isBarred) ∈ TB := tw 623 (by decide +kernel) (by decide +kernel)
theorem wd_805 : (Cond.methodLink RX11 (214 : Nat) yX7_flowAt) ∈ TB := tw 805 (by decide +kernel) (by decide +kernel)
theorem wd_810 : (Cond.methodLink RX11 (217 : Nat) yX7_costAt) ∈ TB := tw 810 (by decide +kernel) (by decide +kernel)
theorem wd_811 : (Jvm.Cond.instanceMethod yX7_costAt) ∈ TB := tw 811 (by decide +kernel) (by decide +kernel)
theorem wd_812 : (Cond.selects RX7 yX7_costAt yX7_costAt) ∈ TB := tw 812 (by decide +kernel) (by decide +kernel)
theorem wd_813 : (Cond.code yX7_costAt cX7_costAt 3 (Option.some Jvm.ClassFile.FieldType.int)) ∈ TB := tw 813 (by decide +kernel) (by decide +kernel)
theorem wd_814 : (Cond.methodLink RX11 (223 : Nat) yX7_tollAt) ∈ TB := tw 814 (by decide +kernel) (by decide +kernel)
theorem wd_826 : (Cond.methodLink RX11 (226 : Nat) yX11_isMoment) ∈ TB := tw 826 (by decide +kernel) (by decide +kernel)
theorem wd_829 : (Cond.methodLink RX11 (229 : Nat) yX9_drift) ∈ TB := tw 829 (by decide +kernel) (by decide +kernel)
theorem wd_838 : (Cond.methodLink RX11 (232 : Nat) Lib.Math.min.name) ∈ TB := tw 838 (by decide +kernel) (by decide +kernel)
theorem wd_839 : (Cond.methodLink RX11 (237 : Nat) yX9_downstream) ∈ TB := tw 839 (by decide +kernel) (by decide +kernel)
theorem wd_840 : (Jvm.Cond.instanceMethod yX9_downstream) ∈ TB := tw 840 (by decide +kernel) (by decide +kernel)
theorem wd_841 : (Cond.selects RX9 yX9_downstream yX9_downstream) ∈ TB := tw 841 (by decide +kernel) (by decide +kernel)
theorem wd_842 : (Cond.code yX9_downstream cX9_downstream 7 (Option.some Jvm.ClassFile.FieldType.int)) ∈ TB := tw 842 (by decide +kernel) (by decide +kernel)
theorem wd_847 : (Cond.methodLink RX11 (240 : Nat) yX11_isPlace) ∈ TB := tw 847 (by decide +kernel) (by decide +kernel)
theorem wd_850 : (Cond.methodLink RX11 (243 : Nat) yX9_traceBack) ∈ TB := tw 850 (by decide +kernel) (by decide +kernel)
theorem wd_864 : (Cond.methodLink RX11 (249 : Nat) yX4_change) ∈ TB := tw 864 (by decide +kernel) (by decide +kernel)
theorem wd_865 : (Jvm.Cond.instanceMethod yX4_change) ∈ TB := tw 865 (by decide +kernel) (by decide +kernel)
theorem wd_866 : (Cond.selects RX4 yX4_change yX4_change) ∈ TB := tw 866 (by decide +kernel) (by decide +kernel)
theorem wd_867 : (Cond.code yX4_change cX4_change 4 (Option.none : Option Jvm.ClassFile.FieldType)) ∈ TB := tw 867 (by decide +kernel) (by decide +kernel)
theorem wd_872 : (Cond.methodLink RX11 (253 : Nat) yX9_boatAt) ∈ TB := tw 872 (by decide +kernel) (by decide +kernel)
theorem wd_885 : (Cond.methodLink RX11 (256 : Nat) yX9_tollTill) ∈ TB := tw 885 (by decide +kernel) (by decide +kernel)
theorem wd_886 : (Jvm.Cond.instanceMethod yX9_tollTill) ∈ TB := tw 886 (by decide +kernel) (by decide +kernel)
theorem wd_887 : (Cond.selects RX9 yX9_tollTill yX9_tollTill) ∈ TB := tw 887 (by decide +kernel) (by decide +kernel)
theorem wd_888 : (Cond.code yX9_tollTill cX9_tollTill 6 (Option.some Jvm.ClassFile.FieldType.int)) ∈ TB := tw 888 (by decide +kernel) (by decide +kernel)
theorem wd_898 : (Cond.methodLink RX11 (259 : Nat) yX9_meeting) ∈ TB := tw 898 (by decide +kernel) (by decide +kernel)
theorem wd_899 : (Jvm.Cond.instanceMethod yX9_meeting) ∈ TB := tw 899 (by decide +kernel) (by decide +kernel)
theorem wd_900 : (Cond.selects RX9 yX9_meeting yX9_meeting) ∈ TB := tw 900 (by decide +kernel) (by decide +kernel)
theorem wd_901 : (Cond.code yX9_meeting cX9_meeting 6 (Option.some Jvm.ClassFile.FieldType.int)) ∈ TB := tw 901 (by decide +kernel) (by decide +kernel)
theorem wd_916 : (Cond.methodLink RX11 (272 : Nat) yX1_amountAt) ∈ TB := tw 916 (by decide +kernel) (by decide +kernel)
theorem wd_917 : (Jvm.Cond.instanceMethod yX1_amountAt) ∈ TB := tw 917 (by decide +kernel) (by decide +kernel)
theorem wd_918 : (Cond.selects RX1 yX1_amountAt yX1_amountAt) ∈ TB := tw 918 (by decide +kernel) (by decide +kernel)
theorem wd_919 : (Cond.code yX1_amountAt cX1_amountAt 6 (Option.some Jvm.ClassFile.FieldType.int)) ∈ TB := tw 919 (by decide +kernel) (by decide +kernel)
theorem wd_931 : (Cond.methodLink RX11 (275 : Nat) yX1_firstComing) ∈ TB := tw 931 (by decide +kernel) (by decide +kernel)
theorem wd_932 : (Jvm.Cond.instanceMethod yX1_firstComing) ∈ TB := tw 932 (by decide +kernel) (by decide +kernel)
theorem wd_933 : (Cond.selects RX1 yX1_firstComing yX1_firstComing) ∈ TB := tw 933 (by decide +kernel) (by decide +kernel)
theorem wd_934 : (Cond.code yX1_firstComing cX1_firstComing 8 (Option.some Jvm.ClassFile.FieldType.int)) ∈ TB := tw 934 (by decide +kernel) (by decide +kernel)
theorem wd_941 : (Cond.methodLink RX11 (278 : Nat) yX1_spread) ∈ TB := tw 941 (by decide +kernel) (by decide +kernel)
theorem wd_942 : (Jvm.Cond.instanceMethod yX1_spread) ∈ TB := tw 942 (by decide +kernel) (by decide +kernel)
theorem wd_943 : (Cond.selects RX1 yX1_spread yX1_spread) ∈ TB := tw 943 (by decide +kernel) (by decide +kernel)
theorem wd_944 : (Cond.code yX1_spread cX1_spread 5 (Option.none : Option Jvm.ClassFile.FieldType)) ∈ TB := tw 944 (by decide +kernel) (by decide +kernel)
theorem wd_947 : (Cond.methodLink RX11 (282 : Nat) yX1_fullest) ∈ TB := tw 947 (by decide +kernel) (by decide +kernel)
theorem wd_948 : (Jvm.Cond.instanceMethod yX1_fullest) ∈ TB := tw 948 (by decide +kernel) (by decide +kernel)
theorem wd_949 : (Cond.selects RX1 yX1_fullest yX1_fullest) ∈ TB := tw 949 (by decide +kernel) (by decide +kernel)
theorem wd_950 : (Cond.code yX1_fullest cX1_fullest 4 (Option.some Jvm.ClassFile.FieldType.int)) ∈ TB := tw 950 (by decide +kernel) (by decide +kernel)
theorem wd_951 : (Cond.methodLink RX11 (285 : Nat) yX1_coloured) ∈ TB := tw 951 (by decide +kernel) (by decide +kernel)
theorem wd_952 : (Jvm.Cond.instanceMethod yX1_coloured) ∈ TB := tw 952 (by decide +kernel) (by decide +kernel)
theorem wd_953 : (Cond.selects RX1 yX1_coloured yX1_coloured) ∈ TB := tw 953 (by decide +kernel) (by decide +kernel)
theorem wd_954 : (Cond.code yX1_coloured cX1_coloured 6 (Option.some Jvm.ClassFile.FieldType.int)) ∈ TB := tw 954 (by decide +kernel) (by decide +kernel)
theorem wd_959 : (Cond.methodLink RX11 (288 : Nat) yX8_cheapest) ∈ TB := tw 959 (by decide +kernel) (by decide +kernel)
theorem wd_960 : (Jvm.Cond.instanceMethod yX8_cheapest) ∈ TB := tw 960 (by decide +kernel) (by decide +kernel)
theorem wd_961 : (Cond.selects RX8 yX8_cheapest yX8_cheapest) ∈ TB := tw 961 (by decide +kernel) (by decide +kernel)
theorem wd_962 : (Cond.code yX8_cheapest cX8_cheapest 8 (Option.some Jvm.ClassFile.FieldType.int)) ∈ TB := tw 962 (by decide +kernel) (by decide +kernel)
theorem wd_983 : (Cond.methodLink RX11 (295 : Nat) yX4_clear) ∈ TB := tw 983 (by decide +kernel) (by decide +kernel)
theorem wd_984 : (Jvm.Cond.instanceMethod yX4_clear) ∈ TB := tw 984 (by decide +kernel) (by decide +kernel)
theorem wd_985 : (Cond.selects RX4 yX4_clear yX4_clear) ∈ TB := tw 985 (by decide +kernel) (by decide +kernel)
theorem wd_986 : (Cond.code yX4_clear cX4_clear 2 (Option.some Jvm.ClassFile.FieldType.int)) ∈ TB := tw 986 (by decide +kernel) (by decide +kernel)
theorem dX11_gate_0 : decode cX11_gate 0 = .ok (.iload_n 1, 1) := by decide +kernel
theorem dX11_gate_1 : decode cX11_gate 1 = .ok (.invokestatic 106, 3) := by decide +kernel
theorem dX11_gate_4 : decode cX11_gate 4 = .ok (.ifCond .eq 11, 3) := by decide +kernel
theorem dX11_gate_7 : decode cX11_gate 7 = .ok (.iload_n 2, 1) := by decide +kernel
theorem dX11_gate_8 : decode cX11_gate 8 = .ok (.iload_n 3, 1) := by decide +kernel
theorem dX11_gate_9 : decode cX11_gate 9 = .ok (.invokestatic 134, 3) := by decide +kernel
theorem dX11_gate_12 : decode cX11_gate 12 = .ok (.ifCond .ne 9, 3) := by decide +kernel
theorem dX11_gate_15 : decode cX11_gate 15 = .ok (.aload_n 0, 1) := by decide +kernel
theorem dX11_gate_16 : decode cX11_gate 16 = .ok (.iconst (-1), 1) := by decide +kernel
theorem dX11_gate_17 : decode cX11_gate 17 = .ok (.invokevirtual 113, 3) := by decide +kernel
theorem dX11_gate_20 : decode cX11_gate 20 = .ok (.ireturn, 1) := by decide +kernel
theorem dX11_gate_21 : decode cX11_gate 21 = .ok (.aload_n 0, 1) := by decide +kernel
theorem dX11_gate_22 : decode cX11_gate 22 = .ok (.getfield 12, 3) := by decide +kernel
theorem dX11_gate_25 : decode cX11_gate 25 = .ok (.getfield 145, 3) := by decide +kernel
theorem dX11_gate_28 : decode cX11_gate 28 = .ok (.invokevirtual 149, 3) := by decide +kernel
theorem dX11_gate_31 : decode cX11_gate 31 = .ok (.ifCond .eq 10, 3) := by decide +kernel
theorem dX11_gate_34 : decode cX11_gate 34 = .ok (.aload_n 0, 1) := by decide +kernel
theorem dX11_gate_35 : decode cX11_gate 35 = .ok (.bipush (-5), 2) := by decide +kernel
theorem dX11_gate_37 : decode cX11_gate 37 = .ok (.invokevirtual 113, 3) := by decide +kernel
theorem dX11_gate_40 : decode cX11_gate 40 = .ok (.ireturn, 1) := by decide +kernel
theorem dX11_gate_41 : decode cX11_gate 41 = .ok (.aload_n 0, 1) := by decide +kernel
theorem dX11_gate_42 : decode cX11_gate 42 = .ok (.invokevirtual 124, 3) := by decide +kernel
theorem dX11_gate_45 : decode cX11_gate 45 = .ok (.aload_n 0, 1) := by decide +kernel
theorem dX11_gate_46 : decode cX11_gate 46 = .ok (.aload_n 0, 1) := by decide +kernel
theorem dX11_gate_47 : decode cX11_gate 47 = .ok (.getfield 12, 3) := by decide +kernel
theorem dX11_gate_50 : decode cX11_gate 50 = .ok (.getfield 145, 3) := by decide +kernel
theorem dX11_gate_53 : decode cX11_gate 53 = .ok (.iload_n 1, 1) := by decide +kernel
theorem dX11_gate_54 : decode cX11_gate 54 = .ok (.iload_n 2, 1) := by decide +kernel
theorem dX11_gate_55 : decode cX11_gate 55 = .ok (.iload_n 3, 1) := by decide +kernel
theorem dX11_gate_56 : decode cX11_gate 56 = .ok (.iconst 0, 1) := by decide +kernel
theorem dX11_gate_57 : decode cX11_gate 57 = .ok (.invokevirtual 155, 3) := by decide +kernel
theorem dX11_gate_60 : decode cX11_gate 60 = .ok (.invokevirtual 127, 3) := by decide +kernel
theorem dX11_gate_63 : decode cX11_gate 63 = .ok (.ireturn, 1) := by decide +kernel
set_option maxHeartbeats 4000000 in
set_option maxRecDepth 100000 in
theorem c_X11_gate (l : Launch) (E : Nat → ClassId) (D : va_G) (G : th_G) (h0 n : Nat) (hG0 : G h0 = some (15, n)) (x1 x2 x3 : Int32) : Met l yX11_gate (tb (.code yX11_gate cX11_gate 4 (some .int))) (rm 3) (va_Pc [.ref h0, .int x1, .int x2, .int x3] (th_P E D G)) (QI E D G (fun r => True)) 0 0 (th_A G) := by
  refine Met.ofW (cc := cX11_gate) (maxL := 4) (ret := (some .int)) (by decide) rfl ?_
  intro p e s m args below meth c s₁ B hml hv
  obtain ⟨hav, hI, hN, hK⟩ := hv
  have hx := B.exec
  have hb := B.bytes
  have hr := B.returns
  have hts := atoms_spec (ws := tb (.code yX11_gate cX11_gate 4 (some .int))) B.pre
  have hown : s.vm.findClass RX11 = some m.cls := findClass_of_methodNamed B.named
  have hlocks := B.notSynchronized
  have hS : va_S (th_A G) s.heap s.heap [] := va_S.rf
  have hl := lv_entry ([.ref h0, .int x1, .int x2, .int x3]) (n := 4) (Nat.le_of_ble_eq_true rfl)
  rw [show entryFrame m args 4 = entryFrame m ([.ref h0, .int x1, .int x2, .int x3] : List Value).toArray 4 from by rw [hav], lg_entry_eq]
  generalize (lg_sl ([.ref h0, .int x1, .int x2, .int x3]) ++ List.replicate (4 - (lg_sl ([.ref h0, .int x1, .int x2, .int x3])).length) Slot.unset).toArray = ls at hl ⊢
  have hl : lv_has ls 4 [(0, .ref h0), (1, .int x1), (2, .int x2), (3, .int x3)] := hl
  generalize hR : (headSpec (tb (.code yX11_gate cX11_gate 4 (some .int))) (rm 3)).room = R
  have hR := hR.symm
  generalize hQ : MQ below (QI E D G (fun r => True)) args s 0 0 (th_A G) = QF
  have hQ := hQ.symm
  have J_15 : ∀ (H : Heap) (locs : List Loc) (ls : Array Slot) , lv_has ls 4 [(0, .ref h0), (1, .int x1), (2, .int x2), (3, .int x3)] → th_I (okC E) D G [] H → va_S (th_A G) s.heap H locs → W p l e R s m args below meth c H locs 0 0 QF (F0 m 15 ls []) := by
    intro H locs ls  hl  hI hS
    refine lv_aload_n hx hb dX11_gate_15 rfl (lv_at hl 0 rfl) ?_
    refine lv_iconst (v := (-1)) hx hb dX11_gate_16 (by decide) ?_
    refine th_cVi (As := [.int (-1)]) (rest := []) (n := 1) (d := 0) ⟨hx, hb, hml, hown, hts⟩ (c_X11_refuse l E D G h0 (n) hG0 (-1)) wd_407 wd_409 wp_0 wd_1 wd_410 (by decide +kernel) ⟨by rw [hR]; exact Nat.le_of_ble_eq_true rfl, by rw [hR]; exact Nat.le_of_ble_eq_true rfl⟩ hI hN hK hS (rc_15 hI hG0 List.not_mem_nil) rfl rfl hl.1 rfl (Nat.le_of_ble_eq_true rfl) dX11_gate_17 ⟨Nat.zero_le _, Nat.zero_le _⟩ (fun r1032 H locs hp hI hS => ?_)
    have hp := hp.symm
    subst hp
    have hpost : True := trivial
    rw [hQ]
    exact W.iret (v := (-1)) hx hb hr (fun t ht hW => ⟨⟨(-1), (), rfl, hpost, by rw [ht]; exact hI, hN.warm hW, va_K.moved hW.alike hK⟩, hS.F ht⟩) hS.2.2 dX11_gate_20
  refine lv_iload_n hx hb dX11_gate_0 rfl (lv_at hl 1 rfl) ?_
  refine th_cSs (As := [.int x1]) (rest := []) (n := 1) (d := 0) ⟨hx, hb, hml, hown, hts⟩ (c_X11_isCell l s.heap x1) wd_401 wd_402 wd_1 wd_403 (by decide +kernel) ⟨by rw [hR]; exact Nat.le_of_ble_eq_true rfl, by rw [hR]; exact Nat.le_of_ble_eq_true rfl⟩ hN hS rfl hl.1 rfl (Nat.le_of_ble_eq_true rfl) dX11_gate_1 ⟨Nat.zero_le _, Nat.zero_le _⟩ (fun r1033 locs hp hS => ?_)
  rcases hp with ⟨rfl, hp⟩ | ⟨rfl, hp⟩
  · skip
    try simp only [rg, not_and, Int.not_le] at hp
    have hp1034 := hp
    refine lv_if_eq (tgt := 15) hx hb dX11_gate_4 (by decide) (fun c => absurd c (by decide)) (fun _ => ?_)
    refine lv_iload_n hx hb dX11_gate_7 rfl (lv_at hl 2 rfl) ?_
    refine lv_iload_n hx hb dX11_gate_8 rfl (lv_at hl 3 rfl) ?_
    refine th_cSs (As := [.int x2, .int x3]) (rest := []) (n := 2) (d := 1) ⟨hx, hb, hml, hown, hts⟩ (c_X11_isSpan l s.heap x2 x3) wd_463 wd_464 wd_1 wd_465 (by decide +kernel) ⟨by rw [hR]; exact Nat.le_of_ble_eq_true rfl, by rw [hR]; exact Nat.le_of_ble_eq_true rfl⟩ hN hS rfl hl.1 rfl (Nat.le_of_ble_eq_true rfl) dX11_gate_9 ⟨Nat.zero_le _, Nat.zero_le _⟩ (fun r1035 locs hp hS => ?_)
    rcases hp with ⟨rfl, hp⟩ | ⟨rfl, hp⟩
    · skip
      try simp only [rg, not_and, Int.not_le] at hp
      have hp1036 := hp
      refine lv_if_ne (tgt := 21) hx hb dX11_gate_12 (by decide) (fun _ => ?_) (fun c => absurd c (by decide))
      refine lv_aload_n hx hb dX11_gate_21 rfl (lv_at hl 0 rfl) ?_
      obtain ⟨a1037, a1040, a1042, a1044, a1046, a1048, a1050, a1052, a1054, a1056, a1058, w1060, w1061, w1062, w1063, hO, hq1038, hq1039, hq1041, hq1043, hq1045, hq1047, hq1049, hq1051, hq1053, hq1055, hq1057, hq1059⟩ := op_15 hI hG0 List.not_mem_nil
      have hI := th_I.weak (a := h0) hI
      have k1064 : (nI (n % 401)).toInt = ((n % 401 : Nat) : Int) := nI_toInt (by omega)
      refine th_get hx hb hts inT11 hown hK hO rfl 0 (by decide) (hts _ (tb_c wd_345)) rfl rfl dX11_gate_22 ?_
      have hI := th_I.close hI hG0 hO (ok_15 hq1038 hq1039 hq1041 hq1043 hq1045 hq1047 hq1049 hq1051 hq1053 hq1055 hq1057 hq1059)
      obtain ⟨a1065, a1067, a1069, a1071, a1073, a1075, a1077, a1079, a1081, a1083, w1085, w1088, w1089, w1090, hO, hq1066, hq1068, hq1070, hq1072, hq1074, hq1076, hq1078, hq1080, hq1082, hq1084, ⟨k1086, k1087⟩⟩ := op_6 hI hq1038 List.not_mem_nil
      have hI := th_I.weak (a := a1037) hI
      refine th_getN hx hb hts inT6 hown hK hN hO rfl 2 (by decide) wn_61 rfl rfl dX11_gate_25 ?_
      have hI := th_I.close hI hq1038 hO (ok_6 hq1066 hq1068 hq1070 hq1072 hq1074 hq1076 hq1078 hq1080 hq1082 hq1084 ⟨by omega, by omega⟩)
      obtain ⟨a1092, w1094, hO, hq1093, ⟨k1095, k1096⟩, k1097⟩ := op_4 hI hq1070 List.not_mem_nil
      have hI := th_I.weak (a := a1069) hI
      have k1098 : (nI 8).toInt = ((8 : Nat) : Int) := nI_toInt (by omega)
      refine th_cVs (As := []) (rest := []) (n := 0) (d := 0) ⟨hx, hb, hml, hown, hts⟩ (c_X4_isFull l E D s.heap a1069 8 a1092 w1094 hO (by omega) (by omega) (by omega)) wd_481 wd_482 wd_483 wd_3 wd_484 (by decide +kernel) ⟨by rw [hR]; exact Nat.le_of_ble_eq_true rfl, by rw [hR]; exact Nat.le_of_ble_eq_true rfl⟩ hN hK hS ⟨_, hO⟩ rfl rfl hl.1 rfl (Nat.le_of_ble_eq_true rfl) dX11_gate_28 ⟨Nat.zero_le _, Nat.zero_le _⟩ (fun r1091 locs hp hS => ?_)
      rcases hp with ⟨rfl, hp⟩ | ⟨rfl, hp⟩
      · skip
        try simp only [rg, not_and, Int.not_le] at hp
        have hp1099 := hp
        refine lv_if_eq (tgt := 41) hx hb dX11_gate_31 (by decide) (fun c => absurd c (by decide)) (fun _ => ?_)
        refine lv_aload_n hx hb dX11_gate_34 rfl (lv_at hl 0 rfl) ?_
        refine lv_bipush (v := (-5)) hx hb dX11_gate_35 (by decide) ?_
        have hI := th_I.close hI hq1070 hO (ok_4 hq1093 ⟨by omega, by omega⟩ (by omega))
        refine th_cVi (As := [.int (-5)]) (rest := []) (n := 1) (d := 0) ⟨hx, hb, hml, hown, hts⟩ (c_X11_refuse l E D G h0 (n) hG0 (-5)) wd_407 wd_409 wp_0 wd_1 wd_410 (by decide +kernel) ⟨by rw [hR]; exact Nat.le_of_ble_eq_true rfl, by rw [hR]; exact Nat.le_of_ble_eq_true rfl⟩ hI hN hK hS (rc_15 hI hG0 List.not_mem_nil) rfl rfl hl.1 rfl (Nat.le_of_ble_eq_true rfl) dX11_gate_37 ⟨Nat.zero_le _, Nat.zero_le _⟩ (fun r1100 H locs hp hI hS => ?_)
        have hp := hp.symm
        subst hp
        have hpost : True := trivial
        rw [hQ]
        exact W.iret (v := (-5)) hx hb hr (fun t ht hW => ⟨⟨(-5), (), rfl, hpost, by rw [ht]; exact hI, hN.warm hW, va_K.moved hW.alike hK⟩, hS.F ht⟩) hS.2.2 dX11_gate_40
      · skip
        have hp1101 := hp
        refine lv_if_eq (tgt := 41) hx hb dX11_gate_31 (by decide) (fun _ => ?_) (fun c => absurd c (by decide))
        refine lv_aload_n hx hb dX11_gate_41 rfl (lv_at hl 0 rfl) ?_
        have hI := th_I.close hI hq1070 hO (ok_4 hq1093 ⟨by omega, by omega⟩ (by omega))
        refine th_cVv (As := []) (rest := []) (n := 0) (d := 2) ⟨hx, hb, hml, hown, hts⟩ (c_X11_turnRiver l E D G h0 (n) hG0 ) wd_423 wd_425 wp_1 wd_1 wd_426 (by decide +kernel) ⟨by rw [hR]; exact Nat.le_of_ble_eq_true rfl, by rw [hR]; exact Nat.le_of_ble_eq_true rfl⟩ hI hN hK hS (rc_15 hI hG0 List.not_mem_nil) rfl rfl hl.1 rfl (Nat.le_of_ble_eq_true rfl) dX11_gate_42 ⟨Nat.zero_le _, Nat.zero_le _⟩ (fun H locs hI hS => ?_)
        refine lv_aload_n hx hb dX11_gate_45 rfl (lv_at hl 0 rfl) ?_
        refine lv_aload_n hx hb dX11_gate_46 rfl (lv_at hl 0 rfl) ?_
        obtain ⟨a1103, a1106, a1108, a1110, a1112, a1114, a1116, a1118, a1120, a1122, a1124, w1126, w1127, w1128, w1129, hO, hq1104, hq1105, hq1107, hq1109, hq1111, hq1113, hq1115, hq1117, hq1119, hq1121, hq1123, hq1125⟩ := op_15 hI hG0 List.not_mem_nil
        have hI := th_I.weak (a := h0) hI
        have k1130 : (nI (n % 401)).toInt = ((n % 401 : Nat) : Int) := nI_toInt (by omega)
        refine th_get hx hb hts inT11 hown hK hO rfl 0 (by decide) (hts _ (tb_c wd_345)) rfl rfl dX11_gate_47 ?_
        have hI := th_I.close hI hG0 hO (ok_15 hq1104 hq1105 hq1107 hq1109 hq1111 hq1113 hq1115 hq1117 hq1119 hq1121 hq1123 hq1125)
        obtain ⟨a1131, a1133, a1135, a1137, a1139, a1141, a1143, a1145, a1147, a1149, w1151, w1154, w1155, w1156, hO, hq1132, hq1134, hq1136, hq1138, hq1140, hq1142, hq1144, hq1146, hq1148, hq1150, ⟨k1152, k1153⟩⟩ := op_6 hI hq1104 List.not_mem_nil
        have hI := th_I.weak (a := a1103) hI
        refine th_getN hx hb hts inT6 hown hK hN hO rfl 2 (by decide) wn_61 rfl rfl dX11_gate_50 ?_
        refine lv_iload_n hx hb dX11_gate_53 rfl (lv_at hl 1 rfl) ?_
        refine lv_iload_n hx hb dX11_gate_54 rfl (lv_at hl 2 rfl) ?_
        refine lv_iload_n hx hb dX11_gate_55 rfl (lv_at hl 3 rfl) ?_
        refine lv_iconst (v := 0) hx hb dX11_gate_56 (by decide) ?_
        have hI := th_I.close hI hq1104 hO (ok_6 hq1132 hq1134 hq1136 hq1138 hq1140 hq1142 hq1144 hq1146 hq1148 hq1150 ⟨by omega, by omega⟩)
        refine th_cVi (As := [.int x1, .int x2, .int x3, .int 0]) (rest := [.ref h0]) (n := 4) (d := 1) ⟨hx, hb, hml, hown, hts⟩ (c_X4_put l E D G a1135 (8) hq1136 x1 x2 x3 0) wd_485 wd_486 wd_487 wd_3 wd_488 (by decide +kernel) ⟨by rw [hR]; exact Nat.le_of_ble_eq_true rfl, by rw [hR]; exact Nat.le_of_ble_eq_true rfl⟩ hI hN hK hS (rc_4 hI hq1136 List.not_mem_nil) rfl rfl hl.1 rfl (Nat.le_of_ble_eq_true rfl) dX11_gate_57 ⟨Nat.zero_le _, Nat.zero_le _⟩ (fun r1157 H locs hp hI hS => ?_)
        refine th_cVi (As := [.int r1157]) (rest := []) (n := 1) (d := 0) ⟨hx, hb, hml, hown, hts⟩ (c_X11_accept l E D G h0 (n) hG0 r1157) wd_447 wd_449 wp_3 wd_1 wd_450 (by decide +kernel) ⟨by rw [hR]; exact Nat.le_of_ble_eq_true rfl, by rw [hR]; exact Nat.le_of_ble_eq_true rfl⟩ hI hN hK hS (rc_15 hI hG0 List.not_mem_nil) rfl rfl hl.1 rfl (Nat.le_of_ble_eq_true rfl) dX11_gate_60 ⟨Nat.zero_le _, Nat.zero_le _⟩ (fun r1158 H locs hp hI hS => ?_)
        have hp := hp.symm
        subst hp
        have hpost : True := trivial
        rw [hQ]
        exact W.iret (v := r1157) hx hb hr (fun t ht hW => ⟨⟨r1157, (), rfl, hpost, by rw [ht]; exact hI, hN.warm hW, va_K.moved hW.alike hK⟩, hS.F ht⟩) hS.2.2 dX11_gate_63
    · skip
      try simp only [rg, not_and, Int.not_le] at hp
      have hp1159 := hp
      refine lv_if_ne (tgt := 21) hx hb dX11_gate_12 (by decide) (fun c => absurd c (by decide)) (fun _ => ?_)
      exact J_15 s.heap locs ls  (lv_sub hl [0, 1, 2, 3] rfl)  hI hS
  · skip
    try simp only [rg, not_and, Int.not_le] at hp
    have hp1160 := hp
    refine lv_if_eq (tgt := 15) hx hb dX11_gate_4 (by decide) (fun _ => ?_) (fun c => absurd c (by decide))
    exact J_15 s.heap locs ls  (lv_sub hl [0, 1, 2, 3] rfl)  hI hS
theorem dX11_open_0 : decode cX11_open 0 = .ok (.aload_n 0, 1) := by decide +kernel
theorem dX11_open_1 : decode cX11_open 1 = .ok (.getfield 12, 3) := by decide +kernel
theorem dX11_open_4 : decode cX11_open 4 = .ok (.getfield 145, 3) := by decide +kernel
theorem dX11_open_7 : decode cX11_open 7 = .ok (.iload_n 1, 1) := by decide +kernel
theorem dX11_open_8 : decode cX11_open 8 = .ok (.invokevirtual 159, 3) := by decide +kernel
theorem dX11_open_11 : decode cX11_open 11 = .ok (.ifCond .ne 10, 3) := by decide +kernel
theorem dX11_open_14 : decode cX11_open 14 = .ok (.aload_n 0, 1) := by decide +kernel
theorem dX11_open_15 : decode cX11_open 15 = .ok (.bipush (-2), 2) := by decide +kernel
theorem dX11_open_17 : decode cX11_open 17 = .ok (.invokevirtual 113, 3) := by decide +kernel
theorem dX11_open_20 : decode cX11_open 20 = .ok (.ireturn, 1) := by decide +kernel
theorem dX11_open_21 : decode cX11_open 21 = .ok (.aload_n 0, 1) := by decide +kernel
theorem dX11_open_22 : decode cX11_open 22 = .ok (.getfield 12, 3) := by decide +kernel
theorem dX11_open_25 : decode cX11_open 25 = .ok (.getfield 145, 3) := by decide +kernel
theorem dX11_open_28 : decode cX11_open 28 = .ok (.iload_n 1, 1) := by decide +kernel
theorem dX11_open_29 : decode cX11_open 29 = .ok (.invokevirtual 162, 3) := by decide +kernel
theorem dX11_open_32 : decode cX11_open 32 = .ok (.aload_n 0, 1) := by decide +kernel
theorem dX11_open_33 : decode cX11_open 33 = .ok (.invokevirtual 124, 3) := by decide +kernel
theorem dX11_open_36 : decode cX11_open 36 = .ok (.aload_n 0, 1) := by decide +kernel
theorem dX11_open_37 : decode cX11_open 37 = .ok (.aload_n 0, 1) := by decide +kernel
theorem dX11_open_38 : decode cX11_open 38 = .ok (.getfield 12, 3) := by decide +kernel
theorem dX11_open_41 : decode cX11_open 41 = .ok (.getfield 145, 3) := by decide +kernel
theorem dX11_open_44 : decode cX11_open 44 = .ok (.invokevirtual 166, 3) := by decide +kernel
theorem dX11_open_47 : decode cX11_open 47 = .ok (.invokevirtual 127, 3) := by decide +kernel
theorem dX11_open_50 : decode cX11_open 50 = .ok (.ireturn, 1) := by decide +kernel
set_option maxHeartbeats 4000000 in
set_option maxRecDepth 100000 in
theorem c_X11_open (l : Launch) (E : Nat → ClassId) (D : va_G) (G : th_G) (h0 n : Nat) (hG0 : G h0 = some (15, n)) (x1 : Int32) : Met l yX11_open (tb (.code yX11_open cX11_open 2 (some .int))) (rm 3) (va_Pc [.ref h0, .int x1] (th_P E D G)) (QI E D G (fun r => True)) 0 0 (th_A G) := by
  refine Met.ofW (cc := cX11_open) (maxL := 2) (ret := (some .int)) (by decide) rfl ?_
  intro p e s m args below meth c s₁ B hml hv
  obtain ⟨hav, hI, hN, hK⟩ := hv
  have hx := B.exec
  have hb := B.bytes
  have hr := B.returns
  have hts := atoms_spec (ws := tb (.code yX11_open cX11_open 2 (some .int))) B.pre
  have hown : s.vm.findClass RX11 = some m.cls := findClass_of_methodNamed B.named
  have hlocks := B.notSynchronized
  have hS : va_S (th_A G) s.heap s.heap [] := va_S.rf
  have hl := lv_entry ([.ref h0, .int x1]) (n := 2) (Nat.le_of_ble_eq_true rfl)
  rw [show entryFrame m args 2 = entryFrame m ([.ref h0, .int x1] : List Value).toArray 2 from by rw [hav], lg_entry_eq]
  generalize (lg_sl ([.ref h0, .int x1]) ++ List.replicate (2 - (lg_sl ([.ref h0, .int x1])).length) Slot.unset).toArray = ls at hl ⊢
  have hl : lv_has ls 2 [(0, .ref h0), (1, .int x1)] := hl
  generalize hR : (headSpec (tb (.code yX11_open cX11_open 2 (some .int))) (rm 3)).room = R
  have hR := hR.symm
  generalize hQ : MQ below (QI E D G (fun r => True)) args s 0 0 (th_A G) = QF
  have hQ := hQ.symm
  refine lv_aload_n hx hb dX11_open_0 rfl (lv_at hl 0 rfl) ?_
  obtain ⟨a1, a4, a6, a8, a10, a12, a14, a16, a18, a20, a22, w24, w25, w26, w27, hO, hq2, hq3, hq5, hq7, hq9, hq11, hq13, hq15, hq17, hq19, hq21, hq23⟩ := op_15 hI hG0 List.not_mem_nil
  have hI := th_I.weak (a := h0) hI
  have k28 : (nI (n % 401)).toInt = ((n % 401 : Nat) : Int) := nI_toInt (by omega)
  refine th_get hx hb hts inT11 hown hK hO rfl 0 (by decide) (hts _ (tb_c wd_345)) rfl rfl dX11_open_1 ?_
  have hI := th_I.close hI hG0 hO (ok_15 hq2 hq3 hq5 hq7 hq9 hq11 hq13 hq15 hq17 hq19 hq21 hq23)
  obtain ⟨a29, a31, a33, a35, a37, a39, a41, a43, a45, a47, w49, w52, w53, w54, hO, hq30, hq32, hq34, hq36, hq38, hq40, hq42, hq44, hq46, hq48, ⟨k50, k51⟩⟩ := op_6 hI hq2 List.not_mem_nil
  have hI := th_I.weak (a := a1) hI
  refine th_getN hx hb hts inT6 hown hK hN hO rfl 2 (by decide) wn_61 rfl rfl dX11_open_4 ?_
  refine lv_iload_n hx hb dX11_open_7 rfl (lv_at hl 1 rfl) ?_
  have hI := th_I.close hI hq2 hO (ok_6 hq30 hq32 hq34 hq36 hq38 hq40 hq42 hq44 hq46 hq48 ⟨by omega, by omega⟩)
  obtain ⟨a56, w58, hO, hq57, ⟨k59, k60⟩, k61⟩ := op_4 hI hq34 List.not_mem_nil
  have hI := th_I.weak (a := a33) hI
  have k62 : (nI 8).toInt = ((8 : Nat) : Int) := nI_toInt (by omega)
  refine th_cVs (As := [.int x1]) (rest := []) (n := 1) (d := 0) ⟨hx, hb, hml, hown, hts⟩ (c_X4_has l E D s.heap a33 8 a56 w58 hO (by omega) (by omega) (by omega) x1) wd_494 wd_495 wd_496 wd_3 wd_497 (by decide +kernel) ⟨by rw [hR]; exact Nat.le_of_ble_eq_true rfl, by rw [hR]; exact Nat.le_of_ble_eq_true rfl⟩ hN hK hS ⟨_, hO⟩ rfl rfl hl.1 rfl (Nat.le_of_ble_eq_true rfl) dX11_open_8 ⟨Nat.zero_le _, Nat.zero_le _⟩ (fun r55 locs hp hS => ?_)
  rcases hp with ⟨rfl, hp⟩ | ⟨rfl, hp⟩
  · skip
    try simp only [rg, not_and, Int.not_le] at hp
    have hp63 := hp
    refine lv_if_ne (tgt := 21) hx hb dX11_open_11 (by decide) (fun _ => ?_) (fun c => absurd c (by decide))
    refine lv_aload_n hx hb dX11_open_21 rfl (lv_at hl 0 rfl) ?_
    have hI := th_I.close hI hq34 hO (ok_4 hq57 ⟨by omega, by omega⟩ (by omega))
    obtain ⟨a64, a67, a69, a71, a73, a75, a77, a79, a81, a83, a85, w87, w88, w89, w90, hO, hq65, hq66, hq68, hq70, hq72, hq74, hq76, hq78, hq80, hq82, hq84, hq86⟩ := op_15 hI hG0 List.not_mem_nil
    have hI := th_I.weak (a := h0) hI
    have k91 : (nI (n % 401)).toInt = ((n % 401 : Nat) : Int) := nI_toInt (by omega)
    refine th_get hx hb hts inT11 hown hK hO rfl 0 (by decide) (hts _ (tb_c wd_345)) rfl rfl dX11_open_22 ?_
    have hI := th_I.close hI hG0 hO (ok_15 hq65 hq66 hq68 hq70 hq72 hq74 hq76 hq78 hq80 hq82 hq84 hq86)
    obtain ⟨a92, a94, a96, a98, a100, a102, a104, a106, a108, a110, w112, w115, w116, w117, hO, hq93, hq95, hq97, hq99, hq101, hq103, hq105, hq107, hq109, hq111, ⟨k113, k114⟩⟩ := op_6 hI hq65 List.not_mem_nil
    have hI := th_I.weak (a := a64) hI
    refine th_getN hx hb hts inT6 hown hK hN hO rfl 2 (by decide) wn_61 rfl rfl dX11_open_25 ?_
    refine lv_iload_n hx hb dX11_open_28 rfl (lv_at hl 1 rfl) ?_
    have hI := th_I.close hI hq65 hO (ok_6 hq93 hq95 hq97 hq99 hq101 hq103 hq105 hq107 hq109 hq111 ⟨by omega, by omega⟩)
    refine th_cVv (As := [.int x1]) (rest := []) (n := 1) (d := 1) ⟨hx, hb, hml, hown, hts⟩ (c_X4_takeOut l E D G a96 (8) hq97 x1) wd_498 wd_499 wd_500 wd_3 wd_501 (by decide +kernel) ⟨by rw [hR]; exact Nat.le_of_ble_eq_true rfl, by rw [hR]; exact Nat.le_of_ble_eq_true rfl⟩ hI hN hK hS (rc_4 hI hq97 List.not_mem_nil) rfl rfl hl.1 rfl (Nat.le_of_ble_eq_true rfl) dX11_open_29 ⟨Nat.zero_le _, Nat.zero_le _⟩ (fun H locs hI hS => ?_)
    refine lv_aload_n hx hb dX11_open_32 rfl (lv_at hl 0 rfl) ?_
    refine th_cVv (As := []) (rest := []) (n := 0) (d := 2) ⟨hx, hb, hml, hown, hts⟩ (c_X11_turnRiver l E D G h0 (n) hG0 ) wd_423 wd_425 wp_1 wd_1 wd_426 (by decide +kernel) ⟨by rw [hR]; exact Nat.le_of_ble_eq_true rfl, by rw [hR]; exact Nat.le_of_ble_eq_true rfl⟩ hI hN hK hS (rc_15 hI hG0 List.not_mem_nil) rfl rfl hl.1 rfl (Nat.le_of_ble_eq_true rfl) dX11_open_33 ⟨Nat.zero_le _, Nat.zero_le _⟩ (fun H locs hI hS => ?_)
    refine lv_aload_n hx hb dX11_open_36 rfl (lv_at hl 0 rfl) ?_
    refine lv_aload_n hx hb dX11_open_37 rfl (lv_at hl 0 rfl) ?_
    obtain ⟨a120, a123, a125, a127, a129, a131, a133, a135, a137, a139, a141, w143, w144, w145, w146, hO, hq121, hq122, hq124, hq126, hq128, hq130, hq132, hq134, hq136, hq138, hq140, hq142⟩ := op_15 hI hG0 List.not_mem_nil
    have hI := th_I.weak (a := h0) hI
    have k147 : (nI (n % 401)).toInt = ((n % 401 : Nat) : Int) := nI_toInt (by omega)
    refine th_get hx hb hts inT11 hown hK hO rfl 0 (by decide) (hts _ (tb_c wd_345)) rfl rfl dX11_open_38 ?_
    have hI := th_I.close hI hG0 hO (ok_15 hq121 hq122 hq124 hq126 hq128 hq130 hq132 hq134 hq136 hq138 hq140 hq142)
    obtain ⟨a148, a150, a152, a154, a156, a158, a160, a162, a164, a166, w168, w171, w172, w173, hO, hq149, hq151, hq153, hq155, hq157, hq159, hq161, hq163, hq165, hq167, ⟨k169, k170⟩⟩ := op_6 hI hq121 List.not_mem_nil
    have hI := th_I.weak (a := a120) hI
    refine th_getN hx hb hts inT6 hown hK hN hO rfl 2 (by decide) wn_61 rfl rfl dX11_open_41 ?_
    have hI := th_I.close hI hq121 hO (ok_6 hq149 hq151 hq153 hq155 hq157 hq159 hq161 hq163 hq165 hq167 ⟨by omega, by omega⟩)
    obtain ⟨a175, w177, hO, hq176, ⟨k178, k179⟩, k180⟩ := op_4 hI hq153 List.not_mem_nil
    have hI := th_I.weak (a := a152) hI
    have k181 : (nI 8).toInt = ((8 : Nat) : Int) := nI_toInt (by omega)
    refine th_cVs (As := []) (rest := [.ref h0]) (n := 0) (d := 0) ⟨hx, hb, hml, hown, hts⟩ (c_X4_size l E D H a152 8 a175 w177 hO (by omega) (by omega) (by omega)) wd_506 wd_507 wd_508 wd_3 wd_509 (by decide +kernel) ⟨by rw [hR]; exact Nat.le_of_ble_eq_true rfl, by rw [hR]; exact Nat.le_of_ble_eq_true rfl⟩ hN hK hS ⟨_, hO⟩ rfl rfl hl.1 rfl (Nat.le_of_ble_eq_true rfl) dX11_open_44 ⟨Nat.zero_le _, Nat.zero_le _⟩ (fun r174 locs hp hS => ?_)
    have hp := hp.symm
    subst hp
    have hI := th_I.close hI hq153 hO (ok_4 hq176 ⟨by omega, by omega⟩ (by omega))
    refine th_cVi (As := [.int w177]) (rest := []) (n := 1) (d := 0) ⟨hx, hb, hml, hown, hts⟩ (c_X11_accept l E D G h0 (n) hG0 w177) wd_447 wd_449 wp_3 wd_1 wd_450 (by decide +kernel) ⟨by rw [hR]; exact Nat.le_of_ble_eq_true rfl, by rw [hR]; exact Nat.le_of_ble_eq_true rfl⟩ hI hN hK hS (rc_15 hI hG0 List.not_mem_nil) rfl rfl hl.1 rfl (Nat.le_of_ble_eq_true rfl) dX11_open_47 ⟨Nat.zero_le _, Nat.zero_le _⟩ (fun r182 H locs hp hI hS => ?_)
    have hp := hp.symm
    subst hp
    have hpost : True := trivial
    rw [hQ]
    exact W.iret (v := w177) hx hb hr (fun t ht hW => ⟨⟨w177, (), rfl, hpost, by rw [ht]; exact hI, hN.warm hW, va_K.moved hW.alike hK⟩, hS.F ht⟩) hS.2.2 dX11_open_50
  · skip
    have hp183 := hp
    refine lv_if_ne (tgt := 21) hx hb dX11_open_11 (by decide) (fun c => absurd c (by decide)) (fun _ => ?_)
    refine lv_aload_n hx hb dX11_open_14 rfl (lv_at hl 0 rfl) ?_
    refine lv_bipush (v := (-2)) hx hb dX11_open_15 (by decide) ?_
    have hI := th_I.close hI hq34 hO (ok_4 hq57 ⟨by omega, by omega⟩ (by omega))
    refine th_cVi (As := [.int (-2)]) (rest := []) (n := 1) (d := 0) ⟨hx, hb, hml, hown, hts⟩ (c_X11_refuse l E D G h0 (n) hG0 (-2)) wd_407 wd_409 wp_0 wd_1 wd_410 (by decide +kernel) ⟨by rw [hR]; exact Nat.le_of_ble_eq_true rfl, by rw [hR]; exact Nat.le_of_ble_eq_true rfl⟩ hI hN hK hS (rc_15 hI hG0 List.not_mem_nil) rfl rfl hl.1 rfl (Nat.le_of_ble_eq_true rfl) dX11_open_17 ⟨Nat.zero_le _, Nat.zero_le _⟩ (fun r184 H locs hp hI hS => ?_)
    have hp := hp.symm
    subst hp
    have hpost : True := trivial
    rw [hQ]
    exact W.iret (v := (-2)) hx hb hr (fun t ht hW => ⟨⟨(-2), (), rfl, hpost, by rw [ht]; exact hI, hN.warm hW, va_K.moved hW.alike hK⟩, hS.F ht⟩) hS.2.2 dX11_open_20
theorem dX11_mill_0 : decode cX11_mill 0 = .ok (.iload_n 1, 1) := by decide +kernel
theorem dX11_mill_1 : decode cX11_mill 1 = .ok (.invokestatic 106, 3) := by decide +kernel
theorem dX11_mill_4 : decode cX11_mill 4 = .ok (.ifCond .ne 9, 3) := by decide +kernel
theorem dX11_mill_7 : decode cX11_mill 7 = .ok (.aload_n 0, 1) := by decide +kernel
theorem dX11_mill_8 : decode cX11_mill 8 = .ok (.iconst (-1), 1) := by decide +kernel
theorem dX11_mill_9 : decode cX11_mill 9 = .ok (.invokevirtual 113, 3) := by decide +kernel
theorem dX11_mill_12 : decode cX11_mill 12 = .ok (.ireturn, 1) := by decide +kernel
theorem dX11_mill_13 : decode cX11_mill 13 = .ok (.aload_n 0, 1) := by decide +kernel
theorem dX11_mill_14 : decode cX11_mill 14 = .ok (.getfield 12, 3) := by decide +kernel
theorem dX11_mill_17 : decode cX11_mill 17 = .ok (.getfield 170, 3) := by decide +kernel
theorem dX11_mill_20 : decode cX11_mill 20 = .ok (.invokevirtual 149, 3) := by decide +kernel
theorem dX11_mill_23 : decode cX11_mill 23 = .ok (.ifCond .eq 10, 3) := by decide +kernel
theorem dX11_mill_26 : decode cX11_mill 26 = .ok (.aload_n 0, 1) := by decide +kernel
theorem dX11_mill_27 : decode cX11_mill 27 = .ok (.bipush (-5), 2) := by decide +kernel
theorem dX11_mill_29 : decode cX11_mill 29 = .ok (.invokevirtual 113, 3) := by decide +kernel
theorem dX11_mill_32 : decode cX11_mill 32 = .ok (.ireturn, 1) := by decide +kernel
theorem dX11_mill_33 : decode cX11_mill 33 = .ok (.aload_n 0, 1) := by decide +kernel
theorem dX11_mill_34 : decode cX11_mill 34 = .ok (.invokevirtual 124, 3) := by decide +kernel
theorem dX11_mill_37 : decode cX11_mill 37 = .ok (.aload_n 0, 1) := by decide +kernel
theorem dX11_mill_38 : decode cX11_mill 38 = .ok (.aload_n 0, 1) := by decide +kernel
theorem dX11_mill_39 : decode cX11_mill 39 = .ok (.getfield 12, 3) := by decide +kernel
theorem dX11_mill_42 : decode cX11_mill 42 = .ok (.getfield 170, 3) := by decide +kernel
theorem dX11_mill_45 : decode cX11_mill 45 = .ok (.iload_n 1, 1) := by decide +kernel
theorem dX11_mill_46 : decode cX11_mill 46 = .ok (.iconst 0, 1) := by decide +kernel
theorem dX11_mill_47 : decode cX11_mill 47 = .ok (.iconst 0, 1) := by decide +kernel
theorem dX11_mill_48 : decode cX11_mill 48 = .ok (.iconst 0, 1) := by decide +kernel
theorem dX11_mill_49 : decode cX11_mill 49 = .ok (.invokevirtual 155, 3) := by decide +kernel
theorem dX11_mill_52 : decode cX11_mill 52 = .ok (.invokevirtual 127, 3) := by decide +kernel
theorem dX11_mill_55 : decode cX11_mill 55 = .ok (.ireturn, 1) := by decide +kernel
set_option maxHeartbeats 4000000 in
set_option maxRecDepth 100000 in
theorem c_X11_mill (l : Launch) (E : Nat → ClassId) (D : va_G) (G : th_G) (h0 n : Nat) (hG0 : G h0 = some (15, n)) (x1 : Int32) : Met l yX11_mill (tb (.code yX11_mill cX11_mill 2 (some .int))) (rm 3) (va_Pc [.ref h0, .int x1] (th_P E D G)) (QI E D G (fun r => True)) 0 0 (th_A G) := by
  refine Met.ofW (cc := cX11_mill) (maxL := 2) (ret := (some .int)) (by decide) rfl ?_
  intro p e s m args below meth c s₁ B hml hv
  obtain ⟨hav, hI, hN, hK⟩ := hv
  have hx := B.exec
  have hb := B.bytes
  have hr := B.returns
  have hts := atoms_spec (ws := tb (.code yX11_mill cX11_mill 2 (some .int))) B.pre
  have hown : s.vm.findClass RX11 = some m.cls := findClass_of_methodNamed B.named
  have hlocks := B.notSynchronized
  have hS : va_S (th_A G) s.heap s.heap [] := va_S.rf
  have hl := lv_entry ([.ref h0, .int x1]) (n := 2) (Nat.le_of_ble_eq_true rfl)
  rw [show entryFrame m args 2 = entryFrame m ([.ref h0, .int x1] : List Value).toArray 2 from by rw [hav], lg_entry_eq]
  generalize (lg_sl ([.ref h0, .int x1]) ++ List.replicate (2 - (lg_sl ([.ref h0, .int x1])).length) Slot.unset).toArray = ls at hl ⊢
  have hl : lv_has ls 2 [(0, .ref h0), (1, .int x1)] := hl
  generalize hR : (headSpec (tb (.code yX11_mill cX11_mill 2 (some .int))) (rm 3)).room = R
  have hR := hR.symm
  generalize hQ : MQ below (QI E D G (fun r => True)) args s 0 0 (th_A G) = QF
  have hQ := hQ.symm
  refine lv_iload_n hx hb dX11_mill_0 rfl (lv_at hl 1 rfl) ?_
  refine th_cSs (As := [.int x1]) (rest := []) (n := 1) (d := 0) ⟨hx, hb, hml, hown, hts⟩ (c_X11_isCell l s.heap x1) wd_401 wd_402 wd_1 wd_403 (by decide +kernel) ⟨by rw [hR]; exact Nat.le_of_ble_eq_true rfl, by rw [hR]; exact Nat.le_of_ble_eq_true rfl⟩ hN hS rfl hl.1 rfl (Nat.le_of_ble_eq_true rfl) dX11_mill_1 ⟨Nat.zero_le _, Nat.zero_le _⟩ (fun r1 locs hp hS => ?_)
  rcases hp with ⟨rfl, hp⟩ | ⟨rfl, hp⟩
  · skip
    try simp only [rg, not_and, Int.not_le] at hp
    have hp2 := hp
    refine lv_if_ne (tgt := 13) hx hb dX11_mill_4 (by decide) (fun _ => ?_) (fun c => absurd c (by decide))
    refine lv_aload_n hx hb dX11_mill_13 rfl (lv_at hl 0 rfl) ?_
    obtain ⟨a3, a6, a8, a10, a12, a14, a16, a18, a20, a22, a24, w26, w27, w28, w29, hO, hq4, hq5, hq7, hq9, hq11, hq13, hq15, hq17, hq19, hq21, hq23, hq25⟩ := op_15 hI hG0 List.not_mem_nil
    have hI := th_I.weak (a := h0) hI
    have k30 : (nI (n % 401)).toInt = ((n % 401 : Nat) : Int) := nI_toInt (by omega)
    refine th_get hx hb hts inT11 hown hK hO rfl 0 (by decide) (hts _ (tb_c wd_345)) rfl rfl dX11_mill_14 ?_
    have hI := th_I.close hI hG0 hO (ok_15 hq4 hq5 hq7 hq9 hq11 hq13 hq15 hq17 hq19 hq21 hq23 hq25)
    obtain ⟨a31, a33, a35, a37, a39, a41, a43, a45, a47, a49, w51, w54, w55, w56, hO, hq32, hq34, hq36, hq38, hq40, hq42, hq44, hq46, hq48, hq50, ⟨k52, k53⟩⟩ := op_6 hI hq4 List.not_mem_nil
    have hI := th_I.weak (a := a3) hI
    refine th_getN hx hb hts inT6 hown hK hN hO rfl 3 (by decide) wn_64 rfl rfl dX11_mill_17 ?_
    have hI := th_I.close hI hq4 hO (ok_6 hq32 hq34 hq36 hq38 hq40 hq42 hq44 hq46 hq48 hq50 ⟨by omega, by omega⟩)
    obtain ⟨a58, w60, hO, hq59, ⟨k61, k62⟩, k63⟩ := op_4 hI hq38 List.not_mem_nil
    have hI := th_I.weak (a := a37) hI
    have k64 : (nI 6).toInt = ((6 : Nat) : Int) := nI_toInt (by omega)
    refine th_cVs (As := []) (rest := []) (n := 0) (d := 0) ⟨hx, hb, hml, hown, hts⟩ (c_X4_isFull l E D s.heap a37 6 a58 w60 hO (by omega) (by omega) (by omega)) wd_481 wd_482 wd_483 wd_3 wd_484 (by decide +kernel) ⟨by rw [hR]; exact Nat.le_of_ble_eq_true rfl, by rw [hR]; exact Nat.le_of_ble_eq_true rfl⟩ hN hK hS ⟨_, hO⟩ rfl rfl hl.1 rfl (Nat.le_of_ble_eq_true rfl) dX11_mill_20 ⟨Nat.zero_le _, Nat.zero_le _⟩ (fun r57 locs hp hS => ?_)
    rcases hp with ⟨rfl, hp⟩ | ⟨rfl, hp⟩
    · skip
      try simp only [rg, not_and, Int.not_le] at hp
      have hp65 := hp
      refine lv_if_eq (tgt := 33) hx hb dX11_mill_23 (by decide) (fun c => absurd c (by decide)) (fun _ => ?_)
      refine lv_aload_n hx hb dX11_mill_26 rfl (lv_at hl 0 rfl) ?_
      refine lv_bipush (v := (-5)) hx hb dX11_mill_27 (by decide) ?_
      have hI := th_I.close hI hq38 hO (ok_4 hq59 ⟨by omega, by omega⟩ (by omega))
      refine th_cVi (As := [.int (-5)]) (rest := []) (n := 1) (d := 0) ⟨hx, hb, hml, hown, hts⟩ (c_X11_refuse l E D G h0 (n) hG0 (-5)) wd_407 wd_409 wp_0 wd_1 wd_410 (by decide +kernel) ⟨by rw [hR]; exact Nat.le_of_ble_eq_true rfl, by rw [hR]; exact Nat.le_of_ble_eq_true rfl⟩ hI hN hK hS (rc_15 hI hG0 List.not_mem_nil) rfl rfl hl.1 rfl (Nat.le_of_ble_eq_true rfl) dX11_mill_29 ⟨Nat.zero_le _, Nat.zero_le _⟩ (fun r66 H locs hp hI hS => ?_)
      have hp := hp.symm
      subst hp
      have hpost : True := trivial
      rw [hQ]
      exact W.iret (v := (-5)) hx hb hr (fun t ht hW => ⟨⟨(-5), (), rfl, hpost, by rw [ht]; exact hI, hN.warm hW, va_K.moved hW.alike hK⟩, hS.F ht⟩) hS.2.2 dX11_mill_32
    · skip
      have hp67 := hp
      refine lv_if_eq (tgt := 33) hx hb dX11_mill_23 (by decide) (fun _ => ?_) (fun c => absurd c (by decide))
      refine lv_aload_n hx hb dX11_mill_33 rfl (lv_at hl 0 rfl) ?_
      have hI := th_I.close hI hq38 hO (ok_4 hq59 ⟨by omega, by omega⟩ (by omega))
      refine th_cVv (As := []) (rest := []) (n := 0) (d := 2) ⟨hx, hb, hml, hown, hts⟩ (c_X11_turnRiver l E D G h0 (n) hG0 ) wd_423 wd_425 wp_1 wd_1 wd_426 (by decide +kernel) ⟨by rw [hR]; exact Nat.le_of_ble_eq_true rfl, by rw [hR]; exact Nat.le_of_ble_eq_true rfl⟩ hI hN hK hS (rc_15 hI hG0 List.not_mem_nil) rfl rfl hl.1 rfl (Nat.le_of_ble_eq_true rfl) dX11_mill_34 ⟨Nat.zero_le _, Nat.zero_le _⟩ (fun H locs hI hS => ?_)
      refine lv_aload_n hx hb dX11_mill_37 rfl (lv_at hl 0 rfl) ?_
      refine lv_aload_n hx hb dX11_mill_38 rfl (lv_at hl 0 rfl) ?_
      obtain ⟨a69, a72, a74, a76, a78, a80, a82, a84, a86, a88, a90, w92, w93, w94, w95, hO, hq70, hq71, hq73, hq75, hq77, hq79, hq81, hq83, hq85, hq87, hq89, hq91⟩ := op_15 hI hG0 List.not_mem_nil
      have hI := th_I.weak (a := h0) hI
      have k96 : (nI (n % 401)).toInt = ((n % 401 : Nat) : Int) := nI_toInt (by omega)
      refine th_get hx hb hts inT11 hown hK hO rfl 0 (by decide) (hts _ (tb_c wd_345)) rfl rfl dX11_mill_39 ?_
      have hI := th_I.close hI hG0 hO (ok_15 hq70 hq71 hq73 hq75 hq77 hq79 hq81 hq83 hq85 hq87 hq89 hq91)
      obtain ⟨a97, a99, a101, a103, a105, a107, a109, a111, a113, a115, w117, w120, w121, w122, hO, hq98, hq100, hq102, hq104, hq106, hq108, hq110, hq112, hq114, hq116, ⟨k118, k119⟩⟩ := op_6 hI hq70 List.not_mem_nil
      have hI := th_I.weak (a := a69) hI
      refine th_getN hx hb hts inT6 hown hK hN hO rfl 3 (by decide) wn_64 rfl rfl dX11_mill_42 ?_
      refine lv_iload_n hx hb dX11_mill_45 rfl (lv_at hl 1 rfl) ?_
      refine lv_iconst (v := 0) hx hb dX11_mill_46 (by decide) ?_
      refine lv_iconst (v := 0) hx hb dX11_mill_47 (by decide) ?_
      refine lv_iconst (v := 0) hx hb dX11_mill_48 (by decide) ?_
      have hI := th_I.close hI hq70 hO (ok_6 hq98 hq100 hq102 hq104 hq106 hq108 hq110 hq112 hq114 hq116 ⟨by omega, by omega⟩)
      refine th_cVi (As := [.int x1, .int 0, .int 0, .int 0]) (rest := [.ref h0]) (n := 4) (d := 1) ⟨hx, hb, hml, hown, hts⟩ (c_X4_put l E D G a103 (6) hq104 x1 0 0 0) wd_485 wd_486 wd_487 wd_3 wd_488 (by decide +kernel) ⟨by rw [hR]; exact Nat.le_of_ble_eq_true rfl, by rw [hR]; exact Nat.le_of_ble_eq_true rfl⟩ hI hN hK hS (rc_4 hI hq104 List.not_mem_nil) rfl rfl hl.1 rfl (Nat.le_of_ble_eq_true rfl) dX11_mill_49 ⟨Nat.zero_le _, Nat.zero_le _⟩ (fun r123 H locs hp hI hS => ?_)
      refine th_cVi (As := [.int r123]) (rest := []) (n := 1) (d := 0) ⟨hx, hb, hml, hown, hts⟩ (c_X11_accept l E D G h0 (n) hG0 r123) wd_447 wd_449 wp_3 wd_1 wd_450 (by decide +kernel) ⟨by rw [hR]; exact Nat.le_of_ble_eq_true rfl, by rw [hR]; exact Nat.le_of_ble_eq_true rfl⟩ hI hN hK hS (rc_15 hI hG0 List.not_mem_nil) rfl rfl hl.1 rfl (Nat.le_of_ble_eq_true rfl) dX11_mill_52 ⟨Nat.zero_le _, Nat.zero_le _⟩ (fun r124 H locs hp hI hS => ?_)
      have hp := hp.symm
      subst hp
      have hpost : True := trivial
      rw [hQ]
      exact W.iret (v := r123) hx hb hr (fun t ht hW => ⟨⟨r123, (), rfl, hpost, by rw [ht]; exact hI, hN.warm hW, va_K.moved hW.alike hK⟩, hS.F ht⟩) hS.2.2 dX11_mill_55
  · skip
    try simp only [rg, not_and, Int.not_le] at hp
    have hp125 := hp
    refine lv_if_ne (tgt := 13) hx hb dX11_mill_4 (by decide) (fun c => absurd c (by decide)) (fun _ => ?_)
    refine lv_aload_n hx hb dX11_mill_7 rfl (lv_at hl 0 rfl) ?_
    refine lv_iconst (v := (-1)) hx hb dX11_mill_8 (by decide) ?_
    refine th_cVi (As := [.int (-1)]) (rest := []) (n := 1) (d := 0) ⟨hx, hb, hml, hown, hts⟩ (c_X11_refuse l E D G h0 (n) hG0 (-1)) wd_407 wd_409 wp_0 wd_1 wd_410 (by decide +kernel) ⟨by rw [hR]; exact Nat.le_of_ble_eq_true rfl, by rw [hR]; exact Nat.le_of_ble_eq_true rfl⟩ hI hN hK hS (rc_15 hI hG0 List.not_mem_nil) rfl rfl hl.1 rfl (Nat.le_of_ble_eq_true rfl) dX11_mill_9 ⟨Nat.zero_le _, Nat.zero_le _⟩ (fun r126 H locs hp hI hS => ?_)
    have hp := hp.symm
    subst hp
    have hpost : True := trivial
    rw [hQ]
    exact W.iret (v := (-1)) hx hb hr (fun t ht hW => ⟨⟨(-1), (), rfl, hpost, by rw [ht]; exact hI, hN.warm hW, va_K.moved hW.alike hK⟩, hS.F ht⟩) hS.2.2 dX11_mill_12
theorem dX11_grinds_0 : decode cX11_grinds 0 = .ok (.aload_n 0, 1) := by decide +kernel
theorem dX11_grinds_1 : decode cX11_grinds 1 = .ok (.getfield 12, 3) := by decide +kernel
theorem dX11_grinds_4 : decode cX11_grinds 4 = .ok (.getfield 170, 3) := by decide +kernel
theorem dX11_grinds_7 : decode cX11_grinds 7 = .ok (.iload_n 1, 1) := by decide +kernel
theorem dX11_grinds_8 : decode cX11_grinds 8 = .ok (.invokevirtual 159, 3) := by decide +kernel
theorem dX11_grinds_11 : decode cX11_grinds 11 = .ok (.ifCond .eq 11, 3) := by decide +kernel
theorem dX11_grinds_14 : decode cX11_grinds 14 = .ok (.iload_n 2, 1) := by decide +kernel
theorem dX11_grinds_15 : decode cX11_grinds 15 = .ok (.iload_n 3, 1) := by decide +kernel
theorem dX11_grinds_16 : decode cX11_grinds 16 = .ok (.invokestatic 134, 3) := by decide +kernel
theorem dX11_grinds_19 : decode cX11_grinds 19 = .ok (.ifCond .ne 5, 3) := by decide +kernel
theorem dX11_grinds_22 : decode cX11_grinds 22 = .ok (.iconst (-1), 1) := by decide +kernel
theorem dX11_grinds_23 : decode cX11_grinds 23 = .ok (.ireturn, 1) := by decide +kernel
theorem dX11_grinds_24 : decode cX11_grinds 24 = .ok (.aload_n 0, 1) := by decide +kernel
theorem dX11_grinds_25 : decode cX11_grinds 25 = .ok (.getfield 42, 3) := by decide +kernel
theorem dX11_grinds_28 : decode cX11_grinds 28 = .ok (.aload_n 0, 1) := by decide +kernel
theorem dX11_grinds_29 : decode cX11_grinds 29 = .ok (.getfield 12, 3) := by decide +kernel
theorem dX11_grinds_32 : decode cX11_grinds 32 = .ok (.getfield 170, 3) := by decide +kernel
theorem dX11_grinds_35 : decode cX11_grinds 35 = .ok (.iload_n 1, 1) := by decide +kernel
theorem dX11_grinds_36 : decode cX11_grinds 36 = .ok (.iconst 0, 1) := by decide +kernel
theorem dX11_grinds_37 : decode cX11_grinds 37 = .ok (.invokevirtual 173, 3) := by decide +kernel
theorem dX11_grinds_40 : decode cX11_grinds 40 = .ok (.iload_n 2, 1) := by decide +kernel
theorem dX11_grinds_41 : decode cX11_grinds 41 = .ok (.iload_n 3, 1) := by decide +kernel
theorem dX11_grinds_42 : decode cX11_grinds 42 = .ok (.invokevirtual 176, 3) := by decide +kernel
theorem dX11_grinds_45 : decode cX11_grinds 45 = .ok (.ireturn, 1) := by decide +kernel
set_option maxHeartbeats 4000000 in
set_option maxRecDepth 100000 in
theorem c_X11_grinds (l : Launch) (E : Nat → ClassId) (D : va_G) (G : th_G) (h0 n : Nat) (hG0 : G h0 = some (15, n)) (x1 x2 x3 : Int32) : Met l yX11_grinds (tb (.code yX11_grinds cX11_grinds 4 (some .int))) (rm 7) (va_Pc [.ref h0, .int x1, .int x2, .int x3] (th_P E D G)) (QI E D G (fun r => True)) 0 0 (th_A G) := by
  refine Met.ofW (cc := cX11_grinds) (maxL := 4) (ret := (some .int)) (by decide) rfl ?_
  intro p e s m args below meth c s₁ B hml hv
  obtain ⟨hav, hI, hN, hK⟩ := hv
  have hx := B.exec
  have hb := B.bytes
  have hr := B.returns
  have hts := atoms_spec (ws := tb (.code yX11_grinds cX11_grinds 4 (some .int))) B.pre
  have hown : s.vm.findClass RX11 = some m.cls := findClass_of_methodNamed B.named
  have hlocks := B.notSynchronized
  have hS : va_S (th_A G) s.heap s.heap [] := va_S.rf
  have hl := lv_entry ([.ref h0, .int x1, .int x2, .int x3]) (n := 4) (Nat.le_of_ble_eq_true rfl)
  rw [show entryFrame m args 4 = entryFrame m ([.ref h0, .int x1, .int x2, .int x3] : List Value).toArray 4 from by rw [hav], lg_entry_eq]
  generalize (lg_sl ([.ref h0, .int x1, .int x2, .int x3]) ++ List.replicate (4 - (lg_sl ([.ref h0, .int x1, .int x2, .int x3])).length) Slot.unset).toArray = ls at hl ⊢
  have hl : lv_has ls 4 [(0, .ref h0), (1, .int x1), (2, .int x2), (3, .int x3)] := hl
  generalize hR : (headSpec (tb (.code yX11_grinds cX11_grinds 4 (some .int))) (rm 7)).room = R
  have hR := hR.symm
  generalize hQ : MQ below (QI E D G (fun r => True)) args s 0 0 (th_A G) = QF
  have hQ := hQ.symm
  have J_22 : ∀ (H : Heap) (locs : List Loc) (ls : Array Slot) , lv_has ls 4 [(0, .ref h0), (1, .int x1), (2, .int x2), (3, .int x3)] → th_I (okC E) D G [] H → va_S (th_A G) s.heap H locs → W p l e R s m args below meth c H locs 0 0 QF (F0 m 22 ls []) := by
    intro H locs ls  hl  hI hS
    refine lv_iconst (v := (-1)) hx hb dX11_grinds_22 (by decide) ?_
    have hpost : True := trivial
    rw [hQ]
    exact W.iret (v := (-1)) hx hb hr (fun t ht hW => ⟨⟨(-1), (), rfl, hpost, by rw [ht]; exact hI, hN.warm hW, va_K.moved hW.alike hK⟩, hS.F ht⟩) hS.2.2 dX11_grinds_23
  refine lv_aload_n hx hb dX11_grinds_0 rfl (lv_at hl 0 rfl) ?_
  obtain ⟨a985, a988, a990, a992, a994, a996, a998, a1000, a1002, a1004, a1006, w1008, w1009, w1010, w1011, hO, hq986, hq987, hq989, hq991, hq993, hq995, hq997, hq999, hq1001, hq1003, hq1005, hq1007⟩ := op_15 hI hG0 List.not_mem_nil
  have hI := th_I.weak (a := h0) hI
  have k1012 : (nI (n % 401)).toInt = ((n % 401 : Nat) : Int) := nI_toInt (by omega)
  refine th_get hx hb hts inT11 hown hK hO rfl 0 (by decide) (hts _ (tb_c wd_345)) rfl rfl dX11_grinds_1 ?_
  have hI := th_I.close hI hG0 hO (ok_15 hq986 hq987 hq989 hq991 hq993 hq995 hq997 hq999 hq1001 hq1003 hq1005 hq1007)
  obtain ⟨a1013, a1015, a1017, a1019, a1021, a1023, a1025, a1027, a1029, a1031, w1033, w1036, w1037, w1038, hO, hq1014, hq1016, hq1018, hq1020, hq1022, hq1024, hq1026, hq1028, hq1030, hq1032, ⟨k1034, k1035⟩⟩ := op_6 hI hq986 List.not_mem_nil
  have hI := th_I.weak (a := a985) hI
  refine th_getN hx hb hts inT6 hown hK hN hO rfl 3 (by decide) wn_64 rfl rfl dX11_grinds_4 ?_
  refine lv_iload_n hx hb dX11_grinds_7 rfl (lv_at hl 1 rfl) ?_
  have hI := th_I.close hI hq986 hO (ok_6 hq1014 hq1016 hq1018 hq1020 hq1022 hq1024 hq1026 hq1028 hq1030 hq1032 ⟨by omega, by omega⟩)
  obtain ⟨a1040, w1042, hO, hq1041, ⟨k1043, k1044⟩, k1045⟩ := op_4 hI hq1020 List.not_mem_nil
  have hI := th_I.weak (a := a1019) hI
  have k1046 : (nI 6).toInt = ((6 : Nat) : Int) := nI_toInt (by omega)
  refine th_cVs (As := [.int x1]) (rest := []) (n := 1) (d := 0) ⟨hx, hb, hml, hown, hts⟩ (c_X4_has l E D s.heap a1019 6 a1040 w1042 hO (by omega) (by omega) (by omega) x1) wd_494 wd_495 wd_496 wd_3 wd_497 (by decide +kernel) ⟨by rw [hR]; exact Nat.le_of_ble_eq_true rfl, by rw [hR]; exact Nat.le_of_ble_eq_true rfl⟩ hN hK hS ⟨_, hO⟩ rfl rfl hl.1 rfl (Nat.le_of_ble_eq_true rfl) dX11_grinds_8 ⟨Nat.zero_le _, Nat.zero_le _⟩ (fun r1039 locs hp hS => ?_)
  rcases hp with ⟨rfl, hp⟩ | ⟨rfl, hp⟩
  · skip
    try simp only [rg, not_and, Int.not_le] at hp
    have hp1047 := hp
    refine lv_if_eq (tgt := 22) hx hb dX11_grinds_11 (by decide) (fun c => absurd c (by decide)) (fun _ => ?_)
    refine lv_iload_n hx hb dX11_grinds_14 rfl (lv_at hl 2 rfl) ?_
    refine lv_iload_n hx hb dX11_grinds_15 rfl (lv_at hl 3 rfl) ?_
    refine th_cSs (As := [.int x2, .int x3]) (rest := []) (n := 2) (d := 1) ⟨hx, hb, hml, hown, hts⟩ (c_X11_isSpan l s.heap x2 x3) wd_463 wd_464 wd_1 wd_465 (by decide +kernel) ⟨by rw [hR]; exact Nat.le_of_ble_eq_true rfl, by rw [hR]; exact Nat.le_of_ble_eq_true rfl⟩ hN hS rfl hl.1 rfl (Nat.le_of_ble_eq_true rfl) dX11_grinds_16 ⟨Nat.zero_le _, Nat.zero_le _⟩ (fun r1048 locs hp hS => ?_)
    rcases hp with ⟨rfl, hp⟩ | ⟨rfl, hp⟩
    · skip
      try simp only [rg, not_and, Int.not_le] at hp
      have hp1049 := hp
      refine lv_if_ne (tgt := 24) hx hb dX11_grinds_19 (by decide) (fun _ => ?_) (fun c => absurd c (by decide))
      refine lv_aload_n hx hb dX11_grinds_24 rfl (lv_at hl 0 rfl) ?_
      have hI := th_I.close hI hq1020 hO (ok_4 hq1041 ⟨by omega, by omega⟩ (by omega))
      obtain ⟨a1050, a1053, a1055, a1057, a1059, a1061, a1063, a1065, a1067, a1069, a1071, w1073, w1074, w1075, w1076, hO, hq1051, hq1052, hq1054, hq1056, hq1058, hq1060, hq1062, hq1064, hq1066, hq1068, hq1070, hq1072⟩ := op_15 hI hG0 List.not_mem_nil
      have hI := th_I.weak (a := h0) hI
      have k1077 : (nI (n % 401)).toInt = ((n % 401 : Nat) : Int) := nI_toInt (by omega)
      refine th_get hx hb hts inT11 hown hK hO rfl 6 (by decide) (hts _ (tb_c wd_351)) rfl rfl dX11_grinds_25 ?_
      refine lv_aload_n hx hb dX11_grinds_28 rfl (lv_at hl 0 rfl) ?_
      refine th_get hx hb hts inT11 hown hK hO rfl 0 (by decide) (hts _ (tb_c wd_345)) rfl rfl dX11_grinds_29 ?_
      have hI := th_I.close hI hG0 hO (ok_15 hq1051 hq1052 hq1054 hq1056 hq1058 hq1060 hq1062 hq1064 hq1066 hq1068 hq1070 hq1072)
      obtain ⟨a1078, a1080, a1082, a1084, a1086, a1088, a1090, a1092, a1094, a1096, w1098, w1101, w1102, w1103, hO, hq1079, hq1081, hq1083, hq1085, hq1087, hq1089, hq1091, hq1093, hq1095, hq1097, ⟨k1099, k1100⟩⟩ := op_6 hI hq1051 List.not_mem_nil
      have hI := th_I.weak (a := a1050) hI
      refine th_getN hx hb hts inT6 hown hK hN hO rfl 3 (by decide) wn_64 rfl rfl dX11_grinds_32 ?_
      refine lv_iload_n hx hb dX11_grinds_35 rfl (lv_at hl 1 rfl) ?_
      refine lv_iconst (v := 0) hx hb dX11_grinds_36 (by decide) ?_
      have hI := th_I.close hI hq1051 hO (ok_6 hq1079 hq1081 hq1083 hq1085 hq1087 hq1089 hq1091 hq1093 hq1095 hq1097 ⟨by omega, by omega⟩)
      refine th_cVi (As := [.int x1, .int 0]) (rest := [.ref a1061]) (n := 2) (d := 0) ⟨hx, hb, hml, hown, hts⟩ (c_X4_at l E D G a1084 (6) hq1085 x1 0) wd_518 wd_519 wd_520 wd_3 wd_521 (by decide +kernel) ⟨by rw [hR]; exact Nat.le_of_ble_eq_true rfl, by rw [hR]; exact Nat.le_of_ble_eq_true rfl⟩ hI hN hK hS (rc_4 hI hq1085 List.not_mem_nil) rfl rfl hl.1 rfl (Nat.le_of_ble_eq_true rfl) dX11_grinds_37 ⟨Nat.zero_le _, Nat.zero_le _⟩ (fun r1104 H locs hp hI hS => ?_)
      refine lv_iload_n hx hb dX11_grinds_40 rfl (lv_at hl 2 rfl) ?_
      refine lv_iload_n hx hb dX11_grinds_41 rfl (lv_at hl 3 rfl) ?_
      refine th_cVi (As := [.int r1104, .int x2, .int x3]) (rest := []) (n := 3) (d := 6) ⟨hx, hb, hml, hown, hts⟩ (c_X7_turns l E D G a1061 hq1062 r1104 x2 x3) wd_522 wd_523 wd_524 wd_6 wd_525 (by decide +kernel) ⟨by rw [hR]; exact Nat.le_of_ble_eq_true rfl, by rw [hR]; exact Nat.le_of_ble_eq_true rfl⟩ hI hN hK hS (rc_9 hI hq1062 List.not_mem_nil) rfl rfl hl.1 rfl (Nat.le_of_ble_eq_true rfl) dX11_grinds_42 ⟨Nat.zero_le _, Nat.zero_le _⟩ (fun r1105 H locs hp hI hS => ?_)
      have hpost : True := trivial
      rw [hQ]
      exact W.iret (v := r1105) hx hb hr (fun t ht hW => ⟨⟨r1105, (), rfl, hpost, by rw [ht]; exact hI, hN.warm hW, va_K.moved hW.alike hK⟩, hS.F ht⟩) hS.2.2 dX11_grinds_45
    · skip
      try simp only [rg, not_and, Int.not_le] at hp
      have hp1106 := hp
      refine lv_if_ne (tgt := 24) hx hb dX11_grinds_19 (by decide) (fun c => absurd c (by decide)) (fun _ => ?_)
      have hI := th_I.close hI hq1020 hO (ok_4 hq1041 ⟨by omega, by omega⟩ (by omega))
      exact J_22 s.heap locs ls  (lv_sub hl [0, 1, 2, 3] rfl)  hI hS
  · skip
    have hp1107 := hp
    refine lv_if_eq (tgt := 22) hx hb dX11_grinds_11 (by decide) (fun _ => ?_) (fun c => absurd c (by decide))
    have hI := th_I.close hI hq1020 hO (ok_4 hq1041 ⟨by omega, by omega⟩ (by omega))
    exact J_22 s.heap locs ls  (lv_sub hl [0, 1, 2, 3] rfl)  hI hS
theorem dX11_flow_0 : decode cX11_flow 0 = .ok (.iload_n 1, 1) := by decide +kernel
theorem dX11_flow_1 : decode cX11_flow 1 = .ok (.invokestatic 106, 3) := by decide +kernel
theorem dX11_flow_4 : decode cX11_flow 4 = .ok (.ifCond .eq 22, 3) := by decide +kernel
theorem dX11_flow_7 : decode cX11_flow 7 = .ok (.iload_n 2, 1) := by decide +kernel
theorem dX11_flow_8 : decode cX11_flow 8 = .ok (.invokestatic 211, 3) := by decide +kernel
theorem dX11_flow_11 : decode cX11_flow 11 = .ok (.ifCond .eq 15, 3) := by decide +kernel
theorem dX11_flow_14 : decode cX11_flow 14 = .ok (.aload_n 0, 1) := by decide +kernel
theorem dX11_flow_15 : decode cX11_flow 15 = .ok (.getfield 42, 3) := by decide +kernel
theorem dX11_flow_18 : decode cX11_flow 18 = .ok (.iload_n 1, 1) := by decide +kernel
theorem dX11_flow_19 : decode cX11_flow 19 = .ok (.iload_n 2, 1) := by decide +kernel
theorem dX11_flow_20 : decode cX11_flow 20 = .ok (.invokevirtual 214, 3) := by decide +kernel
theorem dX11_flow_23 : decode cX11_flow 23 = .ok (.goto 6, 3) := by decide +kernel
theorem dX11_flow_26 : decode cX11_flow 26 = .ok (.sipush (-1000), 3) := by decide +kernel
theorem dX11_flow_29 : decode cX11_flow 29 = .ok (.ireturn, 1) := by decide +kernel
set_option maxHeartbeats 4000000 in
set_option maxRecDepth 100000 in
theorem c_X11_flow (l : Launch) (E : Nat → ClassId) (D : va_G) (G : th_G) (h0 n : Nat) (hG0 : G h0 = some (15, n)) (x1 x2 : Int32) : Met l yX11_flow (tb (.code yX11_flow cX11_flow 3 (some .int))) (rm 6) (va_Pc [.ref h0, .int x1, .int x2] (th_P E D G)) (QI E D G (fun r => True)) 0 0 (th_A G) := by
  refine Met.ofW (cc := cX11_flow) (maxL := 3) (ret := (some .int)) (by decide) rfl ?_
  intro p e s m args below meth c s₁ B hml hv
  obtain ⟨hav, hI, hN, hK⟩ := hv
  have hx := B.exec
  have hb := B.bytes
  have hr := B.returns
  have hts := atoms_spec (ws := tb (.code yX11_flow cX11_flow 3 (some .int))) B.pre
  have hown : s.vm.findClass RX11 = some m.cls := findClass_of_methodNamed B.named
  have hlocks := B.notSynchronized
  have hS : va_S (th_A G) s.heap s.heap [] := va_S.rf
  have hl := lv_entry ([.ref h0, .int x1, .int x2]) (n := 3) (Nat.le_of_ble_eq_true rfl)
  rw [show entryFrame m args 3 = entryFrame m ([.ref h0, .int x1, .int x2] : List Value).toArray 3 from by rw [hav], lg_entry_eq]
  generalize (lg_sl ([.ref h0, .int x1, .int x2]) ++ List.replicate (3 - (lg_sl ([.ref h0, .int x1, .int x2])).length) Slot.unset).toArray = ls at hl ⊢
  have hl : lv_has ls 3 [(0, .ref h0), (1, .int x1), (2, .int x2)] := hl
  generalize hR : (headSpec (tb (.code yX11_flow cX11_flow 3 (some .int))) (rm 6)).room = R
  have hR := hR.symm
  generalize hQ : MQ below (QI E D G (fun r => True)) args s 0 0 (th_A G) = QF
  have hQ := hQ.symm
  refine lv_iload_n hx hb dX11_flow_0 rfl (lv_at hl 1 rfl) ?_
  refine th_cSs (As := [.int x1]) (rest := []) (n := 1) (d := 0) ⟨hx, hb, hml, hown, hts⟩ (c_X11_isCell l s.heap x1) wd_401 wd_402 wd_1 wd_403 (by decide +kernel) ⟨by rw [hR]; exact Nat.le_of_ble_eq_true rfl, by rw [hR]; exact Nat.le_of_ble_eq_true rfl⟩ hN hS rfl hl.1 rfl (Nat.le_of_ble_eq_true rfl) dX11_flow_1 ⟨Nat.zero_le _, Nat.zero_le _⟩ (fun r1 locs hp hS => ?_)
  rcases hp with ⟨rfl, hp⟩ | ⟨rfl, hp⟩
  · skip
    try simp only [rg, not_and, Int.not_le] at hp
    have hp2 := hp
    refine lv_if_eq (tgt := 26) hx hb dX11_flow_4 (by decide) (fun c => absurd c (by decide)) (fun _ => ?_)
    refine lv_iload_n hx hb dX11_flow_7 rfl (lv_at hl 2 rfl) ?_
    refine th_cSs (As := [.int x2]) (rest := []) (n := 1) (d := 0) ⟨hx, hb, hml, hown, hts⟩ (c_X11_isHour l s.heap x2) wd_466 wd_467 wd_1 wd_468 (by decide +kernel) ⟨by rw [hR]; exact Nat.le_of_ble_eq_true rfl, by rw [hR]; exact Nat.le_of_ble_eq_true rfl⟩ hN hS rfl hl.1 rfl (Nat.le_of_ble_eq_true rfl) dX11_flow_8 ⟨Nat.zero_le _, Nat.zero_le _⟩ (fun r3 locs hp hS => ?_)
    rcases hp with ⟨rfl, hp⟩ | ⟨rfl, hp⟩
    · skip
      try simp only [rg, not_and, Int.not_le] at hp
      have hp4 := hp
      refine lv_if_eq (tgt := 26) hx hb dX11_flow_11 (by decide) (fun c => absurd c (by decide)) (fun _ => ?_)
      refine lv_aload_n hx hb dX11_flow_14 rfl (lv_at hl 0 rfl) ?_
      obtain ⟨a5, a8, a10, a12, a14, a16, a18, a20, a22, a24, a26, w28, w29, w30, w31, hO, hq6, hq7, hq9, hq11, hq13, hq15, hq17, hq19, hq21, hq23, hq25, hq27⟩ := op_15 hI hG0 List.not_mem_nil
      have hI := th_I.weak (a := h0) hI
      have k32 : (nI (n % 401)).toInt = ((n % 401 : Nat) : Int) := nI_toInt (by omega)
      refine th_get hx hb hts inT11 hown hK hO rfl 6 (by decide) (hts _ (tb_c wd_351)) rfl rfl dX11_flow_15 ?_
      refine lv_iload_n hx hb dX11_flow_18 rfl (lv_at hl 1 rfl) ?_
      refine lv_iload_n hx hb dX11_flow_19 rfl (lv_at hl 2 rfl) ?_
      have hI := th_I.close hI hG0 hO (ok_15 hq6 hq7 hq9 hq11 hq13 hq15 hq17 hq19 hq21 hq23 hq25 hq27)
      refine th_cVi (As := [.int x1, .int x2]) (rest := []) (n := 2) (d := 5) ⟨hx, hb, hml, hown, hts⟩ (c_X7_flowAt l E D G a16 hq17 x1 x2) wd_805 wd_527 wd_528 wd_6 wd_529 (by decide +kernel) ⟨by rw [hR]; exact Nat.le_of_ble_eq_true rfl, by rw [hR]; exact Nat.le_of_ble_eq_true rfl⟩ hI hN hK hS (rc_9 hI hq17 List.not_mem_nil) rfl rfl hl.1 rfl (Nat.le_of_ble_eq_true rfl) dX11_flow_20 ⟨Nat.zero_le _, Nat.zero_le _⟩ (fun r33 H locs hp hI hS => ?_)
      refine lv_goto (tgt := 29) hx hb dX11_flow_23 (by decide) ?_
      have hpost : True := trivial
      rw [hQ]
      exact W.iret (v := r33) hx hb hr (fun t ht hW => ⟨⟨r33, (), rfl, hpost, by rw [ht]; exact hI, hN.warm hW, va_K.moved hW.alike hK⟩, hS.F ht⟩) hS.2.2 dX11_flow_29
    · skip
      try simp only [rg, not_and, Int.not_le] at hp
      have hp34 := hp
      refine lv_if_eq (tgt := 26) hx hb dX11_flow_11 (by decide) (fun _ => ?_) (fun c => absurd c (by decide))
      refine lv_sipush (v := (-1000)) hx hb dX11_flow_26 (by decide) ?_
      have hpost : True := trivial
      rw [hQ]
      exact W.iret (v := (-1000)) hx hb hr (fun t ht hW => ⟨⟨(-1000), (), rfl, hpost, by rw [ht]; exact hI, hN.warm hW, va_K.moved hW.alike hK⟩, hS.F ht⟩) hS.2.2 dX11_flow_29
  · skip
    try simp only [rg, not_and, Int.not_le] at hp
    have hp35 := hp
    refine lv_if_eq (tgt := 26) hx hb dX11_flow_4 (by decide) (fun _ => ?_) (fun c => absurd c (by decide))
    refine lv_sipush (v := (-1000)) hx hb dX11_flow_26 (by decide) ?_
    have hpost : True := trivial
    rw [hQ]
    exact W.iret (v := (-1000)) hx hb hr (fun t ht hW => ⟨⟨(-1000), (), rfl, hpost, by rw [ht]; exact hI, hN.warm hW, va_K.moved hW.alike hK⟩, hS.F ht⟩) hS.2.2 dX11_flow_29
theorem dX11_asks_0 : decode cX11_asks 0 = .ok (.iload_n 1, 1) := by decide +kernel
theorem dX11_asks_1 : decode cX11_asks 1 = .ok (.invokestatic 106, 3) := by decide +kernel
theorem dX11_asks_4 : decode cX11_asks 4 = .ok (.ifCond .eq 10, 3) := by decide +kernel
theorem dX11_asks_7 : decode cX11_asks 7 = .ok (.iload_n 2, 1) := by decide +kernel
theorem dX11_asks_8 : decode cX11_asks 8 = .ok (.invokestatic 211, 3) := by decide +kernel
theorem dX11_asks_11 : decode cX11_asks 11 = .ok (.ifCond .ne 5, 3) := by decide +kernel
theorem dX11_asks_14 : decode cX11_asks 14 = .ok (.iconst (-1), 1) := by decide +kernel
theorem dX11_asks_15 : decode cX11_asks 15 = .ok (.ireturn, 1) := by decide +kernel
theorem dX11_asks_16 : decode cX11_asks 16 = .ok (.iload_n 3, 1) := by decide +kernel
theorem dX11_asks_17 : decode cX11_asks 17 = .ok (.tableswitch 81 0 3 #[31, 41, 59, 70], 31) := by decide +kernel
theorem dX11_asks_48 : decode cX11_asks 48 = .ok (.aload_n 0, 1) := by decide +kernel
theorem dX11_asks_49 : decode cX11_asks 49 = .ok (.getfield 42, 3) := by decide +kernel
theorem dX11_asks_52 : decode cX11_asks 52 = .ok (.iload_n 1, 1) := by decide +kernel
theorem dX11_asks_53 : decode cX11_asks 53 = .ok (.iload_n 2, 1) := by decide +kernel
theorem dX11_asks_54 : decode cX11_asks 54 = .ok (.invokevirtual 217, 3) := by decide +kernel
theorem dX11_asks_57 : decode cX11_asks 57 = .ok (.ireturn, 1) := by decide +kernel
theorem dX11_asks_58 : decode cX11_asks 58 = .ok (.aload_n 0, 1) := by decide +kernel
theorem dX11_asks_59 : decode cX11_asks 59 = .ok (.getfield 42, 3) := by decide +kernel
theorem dX11_asks_62 : decode cX11_asks 62 = .ok (.iload_n 1, 1) := by decide +kernel
theorem dX11_asks_63 : decode cX11_asks 63 = .ok (.iload_n 2, 1) := by decide +kernel
theorem dX11_asks_64 : decode cX11_asks 64 = .ok (.invokevirtual 220, 3) := by decide +kernel
theorem dX11_asks_67 : decode cX11_asks 67 = .ok (.ifCond .eq 7, 3) := by decide +kernel
theorem dX11_asks_70 : decode cX11_asks 70 = .ok (.iconst 1, 1) := by decide +kernel
theorem dX11_asks_71 : decode cX11_asks 71 = .ok (.goto 4, 3) := by decide +kernel
theorem dX11_asks_74 : decode cX11_asks 74 = .ok (.iconst 0, 1) := by decide +kernel
theorem dX11_asks_75 : decode cX11_asks 75 = .ok (.ireturn, 1) := by decide +kernel
theorem dX11_asks_76 : decode cX11_asks 76 = .ok (.aload_n 0, 1) := by decide +kernel
theorem dX11_asks_77 : decode cX11_asks 77 = .ok (.getfield 42, 3) := by decide +kernel
theorem dX11_asks_80 : decode cX11_asks 80 = .ok (.iload_n 1, 1) := by decide +kernel
theorem dX11_asks_81 : decode cX11_asks 81 = .ok (.iload_n 2, 1) := by decide +kernel
theorem dX11_asks_82 : decode cX11_asks 82 = .ok (.iconst 1, 1) := by decide +kernel
theorem dX11_asks_83 : decode cX11_asks 83 = .ok (.invokevirtual 223, 3) := by decide +kernel
theorem dX11_asks_86 : decode cX11_asks 86 = .ok (.ireturn, 1) := by decide +kernel
theorem dX11_asks_87 : decode cX11_asks 87 = .ok (.aload_n 0, 1) := by decide +kernel
theorem dX11_asks_88 : decode cX11_asks 88 = .ok (.getfield 42, 3) := by decide +kernel
theorem dX11_asks_91 : decode cX11_asks 91 = .ok (.iload_n 1, 1) := by decide +kernel
theorem dX11_asks_92 : decode cX11_asks 92 = .ok (.iload_n 2, 1) := by decide +kernel
theorem dX11_asks_93 : decode cX11_asks 93 = .ok (.iconst 0, 1) := by decide +kernel
theorem dX11_asks_94 : decode cX11_asks 94 = .ok (.invokevirtual 223, 3) := by decide +kernel
theorem dX11_asks_97 : decode cX11_asks 97 = .ok (.ireturn, 1) := by decide +kernel
theorem dX11_asks_98 : decode cX11_asks 98 = .ok (.iconst (-1), 1) := by decide +kernel
theorem dX11_asks_99 : decode cX11_asks 99 = .ok (.ireturn, 1) := by decide +kernel
set_option maxHeartbeats 4000000 in
set_option maxRecDepth 100000 in
theorem c_X11_asks (l : Launch) (E : Nat → ClassId) (D : va_G) (G : th_G) (h0 n : Nat) (hG0 : G h0 = some (15, n)) (x1 x2 x3 : Int32) : Met l yX11_asks (tb (.code yX11_asks cX11_asks 4 (some .int))) (rm 6) (va_Pc [.ref h0, .int x1, .int x2, .int x3] (th_P E D G)) (QI E D G (fun r => True)) 0 0 (th_A G) := by
  refine Met.ofW (cc := cX11_asks) (maxL := 4) (ret := (some .int)) (by decide) rfl ?_
  intro p e s m args below meth c s₁ B hml hv
  obtain ⟨hav, hI, hN, hK⟩ := hv
  have hx := B.exec
  have hb := B.bytes
  have hr := B.returns
  have hts := atoms_spec (ws := tb (.code yX11_asks cX11_asks 4 (some .int))) B.pre
  have hown : s.vm.findClass RX11 = some m.cls := findClass_of_methodNamed B.named
  have hlocks := B.notSynchronized
  have hS : va_S (th_A G) s.heap s.heap [] := va_S.rf
  have hl := lv_entry ([.ref h0, .int x1, .int x2, .int x3]) (n := 4) (Nat.le_of_ble_eq_true rfl)
  rw [show entryFrame m args 4 = entryFrame m ([.ref h0, .int x1, .int x2, .int x3] : List Value).toArray 4 from by rw [hav], lg_entry_eq]
  generalize (lg_sl ([.ref h0, .int x1, .int x2, .int x3]) ++ List.replicate (4 - (lg_sl ([.ref h0, .int x1, .int x2, .int x3])).length) Slot.unset).toArray = ls at hl ⊢
  have hl : lv_has ls 4 [(0, .ref h0), (1, .int x1), (2, .int x2), (3, .int x3)] := hl
  generalize hR : (headSpec (tb (.code yX11_asks cX11_asks 4 (some .int))) (rm 6)).room = R
  have hR := hR.symm
  generalize hQ : MQ below (QI E D G (fun r => True)) args s 0 0 (th_A G) = QF
  have hQ := hQ.symm
  have J_75 : ∀ (H : Heap) (locs : List Loc) (ls : Array Slot) (v1128 : Int32), lv_has ls 4 [(0, .ref h0), (1, .int x1), (2, .int x2), (3, .int x3)] → ((0 : Int) ≤ x1.toInt ∧ x1.toInt ≤ 23) → ((0 : Int) ≤ x2.toInt ∧ x2.toInt ≤ 95) → ((1 : Int) ≤ x3.toInt ∧ x3.toInt ≤ 1) → ((0 : Int) ≤ v1128.toInt ∧ v1128.toInt ≤ 1) → th_I (okC E) D G [] H → va_S (th_A G) s.heap H locs → W p l e R s m args below meth c H locs 0 0 QF (F0 m 75 ls [.int v1128]) := by
    intro H locs ls v1128 hl k1129 k1130 k1131 k1132 hI hS
    have hpost : True := trivial
    rw [hQ]
    exact W.iret (v := v1128) hx hb hr (fun t ht hW => ⟨⟨v1128, (), rfl, hpost, by rw [ht]; exact hI, hN.warm hW, va_K.moved hW.alike hK⟩, hS.F ht⟩) hS.2.2 dX11_asks_75
  have J_14 : ∀ (H : Heap) (locs : List Loc) (ls : Array Slot) , lv_has ls 4 [(0, .ref h0), (1, .int x1), (2, .int x2), (3, .int x3)] → th_I (okC E) D G [] H → va_S (th_A G) s.heap H locs → W p l e R s m args below meth c H locs 0 0 QF (F0 m 14 ls []) := by
    intro H locs ls  hl  hI hS
    refine lv_iconst (v := (-1)) hx hb dX11_asks_14 (by decide) ?_
    have hpost : True := trivial
    rw [hQ]
    exact W.iret (v := (-1)) hx hb hr (fun t ht hW => ⟨⟨(-1), (), rfl, hpost, by rw [ht]; exact hI, hN.warm hW, va_K.moved hW.alike hK⟩, hS.F ht⟩) hS.2.2 dX11_asks_15
  refine lv_iload_n hx hb dX11_asks_0 rfl (lv_at hl 1 rfl) ?_
  refine th_cSs (As := [.int x1]) (rest := []) (n := 1) (d := 0) ⟨hx, hb, hml, hown, hts⟩ (c_X11_isCell l s.heap x1) wd_401 wd_402 wd_1 wd_403 (by decide +kernel) ⟨by rw [hR]; exact Nat.le_of_ble_eq_true rfl, by rw [hR]; exact Nat.le_of_ble_eq_true rfl⟩ hN hS rfl hl.1 rfl (Nat.le_of_ble_eq_true rfl) dX11_asks_1 ⟨Nat.zero_le _, Nat.zero_le _⟩ (fun r1133 locs hp hS => ?_)
  rcases hp with ⟨rfl, hp⟩ | ⟨rfl, hp⟩
  · skip
    try simp only [rg, not_and, Int.not_le] at hp
    have hp1134 := hp
    refine lv_if_eq (tgt := 14) hx hb dX11_asks_4 (by decide) (fun c => absurd c (by decide)) (fun _ => ?_)
    refine lv_iload_n hx hb dX11_asks_7 rfl (lv_at hl 2 rfl) ?_
    refine th_cSs (As := [.int x2]) (rest := []) (n := 1) (d := 0) ⟨hx, hb, hml, hown, hts⟩ (c_X11_isHour l s.heap x2) wd_466 wd_467 wd_1 wd_468 (by decide +kernel) ⟨by rw [hR]; exact Nat.le_of_ble_eq_true rfl, by rw [hR]; exact Nat.le_of_ble_eq_true rfl⟩ hN hS rfl hl.1 rfl (Nat.le_of_ble_eq_true rfl) dX11_asks_8 ⟨Nat.zero_le _, Nat.zero_le _⟩ (fun r1135 locs hp hS => ?_)
    rcases hp with ⟨rfl, hp⟩ | ⟨rfl, hp⟩
    · skip
      try simp only [rg, not_and, Int.not_le] at hp
      have hp1136 := hp
      refine lv_if_ne (tgt := 16) hx hb dX11_asks_11 (by decide) (fun _ => ?_) (fun c => absurd c (by decide))
      refine lv_iload_n hx hb dX11_asks_16 rfl (lv_at hl 3 rfl) ?_
      have k1137 := iv_lo x3
      have k1138 := iv_hi x3
      by_cases c1139 : x3 = 0
      · skip
        have k1140 := iv_eq (X := x3.toInt) (Y := 0) rfl (by decide) c1139
        refine lv_tableIn (tgt := 48) (off := 31) hx hb dX11_asks_17 (by omega) (by omega) (by rw [k1140]; rfl) (by decide) ?_
        refine lv_aload_n hx hb dX11_asks_48 rfl (lv_at hl 0 rfl) ?_
        obtain ⟨a1141, a1144, a1146, a1148, a1150, a1152, a1154, a1156, a1158, a1160, a1162, w1164, w1165, w1166, w1167, hO, hq1142, hq1143, hq1145, hq1147, hq1149, hq1151, hq1153, hq1155, hq1157, hq1159, hq1161, hq1163⟩ := op_15 hI hG0 List.not_mem_nil
        have hI := th_I.weak (a := h0) hI
        have k1168 : (nI (n % 401)).toInt = ((n % 401 : Nat) : Int) := nI_toInt (by omega)
        refine th_get hx hb hts inT11 hown hK hO rfl 6 (by decide) (hts _ (tb_c wd_351)) rfl rfl dX11_asks_49 ?_
        refine lv_iload_n hx hb dX11_asks_52 rfl (lv_at hl 1 rfl) ?_
        refine lv_iload_n hx hb dX11_asks_53 rfl (lv_at hl 2 rfl) ?_
        have hI := th_I.close hI hG0 hO (ok_15 hq1142 hq1143 hq1145 hq1147 hq1149 hq1151 hq1153 hq1155 hq1157 hq1159 hq1161 hq1163)
        refine th_cVi (As := [.int x1, .int x2]) (rest := []) (n := 2) (d := 5) ⟨hx, hb, hml, hown, hts⟩ (c_X7_costAt l E D G a1152 hq1153 x1 x2) wd_810 wd_811 wd_812 wd_6 wd_813 (by decide +kernel) ⟨by rw [hR]; exact Nat.le_of_ble_eq_true rfl, by rw [hR]; exact Nat.le_of_ble_eq_true rfl⟩ hI hN hK hS (rc_9 hI hq1153 List.not_mem_nil) rfl rfl hl.1 rfl (Nat.le_of_ble_eq_true rfl) dX11_asks_54 ⟨Nat.zero_le _, Nat.zero_le _⟩ (fun r1169 H locs hp hI hS => ?_)
        have hpost : True := trivial
        rw [hQ]
        exact W.iret (v := r1169) hx hb hr (fun t ht hW => ⟨⟨r1169, (), rfl, hpost, by rw [ht]; exact hI, hN.warm hW, va_K.moved hW.alike hK⟩, hS.F ht⟩) hS.2.2 dX11_asks_57
      have k1170 := iv_ne (X := x3.toInt) (Y := 0) rfl (by decide) c1139
      by_cases c1171 : x3 = 1
      · skip
        have k1172 := iv_eq (X := x3.toInt) (Y := 1) rfl (by decide) c1171
        refine lv_tableIn (tgt := 58) (off := 41) hx hb dX11_asks_17 (by omega) (by omega) (by rw [k1172]; rfl) (by decide) ?_
        refine lv_aload_n hx hb dX11_asks_58 rfl (lv_at hl 0 rfl) ?_
        obtain ⟨a1173, a1176, a1178, a1180, a1182, a1184, a1186, a1188, a1190, a1192, a1194, w1196, w1197, w1198, w1199, hO, hq1174, hq1175, hq1177, hq1179, hq1181, hq1183, hq1185, hq1187, hq1189, hq1191, hq1193, hq1195⟩ := op_15 hI hG0 List.not_mem_nil
        have hI := th_I.weak (a := h0) hI
        have k1200 : (nI (n % 401)).toInt = ((n % 401 : Nat) : Int) := nI_toInt (by omega)
        refine th_get hx hb hts inT11 hown hK hO rfl 6 (by decide) (hts _ (tb_c wd_351)) rfl rfl dX11_asks_59 ?_
        refine lv_iload_n hx hb dX11_asks_62 rfl (lv_at hl 1 rfl) ?_
        refine lv_iload_n hx hb dX11_asks_63 rfl (lv_at hl 2 rfl) ?_
        have hI := th_I.close hI hG0 hO (ok_15 hq1174 hq1175 hq1177 hq1179 hq1181 hq1183 hq1185 hq1187 hq1189 hq1191 hq1193 hq1195)
        refine th_cVi (As := [.int x1, .int x2]) (rest := []) (n := 2) (d := 5) ⟨hx, hb, hml, hown, hts⟩ (c_X7_isBarred l E D G a1184 hq1185 x1 x2) wd_623 wd_624 wd_625 wd_6 wd_626 (by decide +kernel) ⟨by rw [hR]; exact Nat.le_of_ble_eq_true rfl, by rw [hR]; exact Nat.le_of_ble_eq_true rfl⟩ hI hN hK hS (rc_9 hI hq1185 List.not_mem_nil) rfl rfl hl.1 rfl (Nat.le_of_ble_eq_true rfl) dX11_asks_64 ⟨Nat.zero_le _, Nat.zero_le _⟩ (fun r1201 H locs hp hI hS => ?_)
        have hp1202 := hp
        refine lv_if_eq (tgt := 74) hx hb dX11_asks_67 (by decide) (fun c1203 => ?_) (fun c1203 => ?_)
        · skip
          have k1204 := iv_eq (X := r1201.toInt) (Y := (0)) rfl (by decide) c1203
          refine lv_iconst (v := 0) hx hb dX11_asks_74 (by decide) ?_
          exact J_75 H locs ls 0 (lv_sub hl [0, 1, 2, 3] rfl) ⟨by omega, by omega⟩ ⟨by omega, by omega⟩ ⟨by omega, by omega⟩ ⟨by decide, by decide⟩ hI hS
        · skip
          have k1205 := iv_ne (X := r1201.toInt) (Y := (0)) rfl (by decide) c1203
          refine lv_iconst (v := 1) hx hb dX11_asks_70 (by decide) ?_
          refine lv_goto (tgt := 75) hx hb dX11_asks_71 (by decide) ?_
          exact J_75 H locs ls 1 (lv_sub hl [0, 1, 2, 3] rfl) ⟨by omega, by omega⟩ ⟨by omega, by omega⟩ ⟨by omega, by omega⟩ ⟨by decide, by decide⟩ hI hS
      have k1206 := iv_ne (X := x3.toInt) (Y := 1) rfl (by decide) c1171
      by_cases c1207 : x3 = 2
      · skip
        have k1208 := iv_eq (X := x3.toInt) (Y := 2) rfl (by decide) c1207
        refine lv_tableIn (tgt := 76) (off := 59) hx hb dX11_asks_17 (by omega) (by omega) (by rw [k1208]; rfl) (by decide) ?_
        refine lv_aload_n hx hb dX11_asks_76 rfl (lv_at hl 0 rfl) ?_
        obtain ⟨a1209, a1212, a1214, a1216, a1218, a1220, a1222, a1224, a1226, a1228, a1230, w1232, w1233, w1234, w1235, hO, hq1210, hq1211, hq1213, hq1215, hq1217, hq1219, hq1221, hq1223, hq1225, hq1227, hq1229, hq1231⟩ := op_15 hI hG0 List.not_mem_nil
        have hI := th_I.weak (a := h0) hI
        have k1236 : (nI (n % 401)).toInt = ((n % 401 : Nat) : Int) := nI_toInt (by omega)
        refine th_get hx hb hts inT11 hown hK hO rfl 6 (by decide) (hts _ (tb_c wd_351)) rfl rfl dX11_asks_77 ?_
        refine lv_iload_n hx hb dX11_asks_80 rfl (lv_at hl 1 rfl) ?_
        refine lv_iload_n hx hb dX11_asks_81 rfl (lv_at hl 2 rfl) ?_
        refine lv_iconst (v := 1) hx hb dX11_asks_82 (by decide) ?_
        have hI := th_I.close hI hG0 hO (ok_15 hq1210 hq1211 hq1213 hq1215 hq1217 hq1219 hq1221 hq1223 hq1225 hq1227 hq1229 hq1231)
        refine th_cVi (As := [.int x1, .int x2, .int 1]) (rest := []) (n := 3) (d := 4) ⟨hx, hb, hml, hown, hts⟩ (c_X7_tollAt l E D G a1220 hq1221 x1 x2 1) wd_814 wd_815 wd_816 wd_6 wd_817 (by decide +kernel) ⟨by rw [hR]; exact Nat.le_of_ble_eq_true rfl, by rw [hR]; exact Nat.le_of_ble_eq_true rfl⟩ hI hN hK hS (rc_9 hI hq1221 List.not_mem_nil) rfl rfl hl.1 rfl (Nat.le_of_ble_eq_true rfl) dX11_asks_83 ⟨Nat.zero_le _, Nat.zero_le _⟩ (fun r1237 H locs hp hI hS => ?_)
        have hpost : True := trivial
        rw [hQ]
        exact W.iret (v := r1237) hx hb hr (fun t ht hW => ⟨⟨r1237, (), rfl, hpost, by rw [ht]; exact hI, hN.warm hW, va_K.moved hW.alike hK⟩, hS.F ht⟩) hS.2.2 dX11_asks_86
      have k1238 := iv_ne (X := x3.toInt) (Y := 2) rfl (by decide) c1207
      by_cases c1239 : x3 = 3
      · skip
        have k1240 := iv_eq (X := x3.toInt) (Y := 3) rfl (by decide) c1239
        refine lv_tableIn (tgt := 87) (off := 70) hx hb dX11_asks_17 (by omega) (by omega) (by rw [k1240]; rfl) (by decide) ?_
        refine lv_aload_n hx hb dX11_asks_87 rfl (lv_at hl 0 rfl) ?_
        obtain ⟨a1241, a1244, a1246, a1248, a1250, a1252, a1254, a1256, a1258, a1260, a1262, w1264, w1265, w1266, w1267, hO, hq1242, hq1243, hq1245, hq1247, hq1249, hq1251, hq1253, hq1255, hq1257, hq1259, hq1261, hq1263⟩ := op_15 hI hG0 List.not_mem_nil
        have hI := th_I.weak (a := h0) hI
        have k1268 : (nI (n % 401)).toInt = ((n % 401 : Nat) : Int) := nI_toInt (by omega)
        refine th_get hx hb hts inT11 hown hK hO rfl 6 (by decide) (hts _ (tb_c wd_351)) rfl rfl dX11_asks_88 ?_
        refine lv_iload_n hx hb dX11_asks_91 rfl (lv_at hl 1 rfl) ?_
        refine lv_iload_n hx hb dX11_asks_92 rfl (lv_at hl 2 rfl) ?_
        refine lv_iconst (v := 0) hx hb dX11_asks_93 (by decide) ?_
        have hI := th_I.close hI hG0 hO (ok_15 hq1242 hq1243 hq1245 hq1247 hq1249 hq1251 hq1253 hq1255 hq1257 hq1259 hq1261 hq1263)
        refine th_cVi (As := [.int x1, .int x2, .int 0]) (rest := []) (n := 3) (d := 4) ⟨hx, hb, hml, hown, hts⟩ (c_X7_tollAt l E D G a1252 hq1253 x1 x2 0) wd_814 wd_815 wd_816 wd_6 wd_817 (by decide +kernel) ⟨by rw [hR]; exact Nat.le_of_ble_eq_true rfl, by rw [hR]; exact Nat.le_of_ble_eq_true rfl⟩ hI hN hK hS (rc_9 hI hq1253 List.not_mem_nil) rfl rfl hl.1 rfl (Nat.le_of_ble_eq_true rfl) dX11_asks_94 ⟨Nat.zero_le _, Nat.zero_le _⟩ (fun r1269 H locs hp hI hS => ?_)
        have hpost : True := trivial
        rw [hQ]
        exact W.iret (v := r1269) hx hb hr (fun t ht hW => ⟨⟨r1269, (), rfl, hpost, by rw [ht]; exact hI, hN.warm hW, va_K.moved hW.alike hK⟩, hS.F ht⟩) hS.2.2 dX11_asks_97
      have k1270 := iv_ne (X := x3.toInt) (Y := 3) rfl (by decide) c1239
      refine lv_tableOut (tgt := 98) hx hb dX11_asks_17 (by omega) (by decide) ?_
      refine lv_iconst (v := (-1)) hx hb dX11_asks_98 (by decide) ?_
      have hpost : True := trivial
      rw [hQ]
      exact W.iret (v := (-1)) hx hb hr (fun t ht hW => ⟨⟨(-1), (), rfl, hpost, by rw [ht]; exact hI, hN.warm hW, va_K.moved hW.alike hK⟩, hS.F ht⟩) hS.2.2 dX11_asks_99
    · skip
      try simp only [rg, not_and, Int.not_le] at hp
      have hp1271 := hp
      refine lv_if_ne (tgt := 16) hx hb dX11_asks_11 (by decide) (fun c => absurd c (by decide)) (fun _ => ?_)
      exact J_14 s.heap locs ls  (lv_sub hl [0, 1, 2, 3] rfl)  hI hS
  · skip
    try simp only [rg, not_and, Int.not_le] at hp
    have hp1272 := hp
    refine lv_if_eq (tgt := 14) hx hb dX11_asks_4 (by decide) (fun _ => ?_) (fun c => absurd c (by decide))
    exact J_14 s.heap locs ls  (lv_sub hl [0, 1, 2, 3] rfl)  hI hS
theorem dX11_where_0 : decode cX11_where 0 = .ok (.iload_n 1, 1) := by decide +kernel
theorem dX11_where_1 : decode cX11_where 1 = .ok (.invokestatic 106, 3) := by decide +kernel
theorem dX11_where_4 : decode cX11_where 4 = .ok (.ifCond .eq 22, 3) := by decide +kernel
theorem dX11_where_7 : decode cX11_where 7 = .ok (.iload_n 2, 1) := by decide +kernel
theorem dX11_where_8 : decode cX11_where 8 = .ok (.invokestatic 211, 3) := by decide +kernel
theorem dX11_where_11 : decode cX11_where 11 = .ok (.ifCond .eq 15, 3) := by decide +kernel
theorem dX11_where_14 : decode cX11_where 14 = .ok (.iload_n 3, 1) := by decide +kernel
theorem dX11_where_15 : decode cX11_where 15 = .ok (.invokestatic 226, 3) := by decide +kernel
theorem dX11_where_18 : decode cX11_where 18 = .ok (.ifCond .eq 8, 3) := by decide +kernel
theorem dX11_where_21 : decode cX11_where 21 = .ok (.iload_n 3, 1) := by decide +kernel
theorem dX11_where_22 : decode cX11_where 22 = .ok (.iload_n 2, 1) := by decide +kernel
theorem dX11_where_23 : decode cX11_where 23 = .ok (.if_icmp .ge 5, 3) := by decide +kernel
theorem dX11_where_26 : decode cX11_where 26 = .ok (.iconst (-1), 1) := by decide +kernel
theorem dX11_where_27 : decode cX11_where 27 = .ok (.ireturn, 1) := by decide +kernel
theorem dX11_where_28 : decode cX11_where 28 = .ok (.aload_n 0, 1) := by decide +kernel
theorem dX11_where_29 : decode cX11_where 29 = .ok (.getfield 51, 3) := by decide +kernel
theorem dX11_where_32 : decode cX11_where 32 = .ok (.iload_n 1, 1) := by decide +kernel
theorem dX11_where_33 : decode cX11_where 33 = .ok (.iload_n 2, 1) := by decide +kernel
theorem dX11_where_34 : decode cX11_where 34 = .ok (.iload_n 3, 1) := by decide +kernel
theorem dX11_where_35 : decode cX11_where 35 = .ok (.invokevirtual 229, 3) := by decide +kernel
theorem dX11_where_38 : decode cX11_where 38 = .ok (.ireturn, 1) := by decide +kernel
set_option maxHeartbeats 4000000 in
set_option maxRecDepth 100000 in
theorem c_X11_where (l : Launch) (E : Nat → ClassId) (D : va_G) (G : th_G) (h0 n : Nat) (hG0 : G h0 = some (15, n)) (x1 x2 x3 : Int32) : Met l yX11_where (tb (.code yX11_where cX11_where 4 (some .int))) (rm 6) (va_Pc [.ref h0, .int x1, .int x2, .int x3] (th_P E D G)) (QI E D G (fun r => True)) 0 0 (th_A G) := by
  refine Met.ofW (cc := cX11_where) (maxL := 4) (ret := (some .int)) (by decide) rfl ?_
  intro p e s m args below meth c s₁ B hml hv
  obtain ⟨hav, hI, hN, hK⟩ := hv
  have hx := B.exec
  have hb := B.bytes
  have hr := B.returns
  have hts := atoms_spec (ws := tb (.code yX11_where cX11_where 4 (some .int))) B.pre
  have hown : s.vm.findClass RX11 = some m.cls := findClass_of_methodNamed B.named
  have hlocks := B.notSynchronized
  have hS : va_S (th_A G) s.heap s.heap [] := va_S.rf
  have hl := lv_entry ([.ref h0, .int x1, .int x2, .int x3]) (n := 4) (Nat.le_of_ble_eq_true rfl)
  rw [show entryFrame m args 4 = entryFrame m ([.ref h0, .int x1, .int x2, .int x3] : List Value).toArray 4 from by rw [hav], lg_entry_eq]
  generalize (lg_sl ([.ref h0, .int x1, .int x2, .int x3]) ++ List.replicate (4 - (lg_sl ([.ref h0, .int x1, .int x2, .int x3])).length) Slot.unset).toArray = ls at hl ⊢
  have hl : lv_has ls 4 [(0, .ref h0), (1, .int x1), (2, .int x2), (3, .int x3)] := hl
  generalize hR : (headSpec (tb (.code yX11_where cX11_where 4 (some .int))) (rm 6)).room = R
  have hR := hR.symm
  generalize hQ : MQ below (QI E D G (fun r => True)) args s 0 0 (th_A G) = QF
  have hQ := hQ.symm
  have J_26 : ∀ (H : Heap) (locs : List Loc) (ls : Array Slot) , lv_has ls 4 [(0, .ref h0), (1, .int x1), (2, .int x2), (3, .int x3)] → th_I (okC E) D G [] H → va_S (th_A G) s.heap H locs → W p l e R s m args below meth c H locs 0 0 QF (F0 m 26 ls []) := by
    intro H locs ls  hl  hI hS
    refine lv_iconst (v := (-1)) hx hb dX11_where_26 (by decide) ?_
    have hpost : True := trivial
    rw [hQ]
    exact W.iret (v := (-1)) hx hb hr (fun t ht hW => ⟨⟨(-1), (), rfl, hpost, by rw [ht]; exact hI, hN.warm hW, va_K.moved hW.alike hK⟩, hS.F ht⟩) hS.2.2 dX11_where_27
  refine lv_iload_n hx hb dX11_where_0 rfl (lv_at hl 1 rfl) ?_
  refine th_cSs (As := [.int x1]) (rest := []) (n := 1) (d := 0) ⟨hx, hb, hml, hown, hts⟩ (c_X11_isCell l s.heap x1) wd_401 wd_402 wd_1 wd_403 (by decide +kernel) ⟨by rw [hR]; exact Nat.le_of_ble_eq_true rfl, by rw [hR]; exact Nat.le_of_ble_eq_true rfl⟩ hN hS rfl hl.1 rfl (Nat.le_of_ble_eq_true rfl) dX11_where_1 ⟨Nat.zero_le _, Nat.zero_le _⟩ (fun r329 locs hp hS => ?_)
  rcases hp with ⟨rfl, hp⟩ | ⟨rfl, hp⟩
  · skip
    try simp only [rg, not_and, Int.not_le] at hp
    have hp330 := hp
    refine lv_if_eq (tgt := 26) hx hb dX11_where_4 (by decide) (fun c => absurd c (by decide)) (fun _ => ?_)
    refine lv_iload_n hx hb dX11_where_7 rfl (lv_at hl 2 rfl) ?_
    refine th_cSs (As := [.int x2]) (rest := []) (n := 1) (d := 0) ⟨hx, hb, hml, hown, hts⟩ (c_X11_isHour l s.heap x2) wd_466 wd_467 wd_1 wd_468 (by decide +kernel) ⟨by rw [hR]; exact Nat.le_of_ble_eq_true rfl, by rw [hR]; exact Nat.le_of_ble_eq_true rfl⟩ hN hS rfl hl.1 rfl (Nat.le_of_ble_eq_true rfl) dX11_where_8 ⟨Nat.zero_le _, Nat.zero_le _⟩ (fun r331 locs hp hS => ?_)
    rcases hp with ⟨rfl, hp⟩ | ⟨rfl, hp⟩
    · skip
      try simp only [rg, not_and, Int.not_le] at hp
      have hp332 := hp
      refine lv_if_eq (tgt := 26) hx hb dX11_where_11 (by decide) (fun c => absurd c (by decide)) (fun _ => ?_)
      refine lv_iload_n hx hb dX11_where_14 rfl (lv_at hl 3 rfl) ?_
      refine th_cSs (As := [.int x3]) (rest := []) (n := 1) (d := 0) ⟨hx, hb, hml, hown, hts⟩ (c_X11_isMoment l s.heap x3) wd_826 wd_827 wd_1 wd_828 (by decide +kernel) ⟨by rw [hR]; exact Nat.le_of_ble_eq_true rfl, by rw [hR]; exact Nat.le_of_ble_eq_true rfl⟩ hN hS rfl hl.1 rfl (Nat.le_of_ble_eq_true rfl) dX11_where_15 ⟨Nat.zero_le _, Nat.zero_le _⟩ (fun r333 locs hp hS => ?_)
      rcases hp with ⟨rfl, hp⟩ | ⟨rfl, hp⟩
      · skip
        try simp only [rg, not_and, Int.not_le] at hp
        have hp334 := hp
        refine lv_if_eq (tgt := 26) hx hb dX11_where_18 (by decide) (fun c => absurd c (by decide)) (fun _ => ?_)
        refine lv_iload_n hx hb dX11_where_21 rfl (lv_at hl 3 rfl) ?_
        refine lv_iload_n hx hb dX11_where_22 rfl (lv_at hl 2 rfl) ?_
        refine lv_icmp_ge (tgt := 28) hx hb dX11_where_23 (by decide) (fun c335 => ?_) (fun c335 => ?_)
        · skip
          have k336 := iv_le (X := x2.toInt) (Y := x3.toInt) rfl rfl c335
          refine lv_aload_n hx hb dX11_where_28 rfl (lv_at hl 0 rfl) ?_
          obtain ⟨a337, a340, a342, a344, a346, a348, a350, a352, a354, a356, a358, w360, w361, w362, w363, hO, hq338, hq339, hq341, hq343, hq345, hq347, hq349, hq351, hq353, hq355, hq357, hq359⟩ := op_15 hI hG0 List.not_mem_nil
          have hI := th_I.weak (a := h0) hI
          have k364 : (nI (n % 401)).toInt = ((n % 401 : Nat) : Int) := nI_toInt (by omega)
          refine th_get hx hb hts inT11 hown hK hO rfl 7 (by decide) (hts _ (tb_c wd_352)) rfl rfl dX11_where_29 ?_
          refine lv_iload_n hx hb dX11_where_32 rfl (lv_at hl 1 rfl) ?_
          refine lv_iload_n hx hb dX11_where_33 rfl (lv_at hl 2 rfl) ?_
          refine lv_iload_n hx hb dX11_where_34 rfl (lv_at hl 3 rfl) ?_
          have hI := th_I.close hI hG0 hO (ok_15 hq338 hq339 hq341 hq343 hq345 hq347 hq349 hq351 hq353 hq355 hq357 hq359)
          refine th_cVi (As := [.int x1, .int x2, .int x3]) (rest := []) (n := 3) (d := 5) ⟨hx, hb, hml, hown, hts⟩ (c_X9_drift l E D G a350 hq351 x1 x2 x3) wd_829 wd_830 wd_831 wd_8 wd_832 (by decide +kernel) ⟨by rw [hR]; exact Nat.le_of_ble_eq_true rfl, by rw [hR]; exact Nat.le_of_ble_eq_true rfl⟩ hI hN hK hS (rc_10 hI hq351 List.not_mem_nil) rfl rfl hl.1 rfl (Nat.le_of_ble_eq_true rfl) dX11_where_35 ⟨Nat.zero_le _, Nat.zero_le _⟩ (fun r365 H locs hp hI hS => ?_)
          have hpost : True := trivial
          rw [hQ]
          exact W.iret (v := r365) hx hb hr (fun t ht hW => ⟨⟨r365, (), rfl, hpost, by rw [ht]; exact hI, hN.warm hW, va_K.moved hW.alike hK⟩, hS.F ht⟩) hS.2.2 dX11_where_38
        · skip
          have k366 := iv_nle (X := x2.toInt) (Y := x3.toInt) rfl rfl c335
          exact J_26 s.heap locs ls  (lv_sub hl [0, 1, 2, 3] rfl)  hI hS
      · skip
        try simp only [rg, not_and, Int.not_le] at hp
        have hp367 := hp
        refine lv_if_eq (tgt := 26) hx hb dX11_where_18 (by decide) (fun _ => ?_) (fun c => absurd c (by decide))
        exact J_26 s.heap locs ls  (lv_sub hl [0, 1, 2, 3] rfl)  hI hS
    · skip
      try simp only [rg, not_and, Int.not_le] at hp
      have hp368 := hp
      refine lv_if_eq (tgt := 26) hx hb dX11_where_11 (by decide) (fun _ => ?_) (fun c => absurd c (by decide))
      exact J_26 s.heap locs ls  (lv_sub hl [0, 1, 2, 3] rfl)  hI hS
  · skip
    try simp only [rg, not_and, Int.not_le] at hp
    have hp369 := hp
    refine lv_if_eq (tgt := 26) hx hb dX11_where_4 (by decide) (fun _ => ?_) (fun c => absurd c (by decide))
    exact J_26 s.heap locs ls  (lv_sub hl [0, 1, 2, 3] rfl)  hI hS
theorem dX11_below_0 : decode cX11_below 0 = .ok (.iload_n 1, 1) := by decide +kernel
theorem dX11_below_1 : decode cX11_below 1 = .ok (.invokestatic 106, 3) := by decide +kernel
theorem dX11_below_4 : decode cX11_below 4 = .ok (.ifCond .eq 17, 3) := by decide +kernel
theorem dX11_below_7 : decode cX11_below 7 = .ok (.iload_n 2, 1) := by decide +kernel
theorem dX11_below_8 : decode cX11_below 8 = .ok (.invokestatic 211, 3) := by decide +kernel
theorem dX11_below_11 : decode cX11_below 11 = .ok (.ifCond .eq 10, 3) := by decide +kernel
theorem dX11_below_14 : decode cX11_below 14 = .ok (.iload_n 3, 1) := by decide +kernel
theorem dX11_below_15 : decode cX11_below 15 = .ok (.invokestatic 226, 3) := by decide +kernel
theorem dX11_below_18 : decode cX11_below 18 = .ok (.ifCond .ne 5, 3) := by decide +kernel
theorem dX11_below_21 : decode cX11_below 21 = .ok (.iconst (-1), 1) := by decide +kernel
theorem dX11_below_22 : decode cX11_below 22 = .ok (.ireturn, 1) := by decide +kernel
theorem dX11_below_23 : decode cX11_below 23 = .ok (.aload_n 0, 1) := by decide +kernel
theorem dX11_below_24 : decode cX11_below 24 = .ok (.getfield 51, 3) := by decide +kernel
theorem dX11_below_27 : decode cX11_below 27 = .ok (.iload_n 1, 1) := by decide +kernel
theorem dX11_below_28 : decode cX11_below 28 = .ok (.iload_n 2, 1) := by decide +kernel
theorem dX11_below_29 : decode cX11_below 29 = .ok (.iload_n 2, 1) := by decide +kernel
theorem dX11_below_30 : decode cX11_below 30 = .ok (.iload_n 3, 1) := by decide +kernel
theorem dX11_below_31 : decode cX11_below 31 = .ok (.iadd, 1) := by decide +kernel
theorem dX11_below_32 : decode cX11_below 32 = .ok (.bipush 96, 2) := by decide +kernel
theorem dX11_below_34 : decode cX11_below 34 = .ok (.invokestatic 232, 3) := by decide +kernel
theorem dX11_below_37 : decode cX11_below 37 = .ok (.invokevirtual 237, 3) := by decide +kernel
theorem dX11_below_40 : decode cX11_below 40 = .ok (.ireturn, 1) := by decide +kernel
set_option maxHeartbeats 4000000 in
set_option maxRecDepth 100000 in
theorem c_X11_below (l : Launch) (E : Nat → ClassId) (D : va_G) (G : th_G) (h0 n : Nat) (hG0 : G h0 = some (15, n)) (x1 x2 x3 : Int32) : Met l yX11_below (tb (.code yX11_below cX11_below 4 (some .int))) (rm 6) (va_Pc [.ref h0, .int x1, .int x2, .int x3] (th_P E D G)) (QI E D G (fun r => True)) 0 0 (th_A G) := by
  refine Met.ofW (cc := cX11_below) (maxL := 4) (ret := (some .int)) (by decide) rfl ?_
  intro p e s m args below meth c s₁ B hml hv
  obtain ⟨hav, hI, hN, hK⟩ := hv
  have hx := B.exec
  have hb := B.bytes
  have hr := B.returns
  have hts := atoms_spec (ws := tb (.code yX11_below cX11_below 4 (some .int))) B.pre
  have hown : s.vm.findClass RX11 = some m.cls := findClass_of_methodNamed B.named
  have hlocks := B.notSynchronized
  have hS : va_S (th_A G) s.heap s.heap [] := va_S.rf
  have hl := lv_entry ([.ref h0, .int x1, .int x2, .int x3]) (n := 4) (Nat.le_of_ble_eq_true rfl)
  rw [show entryFrame m args 4 = entryFrame m ([.ref h0, .int x1, .int x2, .int x3] : List Value).toArray 4 from by rw [hav], lg_entry_eq]
  generalize (lg_sl ([.ref h0, .int x1, .int x2, .int x3]) ++ List.replicate (4 - (lg_sl ([.ref h0, .int x1, .int x2, .int x3])).length) Slot.unset).toArray = ls at hl ⊢
  have hl : lv_has ls 4 [(0, .ref h0), (1, .int x1), (2, .int x2), (3, .int x3)] := hl
  generalize hR : (headSpec (tb (.code yX11_below cX11_below 4 (some .int))) (rm 6)).room = R
  have hR := hR.symm
  generalize hQ : MQ below (QI E D G (fun r => True)) args s 0 0 (th_A G) = QF
  have hQ := hQ.symm
  have J_21 : ∀ (H : Heap) (locs : List Loc) (ls : Array Slot) , lv_has ls 4 [(0, .ref h0), (1, .int x1), (2, .int x2), (3, .int x3)] → th_I (okC E) D G [] H → va_S (th_A G) s.heap H locs → W p l e R s m args below meth c H locs 0 0 QF (F0 m 21 ls []) := by
    intro H locs ls  hl  hI hS
    refine lv_iconst (v := (-1)) hx hb dX11_below_21 (by decide) ?_
    have hpost : True := trivial
    rw [hQ]
    exact W.iret (v := (-1)) hx hb hr (fun t ht hW => ⟨⟨(-1), (), rfl, hpost, by rw [ht]; exact hI, hN.warm hW, va_K.moved hW.alike hK⟩, hS.F ht⟩) hS.2.2 dX11_below_22
  refine lv_iload_n hx hb dX11_below_0 rfl (lv_at hl 1 rfl) ?_
  refine th_cSs (As := [.int x1]) (rest := []) (n := 1) (d := 0) ⟨hx, hb, hml, hown, hts⟩ (c_X11_isCell l s.heap x1) wd_401 wd_402 wd_1 wd_403 (by decide +kernel) ⟨by rw [hR]; exact Nat.le_of_ble_eq_true rfl, by rw [hR]; exact Nat.le_of_ble_eq_true rfl⟩ hN hS rfl hl.1 rfl (Nat.le_of_ble_eq_true rfl) dX11_below_1 ⟨Nat.zero_le _, Nat.zero_le _⟩ (fun r337 locs hp hS => ?_)
  rcases hp with ⟨rfl, hp⟩ | ⟨rfl, hp⟩
  · skip
    try simp only [rg, not_and, Int.not_le] at hp
    have hp338 := hp
    refine lv_if_eq (tgt := 21) hx hb dX11_below_4 (by decide) (fun c => absurd c (by decide)) (fun _ => ?_)
    refine lv_iload_n hx hb dX11_below_7 rfl (lv_at hl 2 rfl) ?_
    refine th_cSs (As := [.int x2]) (rest := []) (n := 1) (d := 0) ⟨hx, hb, hml, hown, hts⟩ (c_X11_isHour l s.heap x2) wd_466 wd_467 wd_1 wd_468 (by decide +kernel) ⟨by rw [hR]; exact Nat.le_of_ble_eq_true rfl, by rw [hR]; exact Nat.le_of_ble_eq_true rfl⟩ hN hS rfl hl.1 rfl (Nat.le_of_ble_eq_true rfl) dX11_below_8 ⟨Nat.zero_le _, Nat.zero_le _⟩ (fun r339 locs hp hS => ?_)
    rcases hp with ⟨rfl, hp⟩ | ⟨rfl, hp⟩
    · skip
      try simp only [rg, not_and, Int.not_le] at hp
      have hp340 := hp
      refine lv_if_eq (tgt := 21) hx hb dX11_below_11 (by decide) (fun c => absurd c (by decide)) (fun _ => ?_)
      refine lv_iload_n hx hb dX11_below_14 rfl (lv_at hl 3 rfl) ?_
      refine th_cSs (As := [.int x3]) (rest := []) (n := 1) (d := 0) ⟨hx, hb, hml, hown, hts⟩ (c_X11_isMoment l s.heap x3) wd_826 wd_827 wd_1 wd_828 (by decide +kernel) ⟨by rw [hR]; exact Nat.le_of_ble_eq_true rfl, by rw [hR]; exact Nat.le_of_ble_eq_true rfl⟩ hN hS rfl hl.1 rfl (Nat.le_of_ble_eq_true rfl) dX11_below_15 ⟨Nat.zero_le _, Nat.zero_le _⟩ (fun r341 locs hp hS => ?_)
      rcases hp with ⟨rfl, hp⟩ | ⟨rfl, hp⟩
      · skip
        try simp only [rg, not_and, Int.not_le] at hp
        have hp342 := hp
        refine lv_if_ne (tgt := 23) hx hb dX11_below_18 (by decide) (fun _ => ?_) (fun c => absurd c (by decide))
        refine lv_aload_n hx hb dX11_below_23 rfl (lv_at hl 0 rfl) ?_
        obtain ⟨a343, a346, a348, a350, a352, a354, a356, a358, a360, a362, a364, w366, w367, w368, w369, hO, hq344, hq345, hq347, hq349, hq351, hq353, hq355, hq357, hq359, hq361, hq363, hq365⟩ := op_15 hI hG0 List.not_mem_nil
        have hI := th_I.weak (a := h0) hI
        have k370 : (nI (n % 401)).toInt = ((n % 401 : Nat) : Int) := nI_toInt (by omega)
        refine th_get hx hb hts inT11 hown hK hO rfl 7 (by decide) (hts _ (tb_c wd_352)) rfl rfl dX11_below_24 ?_
        refine lv_iload_n hx hb dX11_below_27 rfl (lv_at hl 1 rfl) ?_
        refine lv_iload_n hx hb dX11_below_28 rfl (lv_at hl 2 rfl) ?_
        refine lv_iload_n hx hb dX11_below_29 rfl (lv_at hl 2 rfl) ?_
        refine lv_iload_n hx hb dX11_below_30 rfl (lv_at hl 3 rfl) ?_
        refine lv_iadd hx hb dX11_below_31 ?_
        refine lv_topi (fun v371 e372 => ?_)
        have tv371 : v371.toInt = x2.toInt + x3.toInt := iv_add rfl rfl e372 (by omega) (by omega)
        refine lv_bipush (v := 96) hx hb dX11_below_32 (by decide) ?_
        refine va_mmin hx hb (hml.trans hl.1.symm) hown (hts _ (tb_c wd_838)) (hts _ (tb_c wd_583)) (hts _ (tb_c wd_4)) (hts _ (tb_c wd_584)) (by rw [hR]; exact Nat.le_of_ble_eq_true rfl) (by rw [hR]; exact Nat.le_of_ble_eq_true rfl) (Nat.zero_le _) (Nat.zero_le _) dX11_below_34 ?_
        refine lv_topi (fun v373 e374 => ?_)
        have tv373 := iv_min e374
        rw [show (96 : Int32).toInt = 96 from by decide] at tv373
        have hI := th_I.close hI hG0 hO (ok_15 hq344 hq345 hq347 hq349 hq351 hq353 hq355 hq357 hq359 hq361 hq363 hq365)
        refine th_cVi (As := [.int x1, .int x2, .int v373]) (rest := []) (n := 3) (d := 5) ⟨hx, hb, hml, hown, hts⟩ (c_X9_downstream l E D G a356 hq357 x1 x2 v373) wd_839 wd_840 wd_841 wd_8 wd_842 (by decide +kernel) ⟨by rw [hR]; exact Nat.le_of_ble_eq_true rfl, by rw [hR]; exact Nat.le_of_ble_eq_true rfl⟩ hI hN hK hS (rc_10 hI hq357 List.not_mem_nil) rfl rfl hl.1 rfl (Nat.le_of_ble_eq_true rfl) dX11_below_37 ⟨Nat.zero_le _, Nat.zero_le _⟩ (fun r375 H locs hp hI hS => ?_)
        have hpost : True := trivial
        rw [hQ]
        exact W.iret (v := r375) hx hb hr (fun t ht hW => ⟨⟨r375, (), rfl, hpost, by rw [ht]; exact hI, hN.warm hW, va_K.moved hW.alike hK⟩, hS.F ht⟩) hS.2.2 dX11_below_40
      · skip
        try simp only [rg, not_and, Int.not_le] at hp
        have hp376 := hp
        refine lv_if_ne (tgt := 23) hx hb dX11_below_18 (by decide) (fun c => absurd c (by decide)) (fun _ => ?_)
        exact J_21 s.heap locs ls  (lv_sub hl [0, 1, 2, 3] rfl)  hI hS
    · skip
      try simp only [rg, not_and, Int.not_le] at hp
      have hp377 := hp
      refine lv_if_eq (tgt := 21) hx hb dX11_below_11 (by decide) (fun _ => ?_) (fun c => absurd c (by decide))
      exact J_21 s.heap locs ls  (lv_sub hl [0, 1, 2, 3] rfl)  hI hS
  · skip
    try simp only [rg, not_and, Int.not_le] at hp
    have hp378 := hp
    refine lv_if_eq (tgt := 21) hx hb dX11_below_4 (by decide) (fun _ => ?_) (fun c => absurd c (by decide))
    exact J_21 s.heap locs ls  (lv_sub hl [0, 1, 2, 3] rfl)  hI hS
theorem dX11_sources_0 : decode cX11_sources 0 = .ok (.iload_n 1, 1) := by decide +kernel
theorem dX11_sources_1 : decode cX11_sources 1 = .ok (.invokestatic 240, 3) := by decide +kernel
theorem dX11_sources_4 : decode cX11_sources 4 = .ok (.ifCond .eq 22, 3) := by decide +kernel
theorem dX11_sources_7 : decode cX11_sources 7 = .ok (.iload_n 2, 1) := by decide +kernel
theorem dX11_sources_8 : decode cX11_sources 8 = .ok (.invokestatic 211, 3) := by decide +kernel
theorem dX11_sources_11 : decode cX11_sources 11 = .ok (.ifCond .eq 15, 3) := by decide +kernel
theorem dX11_sources_14 : decode cX11_sources 14 = .ok (.iload_n 3, 1) := by decide +kernel
theorem dX11_sources_15 : decode cX11_sources 15 = .ok (.invokestatic 211, 3) := by decide +kernel
theorem dX11_sources_18 : decode cX11_sources 18 = .ok (.ifCond .eq 8, 3) := by decide +kernel
theorem dX11_sources_21 : decode cX11_sources 21 = .ok (.iload_n 3, 1) := by decide +kernel
theorem dX11_sources_22 : decode cX11_sources 22 = .ok (.iload_n 2, 1) := by decide +kernel
theorem dX11_sources_23 : decode cX11_sources 23 = .ok (.if_icmp .le 5, 3) := by decide +kernel
theorem dX11_sources_26 : decode cX11_sources 26 = .ok (.iconst (-1), 1) := by decide +kernel
theorem dX11_sources_27 : decode cX11_sources 27 = .ok (.ireturn, 1) := by decide +kernel
theorem dX11_sources_28 : decode cX11_sources 28 = .ok (.aload_n 0, 1) := by decide +kernel
theorem dX11_sources_29 : decode cX11_sources 29 = .ok (.getfield 51, 3) := by decide +kernel
theorem dX11_sources_32 : decode cX11_sources 32 = .ok (.iload_n 1, 1) := by decide +kernel
theorem dX11_sources_33 : decode cX11_sources 33 = .ok (.iload_n 2, 1) := by decide +kernel
theorem dX11_sources_34 : decode cX11_sources 34 = .ok (.iload_n 3, 1) := by decide +kernel
theorem dX11_sources_35 : decode cX11_sources 35 = .ok (.invokevirtual 243, 3) := by decide +kernel
theorem dX11_sources_38 : decode cX11_sources 38 = .ok (.ireturn, 1) := by decide +kernel
set_option maxHeartbeats 4000000 in
set_option maxRecDepth 100000 in
theorem c_X11_sources (l : Launch) (E : Nat → ClassId) (D : va_G) (G : th_G) (h0 n : Nat) (hG0 : G h0 = some (15, n)) (x1 x2 x3 : Int32) : Met l yX11_sources (tb (.code yX11_sources cX11_sources 4 (some .int))) (rm 6) (va_Pc [.ref h0, .int x1, .int x2, .int x3] (th_P E D G)) (QI E D G (fun r => True)) 0 0 (th_A G) := by
  refine Met.ofW (cc := cX11_sources) (maxL := 4) (ret := (some .int)) (by decide) rfl ?_
  intro p e s m args below meth c s₁ B hml hv
  obtain ⟨hav, hI, hN, hK⟩ := hv
  have hx := B.exec
  have hb := B.bytes
  have hr := B.returns
  have hts := atoms_spec (ws := tb (.code yX11_sources cX11_sources 4 (some .int))) B.pre
  have hown : s.vm.findClass RX11 = some m.cls := findClass_of_methodNamed B.named
  have hlocks := B.notSynchronized
  have hS : va_S (th_A G) s.heap s.heap [] := va_S.rf
  have hl := lv_entry ([.ref h0, .int x1, .int x2, .int x3]) (n := 4) (Nat.le_of_ble_eq_true rfl)
  rw [show entryFrame m args 4 = entryFrame m ([.ref h0, .int x1, .int x2, .int x3] : List Value).toArray 4 from by rw [hav], lg_entry_eq]
  generalize (lg_sl ([.ref h0, .int x1, .int x2, .int x3]) ++ List.replicate (4 - (lg_sl ([.ref h0, .int x1, .int x2, .int x3])).length) Slot.unset).toArray = ls at hl ⊢
  have hl : lv_has ls 4 [(0, .ref h0), (1, .int x1), (2, .int x2), (3, .int x3)] := hl
  generalize hR : (headSpec (tb (.code yX11_sources cX11_sources 4 (some .int))) (rm 6)).room = R
  have hR := hR.symm
  generalize hQ : MQ below (QI E D G (fun r => True)) args s 0 0 (th_A G) = QF
  have hQ := hQ.symm
  have J_26 : ∀ (H : Heap) (locs : List Loc) (ls : Array Slot) , lv_has ls 4 [(0, .ref h0), (1, .int x1), (2, .int x2), (3, .int x3)] → th_I (okC E) D G [] H → va_S (th_A G) s.heap H locs → W p l e R s m args below meth c H locs 0 0 QF (F0 m 26 ls []) := by
    intro H locs ls  hl  hI hS
    refine lv_iconst (v := (-1)) hx hb dX11_sources_26 (by decide) ?_
    have hpost : True := trivial
    rw [hQ]
    exact W.iret (v := (-1)) hx hb hr (fun t ht hW => ⟨⟨(-1), (), rfl, hpost, by rw [ht]; exact hI, hN.warm hW, va_K.moved hW.alike hK⟩, hS.F ht⟩) hS.2.2 dX11_sources_27
  refine lv_iload_n hx hb dX11_sources_0 rfl (lv_at hl 1 rfl) ?_
  refine th_cSs (As := [.int x1]) (rest := []) (n := 1) (d := 0) ⟨hx, hb, hml, hown, hts⟩ (c_X11_isPlace l s.heap x1) wd_847 wd_848 wd_1 wd_849 (by decide +kernel) ⟨by rw [hR]; exact Nat.le_of_ble_eq_true rfl, by rw [hR]; exact Nat.le_of_ble_eq_true rfl⟩ hN hS rfl hl.1 rfl (Nat.le_of_ble_eq_true rfl) dX11_sources_1 ⟨Nat.zero_le _, Nat.zero_le _⟩ (fun r329 locs hp hS => ?_)
  rcases hp with ⟨rfl, hp⟩ | ⟨rfl, hp⟩
  · skip
    try simp only [rg, not_and, Int.not_le] at hp
    have hp330 := hp
    refine lv_if_eq (tgt := 26) hx hb dX11_sources_4 (by decide) (fun c => absurd c (by decide)) (fun _ => ?_)
    refine lv_iload_n hx hb dX11_sources_7 rfl (lv_at hl 2 rfl) ?_
    refine th_cSs (As := [.int x2]) (rest := []) (n := 1) (d := 0) ⟨hx, hb, hml, hown, hts⟩ (c_X11_isHour l s.heap x2) wd_466 wd_467 wd_1 wd_468 (by decide +kernel) ⟨by rw [hR]; exact Nat.le_of_ble_eq_true rfl, by rw [hR]; exact Nat.le_of_ble_eq_true rfl⟩ hN hS rfl hl.1 rfl (Nat.le_of_ble_eq_true rfl) dX11_sources_8 ⟨Nat.zero_le _, Nat.zero_le _⟩ (fun r331 locs hp hS => ?_)
    rcases hp with ⟨rfl, hp⟩ | ⟨rfl, hp⟩
    · skip
      try simp only [rg, not_and, Int.not_le] at hp
      have hp332 := hp
      refine lv_if_eq (tgt := 26) hx hb dX11_sources_11 (by decide) (fun c => absurd c (by decide)) (fun _ => ?_)
      refine lv_iload_n hx hb dX11_sources_14 rfl (lv_at hl 3 rfl) ?_
      refine th_cSs (As := [.int x3]) (rest := []) (n := 1) (d := 0) ⟨hx, hb, hml, hown, hts⟩ (c_X11_isHour l s.heap x3) wd_466 wd_467 wd_1 wd_468 (by decide +kernel) ⟨by rw [hR]; exact Nat.le_of_ble_eq_true rfl, by rw [hR]; exact Nat.le_of_ble_eq_true rfl⟩ hN hS rfl hl.1 rfl (Nat.le_of_ble_eq_true rfl) dX11_sources_15 ⟨Nat.zero_le _, Nat.zero_le _⟩ (fun r333 locs hp hS => ?_)
      rcases hp with ⟨rfl, hp⟩ | ⟨rfl, hp⟩
      · skip
        try simp only [rg, not_and, Int.not_le] at hp
        have hp334 := hp
        refine lv_if_eq (tgt := 26) hx hb dX11_sources_18 (by decide) (fun c => absurd c (by decide)) (fun _ => ?_)
        refine lv_iload_n hx hb dX11_sources_21 rfl (lv_at hl 3 rfl) ?_
        refine lv_iload_n hx hb dX11_sources_22 rfl (lv_at hl 2 rfl) ?_
        refine lv_icmp_le (tgt := 28) hx hb dX11_sources_23 (by decide) (fun c335 => ?_) (fun c335 => ?_)
        · skip
          have k336 := iv_le (X := x3.toInt) (Y := x2.toInt) rfl rfl c335
          refine lv_aload_n hx hb dX11_sources_28 rfl (lv_at hl 0 rfl) ?_
          obtain ⟨a337, a340, a342, a344, a346, a348, a350, a352, a354, a356, a358, w360, w361, w362, w363, hO, hq338, hq339, hq341, hq343, hq345, hq347, hq349, hq351, hq353, hq355, hq357, hq359⟩ := op_15 hI hG0 List.not_mem_nil
          have hI := th_I.weak (a := h0) hI
          have k364 : (nI (n % 401)).toInt = ((n % 401 : Nat) : Int) := nI_toInt (by omega)
          refine th_get hx hb hts inT11 hown hK hO rfl 7 (by decide) (hts _ (tb_c wd_352)) rfl rfl dX11_sources_29 ?_
          refine lv_iload_n hx hb dX11_sources_32 rfl (lv_at hl 1 rfl) ?_
          refine lv_iload_n hx hb dX11_sources_33 rfl (lv_at hl 2 rfl) ?_
          refine lv_iload_n hx hb dX11_sources_34 rfl (lv_at hl 3 rfl) ?_
          have hI := th_I.close hI hG0 hO (ok_15 hq338 hq339 hq341 hq343 hq345 hq347 hq349 hq351 hq353 hq355 hq357 hq359)
          refine th_cVi (As := [.int x1, .int x2, .int x3]) (rest := []) (n := 3) (d := 5) ⟨hx, hb, hml, hown, hts⟩ (c_X9_traceBack l E D G a350 hq351 x1 x2 x3) wd_850 wd_851 wd_852 wd_8 wd_853 (by decide +kernel) ⟨by rw [hR]; exact Nat.le_of_ble_eq_true rfl, by rw [hR]; exact Nat.le_of_ble_eq_true rfl⟩ hI hN hK hS (rc_10 hI hq351 List.not_mem_nil) rfl rfl hl.1 rfl (Nat.le_of_ble_eq_true rfl) dX11_sources_35 ⟨Nat.zero_le _, Nat.zero_le _⟩ (fun r365 H locs hp hI hS => ?_)
          have hpost : True := trivial
          rw [hQ]
          exact W.iret (v := r365) hx hb hr (fun t ht hW => ⟨⟨r365, (), rfl, hpost, by rw [ht]; exact hI, hN.warm hW, va_K.moved hW.alike hK⟩, hS.F ht⟩) hS.2.2 dX11_sources_38
        · skip
          have k366 := iv_nle (X := x3.toInt) (Y := x2.toInt) rfl rfl c335
          exact J_26 s.heap locs ls  (lv_sub hl [0, 1, 2, 3] rfl)  hI hS
      · skip
        try simp only [rg, not_and, Int.not_le] at hp
        have hp367 := hp
        refine lv_if_eq (tgt := 26) hx hb dX11_sources_18 (by decide) (fun _ => ?_) (fun c => absurd c (by decide))
        exact J_26 s.heap locs ls  (lv_sub hl [0, 1, 2, 3] rfl)  hI hS
    · skip
      try simp only [rg, not_and, Int.not_le] at hp
      have hp368 := hp
      refine lv_if_eq (tgt := 26) hx hb dX11_sources_11 (by decide) (fun _ => ?_) (fun c => absurd c (by decide))
      exact J_26 s.heap locs ls  (lv_sub hl [0, 1, 2, 3] rfl)  hI hS
  · skip
    try simp only [rg, not_and, Int.not_le] at hp
    have hp369 := hp
    refine lv_if_eq (tgt := 26) hx hb dX11_sources_4 (by decide) (fun _ => ?_) (fun c => absurd c (by decide))
    exact J_26 s.heap locs ls  (lv_sub hl [0, 1, 2, 3] rfl)  hI hS
theorem dX11_boat_0 : decode cX11_boat 0 = .ok (.iload_n 1, 1) := by decide +kernel
theorem dX11_boat_1 : decode cX11_boat 1 = .ok (.invokestatic 106, 3) := by decide +kernel
theorem dX11_boat_4 : decode cX11_boat 4 = .ok (.ifCond .eq 10, 3) := by decide +kernel
theorem dX11_boat_7 : decode cX11_boat 7 = .ok (.iload_n 2, 1) := by decide +kernel
theorem dX11_boat_8 : decode cX11_boat 8 = .ok (.invokestatic 211, 3) := by decide +kernel
theorem dX11_boat_11 : decode cX11_boat 11 = .ok (.ifCond .ne 9, 3) := by decide +kernel
theorem dX11_boat_14 : decode cX11_boat 14 = .ok (.aload_n 0, 1) := by decide +kernel
theorem dX11_boat_15 : decode cX11_boat 15 = .ok (.iconst (-1), 1) := by decide +kernel
theorem dX11_boat_16 : decode cX11_boat 16 = .ok (.invokevirtual 113, 3) := by decide +kernel
theorem dX11_boat_19 : decode cX11_boat 19 = .ok (.ireturn, 1) := by decide +kernel
theorem dX11_boat_20 : decode cX11_boat 20 = .ok (.aload_n 0, 1) := by decide +kernel
theorem dX11_boat_21 : decode cX11_boat 21 = .ok (.getfield 12, 3) := by decide +kernel
theorem dX11_boat_24 : decode cX11_boat 24 = .ok (.getfield 246, 3) := by decide +kernel
theorem dX11_boat_27 : decode cX11_boat 27 = .ok (.invokevirtual 149, 3) := by decide +kernel
theorem dX11_boat_30 : decode cX11_boat 30 = .ok (.ifCond .eq 10, 3) := by decide +kernel
theorem dX11_boat_33 : decode cX11_boat 33 = .ok (.aload_n 0, 1) := by decide +kernel
theorem dX11_boat_34 : decode cX11_boat 34 = .ok (.bipush (-5), 2) := by decide +kernel
theorem dX11_boat_36 : decode cX11_boat 36 = .ok (.invokevirtual 113, 3) := by decide +kernel
theorem dX11_boat_39 : decode cX11_boat 39 = .ok (.ireturn, 1) := by decide +kernel
theorem dX11_boat_40 : decode cX11_boat 40 = .ok (.aload_n 0, 1) := by decide +kernel
theorem dX11_boat_41 : decode cX11_boat 41 = .ok (.aload_n 0, 1) := by decide +kernel
theorem dX11_boat_42 : decode cX11_boat 42 = .ok (.getfield 12, 3) := by decide +kernel
theorem dX11_boat_45 : decode cX11_boat 45 = .ok (.getfield 246, 3) := by decide +kernel
theorem dX11_boat_48 : decode cX11_boat 48 = .ok (.iload_n 1, 1) := by decide +kernel
theorem dX11_boat_49 : decode cX11_boat 49 = .ok (.iload_n 2, 1) := by decide +kernel
theorem dX11_boat_50 : decode cX11_boat 50 = .ok (.iconst 0, 1) := by decide +kernel
theorem dX11_boat_51 : decode cX11_boat 51 = .ok (.iconst (-1), 1) := by decide +kernel
theorem dX11_boat_52 : decode cX11_boat 52 = .ok (.invokevirtual 155, 3) := by decide +kernel
theorem dX11_boat_55 : decode cX11_boat 55 = .ok (.invokevirtual 127, 3) := by decide +kernel
theorem dX11_boat_58 : decode cX11_boat 58 = .ok (.ireturn, 1) := by decide +kernel
set_option maxHeartbeats 4000000 in
set_option maxRecDepth 100000 in
theorem c_X11_boat (l : Launch) (E : Nat → ClassId) (D : va_G) (G : th_G) (h0 n : Nat) (hG0 : G h0 = some (15, n)) (x1 x2 : Int32) : Met l yX11_boat (tb (.code yX11_boat cX11_boat 3 (some .int))) (rm 2) (va_Pc [.ref h0, .int x1, .int x2] (th_P E D G)) (QI E D G (fun r => True)) 0 0 (th_A G) := by
  refine Met.ofW (cc := cX11_boat) (maxL := 3) (ret := (some .int)) (by decide) rfl ?_
  intro p e s m args below meth c s₁ B hml hv
  obtain ⟨hav, hI, hN, hK⟩ := hv
  have hx := B.exec
  have hb := B.bytes
  have hr := B.returns
  have hts := atoms_spec (ws := tb (.code yX11_boat cX11_boat 3 (some .int))) B.pre
  have hown : s.vm.findClass RX11 = some m.cls := findClass_of_methodNamed B.named
  have hlocks := B.notSynchronized
  have hS : va_S (th_A G) s.heap s.heap [] := va_S.rf
  have hl := lv_entry ([.ref h0, .int x1, .int x2]) (n := 3) (Nat.le_of_ble_eq_true rfl)
  rw [show entryFrame m args 3 = entryFrame m ([.ref h0, .int x1, .int x2] : List Value).toArray 3 from by rw [hav], lg_entry_eq]
  generalize (lg_sl ([.ref h0, .int x1, .int x2]) ++ List.replicate (3 - (lg_sl ([.ref h0, .int x1, .int x2])).length) Slot.unset).toArray = ls at hl ⊢
  have hl : lv_has ls 3 [(0, .ref h0), (1, .int x1), (2, .int x2)] := hl
  generalize hR : (headSpec (tb (.code yX11_boat cX11_boat 3 (some .int))) (rm 2)).room = R
  have hR := hR.symm
  generalize hQ : MQ below (QI E D G (fun r => True)) args s 0 0 (th_A G) = QF
  have hQ := hQ.symm
  have J_14 : ∀ (H : Heap) (locs : List Loc) (ls : Array Slot) , lv_has ls 3 [(0, .ref h0), (1, .int x1), (2, .int x2)] → th_I (okC E) D G [] H → va_S (th_A G) s.heap H locs → W p l e R s m args below meth c H locs 0 0 QF (F0 m 14 ls []) := by
    intro H locs ls  hl  hI hS
    refine lv_aload_n hx hb dX11_boat_14 rfl (lv_at hl 0 rfl) ?_
    refine lv_iconst (v := (-1)) hx hb dX11_boat_15 (by decide) ?_
    refine th_cVi (As := [.int (-1)]) (rest := []) (n := 1) (d := 0) ⟨hx, hb, hml, hown, hts⟩ (c_X11_refuse l E D G h0 (n) hG0 (-1)) wd_407 wd_409 wp_0 wd_1 wd_410 (by decide +kernel) ⟨by rw [hR]; exact Nat.le_of_ble_eq_true rfl, by rw [hR]; exact Nat.le_of_ble_eq_true rfl⟩ hI hN hK hS (rc_15 hI hG0 List.not_mem_nil) rfl rfl hl.1 rfl (Nat.le_of_ble_eq_true rfl) dX11_boat_16 ⟨Nat.zero_le _, Nat.zero_le _⟩ (fun r1024 H locs hp hI hS => ?_)
    have hp := hp.symm
    subst hp
    have hpost : True := trivial
    rw [hQ]
    exact W.iret (v := (-1)) hx hb hr (fun t ht hW => ⟨⟨(-1), (), rfl, hpost, by rw [ht]; exact hI, hN.warm hW, va_K.moved hW.alike hK⟩, hS.F ht⟩) hS.2.2 dX11_boat_19
  refine lv_iload_n hx hb dX11_boat_0 rfl (lv_at hl 1 rfl) ?_
  refine th_cSs (As := [.int x1]) (rest := []) (n := 1) (d := 0) ⟨hx, hb, hml, hown, hts⟩ (c_X11_isCell l s.heap x1) wd_401 wd_402 wd_1 wd_403 (by decide +kernel) ⟨by rw [hR]; exact Nat.le_of_ble_eq_true rfl, by rw [hR]; exact Nat.le_of_ble_eq_true rfl⟩ hN hS rfl hl.1 rfl (Nat.le_of_ble_eq_true rfl) dX11_boat_1 ⟨Nat.zero_le _, Nat.zero_le _⟩ (fun r1025 locs hp hS => ?_)
  rcases hp with ⟨rfl, hp⟩ | ⟨rfl, hp⟩
  · skip
    try simp only [rg, not_and, Int.not_le] at hp
    have hp1026 := hp
    refine lv_if_eq (tgt := 14) hx hb dX11_boat_4 (by decide) (fun c => absurd c (by decide)) (fun _ => ?_)
    refine lv_iload_n hx hb dX11_boat_7 rfl (lv_at hl 2 rfl) ?_
    refine th_cSs (As := [.int x2]) (rest := []) (n := 1) (d := 0) ⟨hx, hb, hml, hown, hts⟩ (c_X11_isHour l s.heap x2) wd_466 wd_467 wd_1 wd_468 (by decide +kernel) ⟨by rw [hR]; exact Nat.le_of_ble_eq_true rfl, by rw [hR]; exact Nat.le_of_ble_eq_true rfl⟩ hN hS rfl hl.1 rfl (Nat.le_of_ble_eq_true rfl) dX11_boat_8 ⟨Nat.zero_le _, Nat.zero_le _⟩ (fun r1027 locs hp hS => ?_)
    rcases hp with ⟨rfl, hp⟩ | ⟨rfl, hp⟩
    · skip
      try simp only [rg, not_and, Int.not_le] at hp
      have hp1028 := hp
      refine lv_if_ne (tgt := 20) hx hb dX11_boat_11 (by decide) (fun _ => ?_) (fun c => absurd c (by decide))
      refine lv_aload_n hx hb dX11_boat_20 rfl (lv_at hl 0 rfl) ?_
      obtain ⟨a1029, a1032, a1034, a1036, a1038, a1040, a1042, a1044, a1046, a1048, a1050, w1052, w1053, w1054, w1055, hO, hq1030, hq1031, hq1033, hq1035, hq1037, hq1039, hq1041, hq1043, hq1045, hq1047, hq1049, hq1051⟩ := op_15 hI hG0 List.not_mem_nil
      have hI := th_I.weak (a := h0) hI
      have k1056 : (nI (n % 401)).toInt = ((n % 401 : Nat) : Int) := nI_toInt (by omega)
      refine th_get hx hb hts inT11 hown hK hO rfl 0 (by decide) (hts _ (tb_c wd_345)) rfl rfl dX11_boat_21 ?_
      have hI := th_I.close hI hG0 hO (ok_15 hq1030 hq1031 hq1033 hq1035 hq1037 hq1039 hq1041 hq1043 hq1045 hq1047 hq1049 hq1051)
      obtain ⟨a1057, a1059, a1061, a1063, a1065, a1067, a1069, a1071, a1073, a1075, w1077, w1080, w1081, w1082, hO, hq1058, hq1060, hq1062, hq1064, hq1066, hq1068, hq1070, hq1072, hq1074, hq1076, ⟨k1078, k1079⟩⟩ := op_6 hI hq1030 List.not_mem_nil
      have hI := th_I.weak (a := a1029) hI
      refine th_getN hx hb hts inT6 hown hK hN hO rfl 4 (by decide) wn_68 rfl rfl dX11_boat_24 ?_
      have hI := th_I.close hI hq1030 hO (ok_6 hq1058 hq1060 hq1062 hq1064 hq1066 hq1068 hq1070 hq1072 hq1074 hq1076 ⟨by omega, by omega⟩)
      obtain ⟨a1084, w1086, hO, hq1085, ⟨k1087, k1088⟩, k1089⟩ := op_4 hI hq1066 List.not_mem_nil
      have hI := th_I.weak (a := a1065) hI
      have k1090 : (nI 6).toInt = ((6 : Nat) : Int) := nI_toInt (by omega)
      refine th_cVs (As := []) (rest := []) (n := 0) (d := 0) ⟨hx, hb, hml, hown, hts⟩ (c_X4_isFull l E D s.heap a1065 6 a1084 w1086 hO (by omega) (by omega) (by omega)) wd_481 wd_482 wd_483 wd_3 wd_484 (by decide +kernel) ⟨by rw [hR]; exact Nat.le_of_ble_eq_true rfl, by rw [hR]; exact Nat.le_of_ble_eq_true rfl⟩ hN hK hS ⟨_, hO⟩ rfl rfl hl.1 rfl (Nat.le_of_ble_eq_true rfl) dX11_boat_27 ⟨Nat.zero_le _, Nat.zero_le _⟩ (fun r1083 locs hp hS => ?_)
      rcases hp with ⟨rfl, hp⟩ | ⟨rfl, hp⟩
      · skip
        try simp only [rg, not_and, Int.not_le] at hp
        have hp1091 := hp
        refine lv_if_eq (tgt := 40) hx hb dX11_boat_30 (by decide) (fun c => absurd c (by decide)) (fun _ => ?_)
        refine lv_aload_n hx hb dX11_boat_33 rfl (lv_at hl 0 rfl) ?_
        refine lv_bipush (v := (-5)) hx hb dX11_boat_34 (by decide) ?_
        have hI := th_I.close hI hq1066 hO (ok_4 hq1085 ⟨by omega, by omega⟩ (by omega))
        refine th_cVi (As := [.int (-5)]) (rest := []) (n := 1) (d := 0) ⟨hx, hb, hml, hown, hts⟩ (c_X11_refuse l E D G h0 (n) hG0 (-5)) wd_407 wd_409 wp_0 wd_1 wd_410 (by decide +kernel) ⟨by rw [hR]; exact Nat.le_of_ble_eq_true rfl, by rw [hR]; exact Nat.le_of_ble_eq_true rfl⟩ hI hN hK hS (rc_15 hI hG0 List.not_mem_nil) rfl rfl hl.1 rfl (Nat.le_of_ble_eq_true rfl) dX11_boat_36 ⟨Nat.zero_le _, Nat.zero_le _⟩ (fun r1092 H locs hp hI hS => ?_)
        have hp := hp.symm
        subst hp
        have hpost : True := trivial
        rw [hQ]
        exact W.iret (v := (-5)) hx hb hr (fun t ht hW => ⟨⟨(-5), (), rfl, hpost, by rw [ht]; exact hI, hN.warm hW, va_K.moved hW.alike hK⟩, hS.F ht⟩) hS.2.2 dX11_boat_39
      · skip
        have hp1093 := hp
        refine lv_if_eq (tgt := 40) hx hb dX11_boat_30 (by decide) (fun _ => ?_) (fun c => absurd c (by decide))
        refine lv_aload_n hx hb dX11_boat_40 rfl (lv_at hl 0 rfl) ?_
        refine lv_aload_n hx hb dX11_boat_41 rfl (lv_at hl 0 rfl) ?_
        have hI := th_I.close hI hq1066 hO (ok_4 hq1085 ⟨by omega, by omega⟩ (by omega))
        obtain ⟨a1094, a1097, a1099, a1101, a1103, a1105, a1107, a1109, a1111, a1113, a1115, w1117, w1118, w1119, w1120, hO, hq1095, hq1096, hq1098, hq1100, hq1102, hq1104, hq1106, hq1108, hq1110, hq1112, hq1114, hq1116⟩ := op_15 hI hG0 List.not_mem_nil
        have hI := th_I.weak (a := h0) hI
        have k1121 : (nI (n % 401)).toInt = ((n % 401 : Nat) : Int) := nI_toInt (by omega)
        refine th_get hx hb hts inT11 hown hK hO rfl 0 (by decide) (hts _ (tb_c wd_345)) rfl rfl dX11_boat_42 ?_
        have hI := th_I.close hI hG0 hO (ok_15 hq1095 hq1096 hq1098 hq1100 hq1102 hq1104 hq1106 hq1108 hq1110 hq1112 hq1114 hq1116)
        obtain ⟨a1122, a1124, a1126, a1128, a1130, a1132, a1134, a1136, a1138, a1140, w1142, w1145, w1146, w1147, hO, hq1123, hq1125, hq1127, hq1129, hq1131, hq1133, hq1135, hq1137, hq1139, hq1141, ⟨k1143, k1144⟩⟩ := op_6 hI hq1095 List.not_mem_nil
        have hI := th_I.weak (a := a1094) hI
        refine th_getN hx hb hts inT6 hown hK hN hO rfl 4 (by decide) wn_68 rfl rfl dX11_boat_45 ?_
        refine lv_iload_n hx hb dX11_boat_48 rfl (lv_at hl 1 rfl) ?_
        refine lv_iload_n hx hb dX11_boat_49 rfl (lv_at hl 2 rfl) ?_
        refine lv_iconst (v := 0) hx hb dX11_boat_50 (by decide) ?_
        refine lv_iconst (v := (-1)) hx hb dX11_boat_51 (by decide) ?_
        have hI := th_I.close hI hq1095 hO (ok_6 hq1123 hq1125 hq1127 hq1129 hq1131 hq1133 hq1135 hq1137 hq1139 hq1141 ⟨by omega, by omega⟩)
        refine th_cVi (As := [.int x1, .int x2, .int 0, .int (-1)]) (rest := [.ref h0]) (n := 4) (d := 1) ⟨hx, hb, hml, hown, hts⟩ (c_X4_put l E D G a1130 (6) hq1131 x1 x2 0 (-1)) wd_485 wd_486 wd_487 wd_3 wd_488 (by decide +kernel) ⟨by rw [hR]; exact Nat.le_of_ble_eq_true rfl, by rw [hR]; exact Nat.le_of_ble_eq_true rfl⟩ hI hN hK hS (rc_4 hI hq1131 List.not_mem_nil) rfl rfl hl.1 rfl (Nat.le_of_ble_eq_true rfl) dX11_boat_52 ⟨Nat.zero_le _, Nat.zero_le _⟩ (fun r1148 H locs hp hI hS => ?_)
        refine th_cVi (As := [.int r1148]) (rest := []) (n := 1) (d := 0) ⟨hx, hb, hml, hown, hts⟩ (c_X11_accept l E D G h0 (n) hG0 r1148) wd_447 wd_449 wp_3 wd_1 wd_450 (by decide +kernel) ⟨by rw [hR]; exact Nat.le_of_ble_eq_true rfl, by rw [hR]; exact Nat.le_of_ble_eq_true rfl⟩ hI hN hK hS (rc_15 hI hG0 List.not_mem_nil) rfl rfl hl.1 rfl (Nat.le_of_ble_eq_true rfl) dX11_boat_55 ⟨Nat.zero_le _, Nat.zero_le _⟩ (fun r1149 H locs hp hI hS => ?_)
        have hp := hp.symm
        subst hp
        have hpost : True := trivial
        rw [hQ]
        exact W.iret (v := r1148) hx hb hr (fun t ht hW => ⟨⟨r1148, (), rfl, hpost, by rw [ht]; exact hI, hN.warm hW, va_K.moved hW.alike hK⟩, hS.F ht⟩) hS.2.2 dX11_boat_58
    · skip
      try simp only [rg, not_and, Int.not_le] at hp
      have hp1150 := hp
      refine lv_if_ne (tgt := 20) hx hb dX11_boat_11 (by decide) (fun c => absurd c (by decide)) (fun _ => ?_)
      exact J_14 s.heap locs ls  (lv_sub hl [0, 1, 2] rfl)  hI hS
  · skip
    try simp only [rg, not_and, Int.not_le] at hp
    have hp1151 := hp
    refine lv_if_eq (tgt := 14) hx hb dX11_boat_4 (by decide) (fun _ => ?_) (fun c => absurd c (by decide))
    exact J_14 s.heap locs ls  (lv_sub hl [0, 1, 2] rfl)  hI hS
theorem dX11_moor_0 : decode cX11_moor 0 = .ok (.iload_n 2, 1) := by decide +kernel
theorem dX11_moor_1 : decode cX11_moor 1 = .ok (.iload_n 3, 1) := by decide +kernel
theorem dX11_moor_2 : decode cX11_moor 2 = .ok (.invokestatic 134, 3) := by decide +kernel
theorem dX11_moor_5 : decode cX11_moor 5 = .ok (.ifCond .ne 9, 3) := by decide +kernel
theorem dX11_moor_8 : decode cX11_moor 8 = .ok (.aload_n 0, 1) := by decide +kernel
theorem dX11_moor_9 : decode cX11_moor 9 = .ok (.iconst (-1), 1) := by decide +kernel
theorem dX11_moor_10 : decode cX11_moor 10 = .ok (.invokevirtual 113, 3) := by decide +kernel
theorem dX11_moor_13 : decode cX11_moor 13 = .ok (.ireturn, 1) := by decide +kernel
theorem dX11_moor_14 : decode cX11_moor 14 = .ok (.aload_n 0, 1) := by decide +kernel
theorem dX11_moor_15 : decode cX11_moor 15 = .ok (.getfield 12, 3) := by decide +kernel
theorem dX11_moor_18 : decode cX11_moor 18 = .ok (.getfield 246, 3) := by decide +kernel
theorem dX11_moor_21 : decode cX11_moor 21 = .ok (.iload_n 1, 1) := by decide +kernel
theorem dX11_moor_22 : decode cX11_moor 22 = .ok (.invokevirtual 159, 3) := by decide +kernel
theorem dX11_moor_25 : decode cX11_moor 25 = .ok (.ifCond .ne 10, 3) := by decide +kernel
theorem dX11_moor_28 : decode cX11_moor 28 = .ok (.aload_n 0, 1) := by decide +kernel
theorem dX11_moor_29 : decode cX11_moor 29 = .ok (.bipush (-2), 2) := by decide +kernel
theorem dX11_moor_31 : decode cX11_moor 31 = .ok (.invokevirtual 113, 3) := by decide +kernel
theorem dX11_moor_34 : decode cX11_moor 34 = .ok (.ireturn, 1) := by decide +kernel
theorem dX11_moor_35 : decode cX11_moor 35 = .ok (.aload_n 0, 1) := by decide +kernel
theorem dX11_moor_36 : decode cX11_moor 36 = .ok (.getfield 12, 3) := by decide +kernel
theorem dX11_moor_39 : decode cX11_moor 39 = .ok (.getfield 246, 3) := by decide +kernel
theorem dX11_moor_42 : decode cX11_moor 42 = .ok (.iload_n 1, 1) := by decide +kernel
theorem dX11_moor_43 : decode cX11_moor 43 = .ok (.iconst 2, 1) := by decide +kernel
theorem dX11_moor_44 : decode cX11_moor 44 = .ok (.iload_n 2, 1) := by decide +kernel
theorem dX11_moor_45 : decode cX11_moor 45 = .ok (.invokevirtual 249, 3) := by decide +kernel
theorem dX11_moor_48 : decode cX11_moor 48 = .ok (.aload_n 0, 1) := by decide +kernel
theorem dX11_moor_49 : decode cX11_moor 49 = .ok (.getfield 12, 3) := by decide +kernel
theorem dX11_moor_52 : decode cX11_moor 52 = .ok (.getfield 246, 3) := by decide +kernel
theorem dX11_moor_55 : decode cX11_moor 55 = .ok (.iload_n 1, 1) := by decide +kernel
theorem dX11_moor_56 : decode cX11_moor 56 = .ok (.iconst 3, 1) := by decide +kernel
theorem dX11_moor_57 : decode cX11_moor 57 = .ok (.iload_n 3, 1) := by decide +kernel
theorem dX11_moor_58 : decode cX11_moor 58 = .ok (.invokevirtual 249, 3) := by decide +kernel
theorem dX11_moor_61 : decode cX11_moor 61 = .ok (.aload_n 0, 1) := by decide +kernel
theorem dX11_moor_62 : decode cX11_moor 62 = .ok (.iconst 0, 1) := by decide +kernel
theorem dX11_moor_63 : decode cX11_moor 63 = .ok (.invokevirtual 127, 3) := by decide +kernel
theorem dX11_moor_66 : decode cX11_moor 66 = .ok (.ireturn, 1) := by decide +kernel
set_option maxHeartbeats 4000000 in
set_option maxRecDepth 100000 in
theorem c_X11_moor (l : Launch) (E : Nat → ClassId) (D : va_G) (G : th_G) (h0 n : Nat) (hG0 : G h0 = some (15, n)) (x1 x2 x3 : Int32) : Met l yX11_moor (tb (.code yX11_moor cX11_moor 4 (some .int))) (rm 2) (va_Pc [.ref h0, .int x1, .int x2, .int x3] (th_P E D G)) (QI E D G (fun r => True)) 0 0 (th_A G) := by
  refine Met.ofW (cc := cX11_moor) (maxL := 4) (ret := (some .int)) (by decide) rfl ?_
  intro p e s m args below meth c s₁ B hml hv
  obtain ⟨hav, hI, hN, hK⟩ := hv
  have hx := B.exec
  have hb := B.bytes
  have hr := B.returns
  have hts := atoms_spec (ws := tb (.code yX11_moor cX11_moor 4 (some .int))) B.pre
  have hown : s.vm.findClass RX11 = some m.cls := findClass_of_methodNamed B.named
  have hlocks := B.notSynchronized
  have hS : va_S (th_A G) s.heap s.heap [] := va_S.rf
  have hl := lv_entry ([.ref h0, .int x1, .int x2, .int x3]) (n := 4) (Nat.le_of_ble_eq_true rfl)
  rw [show entryFrame m args 4 = entryFrame m ([.ref h0, .int x1, .int x2, .int x3] : List Value).toArray 4 from by rw [hav], lg_entry_eq]
  generalize (lg_sl ([.ref h0, .int x1, .int x2, .int x3]) ++ List.replicate (4 - (lg_sl ([.ref h0, .int x1, .int x2, .int x3])).length) Slot.unset).toArray = ls at hl ⊢
  have hl : lv_has ls 4 [(0, .ref h0), (1, .int x1), (2, .int x2), (3, .int x3)] := hl
  generalize hR : (headSpec (tb (.code yX11_moor cX11_moor 4 (some .int))) (rm 2)).room = R
  have hR := hR.symm
  generalize hQ : MQ below (QI E D G (fun r => True)) args s 0 0 (th_A G) = QF
  have hQ := hQ.symm
  refine lv_iload_n hx hb dX11_moor_0 rfl (lv_at hl 2 rfl) ?_
  refine lv_iload_n hx hb dX11_moor_1 rfl (lv_at hl 3 rfl) ?_
  refine th_cSs (As := [.int x2, .int x3]) (rest := []) (n := 2) (d := 1) ⟨hx, hb, hml, hown, hts⟩ (c_X11_isSpan l s.heap x2 x3) wd_463 wd_464 wd_1 wd_465 (by decide +kernel) ⟨by rw [hR]; exact Nat.le_of_ble_eq_true rfl, by rw [hR]; exact Nat.le_of_ble_eq_true rfl⟩ hN hS rfl hl.1 rfl (Nat.le_of_ble_eq_true rfl) dX11_moor_2 ⟨Nat.zero_le _, Nat.zero_le _⟩ (fun r1 locs hp hS => ?_)
  rcases hp with ⟨rfl, hp⟩ | ⟨rfl, hp⟩
  · skip
    try simp only [rg, not_and, Int.not_le] at hp
    have hp2 := hp
    refine lv_if_ne (tgt := 14) hx hb dX11_moor_5 (by decide) (fun _ => ?_) (fun c => absurd c (by decide))
    refine lv_aload_n hx hb dX11_moor_14 rfl (lv_at hl 0 rfl) ?_
    obtain ⟨a3, a6, a8, a10, a12, a14, a16, a18, a20, a22, a24, w26, w27, w28, w29, hO, hq4, hq5, hq7, hq9, hq11, hq13, hq15, hq17, hq19, hq21, hq23, hq25⟩ := op_15 hI hG0 List.not_mem_nil
    have hI := th_I.weak (a := h0) hI
    have k30 : (nI (n % 401)).toInt = ((n % 401 : Nat) : Int) := nI_toInt (by omega)
    refine th_get hx hb hts inT11 hown hK hO rfl 0 (by decide) (hts _ (tb_c wd_345)) rfl rfl dX11_moor_15 ?_
    have hI := th_I.close hI hG0 hO (ok_15 hq4 hq5 hq7 hq9 hq11 hq13 hq15 hq17 hq19 hq21 hq23 hq25)
    obtain ⟨a31, a33, a35, a37, a39, a41, a43, a45, a47, a49, w51, w54, w55, w56, hO, hq32, hq34, hq36, hq38, hq40, hq42, hq44, hq46, hq48, hq50, ⟨k52, k53⟩⟩ := op_6 hI hq4 List.not_mem_nil
    have hI := th_I.weak (a := a3) hI
    refine th_getN hx hb hts inT6 hown hK hN hO rfl 4 (by decide) wn_68 rfl rfl dX11_moor_18 ?_
    refine lv_iload_n hx hb dX11_moor_21 rfl (lv_at hl 1 rfl) ?_
    have hI := th_I.close hI hq4 hO (ok_6 hq32 hq34 hq36 hq38 hq40 hq42 hq44 hq46 hq48 hq50 ⟨by omega, by omega⟩)
    obtain ⟨a58, w60, hO, hq59, ⟨k61, k62⟩, k63⟩ := op_4 hI hq40 List.not_mem_nil
    have hI := th_I.weak (a := a39) hI
    have k64 : (nI 6).toInt = ((6 : Nat) : Int) := nI_toInt (by omega)
    refine th_cVs (As := [.int x1]) (rest := []) (n := 1) (d := 0) ⟨hx, hb, hml, hown, hts⟩ (c_X4_has l E D s.heap a39 6 a58 w60 hO (by omega) (by omega) (by omega) x1) wd_494 wd_495 wd_496 wd_3 wd_497 (by decide +kernel) ⟨by rw [hR]; exact Nat.le_of_ble_eq_true rfl, by rw [hR]; exact Nat.le_of_ble_eq_true rfl⟩ hN hK hS ⟨_, hO⟩ rfl rfl hl.1 rfl (Nat.le_of_ble_eq_true rfl) dX11_moor_22 ⟨Nat.zero_le _, Nat.zero_le _⟩ (fun r57 locs hp hS => ?_)
    rcases hp with ⟨rfl, hp⟩ | ⟨rfl, hp⟩
    · skip
      try simp only [rg, not_and, Int.not_le] at hp
      have hp65 := hp
      refine lv_if_ne (tgt := 35) hx hb dX11_moor_25 (by decide) (fun _ => ?_) (fun c => absurd c (by decide))
      refine lv_aload_n hx hb dX11_moor_35 rfl (lv_at hl 0 rfl) ?_
      have hI := th_I.close hI hq40 hO (ok_4 hq59 ⟨by omega, by omega⟩ (by omega))
      obtain ⟨a66, a69, a71, a73, a75, a77, a79, a81, a83, a85, a87, w89, w90, w91, w92, hO, hq67, hq68, hq70, hq72, hq74, hq76, hq78, hq80, hq82, hq84, hq86, hq88⟩ := op_15 hI hG0 List.not_mem_nil
      have hI := th_I.weak (a := h0) hI
      have k93 : (nI (n % 401)).toInt = ((n % 401 : Nat) : Int) := nI_toInt (by omega)
      refine th_get hx hb hts inT11 hown hK hO rfl 0 (by decide) (hts _ (tb_c wd_345)) rfl rfl dX11_moor_36 ?_
      have hI := th_I.close hI hG0 hO (ok_15 hq67 hq68 hq70 hq72 hq74 hq76 hq78 hq80 hq82 hq84 hq86 hq88)
      obtain ⟨a94, a96, a98, a100, a102, a104, a106, a108, a110, a112, w114, w117, w118, w119, hO, hq95, hq97, hq99, hq101, hq103, hq105, hq107, hq109, hq111, hq113, ⟨k115, k116⟩⟩ := op_6 hI hq67 List.not_mem_nil
      have hI := th_I.weak (a := a66) hI
      refine th_getN hx hb hts inT6 hown hK hN hO rfl 4 (by decide) wn_68 rfl rfl dX11_moor_39 ?_
      refine lv_iload_n hx hb dX11_moor_42 rfl (lv_at hl 1 rfl) ?_
      refine lv_iconst (v := 2) hx hb dX11_moor_43 (by decide) ?_
      refine lv_iload_n hx hb dX11_moor_44 rfl (lv_at hl 2 rfl) ?_
      have hI := th_I.close hI hq67 hO (ok_6 hq95 hq97 hq99 hq101 hq103 hq105 hq107 hq109 hq111 hq113 ⟨by omega, by omega⟩)
      refine th_cVv (As := [.int x1, .int 2, .int x2]) (rest := []) (n := 3) (d := 1) ⟨hx, hb, hml, hown, hts⟩ (c_X4_change l E D G a102 (6) hq103 x1 2 x2) wd_864 wd_865 wd_866 wd_3 wd_867 (by decide +kernel) ⟨by rw [hR]; exact Nat.le_of_ble_eq_true rfl, by rw [hR]; exact Nat.le_of_ble_eq_true rfl⟩ hI hN hK hS (rc_4 hI hq103 List.not_mem_nil) rfl rfl hl.1 rfl (Nat.le_of_ble_eq_true rfl) dX11_moor_45 ⟨Nat.zero_le _, Nat.zero_le _⟩ (fun H locs hI hS => ?_)
      refine lv_aload_n hx hb dX11_moor_48 rfl (lv_at hl 0 rfl) ?_
      obtain ⟨a121, a124, a126, a128, a130, a132, a134, a136, a138, a140, a142, w144, w145, w146, w147, hO, hq122, hq123, hq125, hq127, hq129, hq131, hq133, hq135, hq137, hq139, hq141, hq143⟩ := op_15 hI hG0 List.not_mem_nil
      have hI := th_I.weak (a := h0) hI
      have k148 : (nI (n % 401)).toInt = ((n % 401 : Nat) : Int) := nI_toInt (by omega)
      refine th_get hx hb hts inT11 hown hK hO rfl 0 (by decide) (hts _ (tb_c wd_345)) rfl rfl dX11_moor_49 ?_
      have hI := th_I.close hI hG0 hO (ok_15 hq122 hq123 hq125 hq127 hq129 hq131 hq133 hq135 hq137 hq139 hq141 hq143)
      obtain ⟨a149, a151, a153, a155, a157, a159, a161, a163, a165, a167, w169, w172, w173, w174, hO, hq150, hq152, hq154, hq156, hq158, hq160, hq162, hq164, hq166, hq168, ⟨k170, k171⟩⟩ := op_6 hI hq122 List.not_mem_nil
      have hI := th_I.weak (a := a121) hI
      refine th_getN hx hb hts inT6 hown hK hN hO rfl 4 (by decide) wn_68 rfl rfl dX11_moor_52 ?_
      refine lv_iload_n hx hb dX11_moor_55 rfl (lv_at hl 1 rfl) ?_
      refine lv_iconst (v := 3) hx hb dX11_moor_56 (by decide) ?_
      refine lv_iload_n hx hb dX11_moor_57 rfl (lv_at hl 3 rfl) ?_
      have hI := th_I.close hI hq122 hO (ok_6 hq150 hq152 hq154 hq156 hq158 hq160 hq162 hq164 hq166 hq168 ⟨by omega, by omega⟩)
      refine th_cVv (As := [.int x1, .int 3, .int x3]) (rest := []) (n := 3) (d := 1) ⟨hx, hb, hml, hown, hts⟩ (c_X4_change l E D G a157 (6) hq158 x1 3 x3) wd_864 wd_865 wd_866 wd_3 wd_867 (by decide +kernel) ⟨by rw [hR]; exact Nat.le_of_ble_eq_true rfl, by rw [hR]; exact Nat.le_of_ble_eq_true rfl⟩ hI hN hK hS (rc_4 hI hq158 List.not_mem_nil) rfl rfl hl.1 rfl (Nat.le_of_ble_eq_true rfl) dX11_moor_58 ⟨Nat.zero_le _, Nat.zero_le _⟩ (fun H locs hI hS => ?_)
      refine lv_aload_n hx hb dX11_moor_61 rfl (lv_at hl 0 rfl) ?_
      refine lv_iconst (v := 0) hx hb dX11_moor_62 (by decide) ?_
      refine th_cVi (As := [.int 0]) (rest := []) (n := 1) (d := 0) ⟨hx, hb, hml, hown, hts⟩ (c_X11_accept l E D G h0 (n) hG0 0) wd_447 wd_449 wp_3 wd_1 wd_450 (by decide +kernel) ⟨by rw [hR]; exact Nat.le_of_ble_eq_true rfl, by rw [hR]; exact Nat.le_of_ble_eq_true rfl⟩ hI hN hK hS (rc_15 hI hG0 List.not_mem_nil) rfl rfl hl.1 rfl (Nat.le_of_ble_eq_true rfl) dX11_moor_63 ⟨Nat.zero_le _, Nat.zero_le _⟩ (fun r176 H locs hp hI hS => ?_)
      have hp := hp.symm
      subst hp
      have hpost : True := trivial
      rw [hQ]
      exact W.iret (v := 0) hx hb hr (fun t ht hW => ⟨⟨0, (), rfl, hpost, by rw [ht]; exact hI, hN.warm hW, va_K.moved hW.alike hK⟩, hS.F ht⟩) hS.2.2 dX11_moor_66
    · skip
      have hp177 := hp
      refine lv_if_ne (tgt := 35) hx hb dX11_moor_25 (by decide) (fun c => absurd c (by decide)) (fun _ => ?_)
      refine lv_aload_n hx hb dX11_moor_28 rfl (lv_at hl 0 rfl) ?_
      refine lv_bipush (v := (-2)) hx hb dX11_moor_29 (by decide) ?_
      have hI := th_I.close hI hq40 hO (ok_4 hq59 ⟨by omega, by omega⟩ (by omega))
      refine th_cVi (As := [.int (-2)]) (rest := []) (n := 1) (d := 0) ⟨hx, hb, hml, hown, hts⟩ (c_X11_refuse l E D G h0 (n) hG0 (-2)) wd_407 wd_409 wp_0 wd_1 wd_410 (by decide +kernel) ⟨by rw [hR]; exact Nat.le_of_ble_eq_true rfl, by rw [hR]; exact Nat.le_of_ble_eq_true rfl⟩ hI hN hK hS (rc_15 hI hG0 List.not_mem_nil) rfl rfl hl.1 rfl (Nat.le_of_ble_eq_true rfl) dX11_moor_31 ⟨Nat.zero_le _, Nat.zero_le _⟩ (fun r178 H locs hp hI hS => ?_)
      have hp := hp.symm
      subst hp
      have hpost : True := trivial
      rw [hQ]
      exact W.iret (v := (-2)) hx hb hr (fun t ht hW => ⟨⟨(-2), (), rfl, hpost, by rw [ht]; exact hI, hN.warm hW, va_K.moved hW.alike hK⟩, hS.F ht⟩) hS.2.2 dX11_moor_34
  · skip
    try simp only [rg, not_and, Int.not_le] at hp
    have hp179 := hp
    refine lv_if_ne (tgt := 14) hx hb dX11_moor_5 (by decide) (fun c => absurd c (by decide)) (fun _ => ?_)
    refine lv_aload_n hx hb dX11_moor_8 rfl (lv_at hl 0 rfl) ?_
    refine lv_iconst (v := (-1)) hx hb dX11_moor_9 (by decide) ?_
    refine th_cVi (As := [.int (-1)]) (rest := []) (n := 1) (d := 0) ⟨hx, hb, hml, hown, hts⟩ (c_X11_refuse l E D G h0 (n) hG0 (-1)) wd_407 wd_409 wp_0 wd_1 wd_410 (by decide +kernel) ⟨by rw [hR]; exact Nat.le_of_ble_eq_true rfl, by rw [hR]; exact Nat.le_of_ble_eq_true rfl⟩ hI hN hK hS (rc_15 hI hG0 List.not_mem_nil) rfl rfl hl.1 rfl (Nat.le_of_ble_eq_true rfl) dX11_moor_10 ⟨Nat.zero_le _, Nat.zero_le _⟩ (fun r180 H locs hp hI hS => ?_)
    have hp := hp.symm
    subst hp
    have hpost : True := trivial
    rw [hQ]
    exact W.iret (v := (-1)) hx hb hr (fun t ht hW => ⟨⟨(-1), (), rfl, hpost, by rw [ht]; exact hI, hN.warm hW, va_K.moved hW.alike hK⟩, hS.F ht⟩) hS.2.2 dX11_moor_13
theorem dX11_sails_0 : decode cX11_sails 0 = .ok (.aload_n 0, 1) := by decide +kernel
theorem dX11_sails_1 : decode cX11_sails 1 = .ok (.getfield 12, 3) := by decide +kernel
theorem dX11_sails_4 : decode cX11_sails 4 = .ok (.getfield 246, 3) := by decide +kernel
theorem dX11_sails_7 : decode cX11_sails 7 = .ok (.iload_n 1, 1) := by decide +kernel
theorem dX11_sails_8 : decode cX11_sails 8 = .ok (.invokevirtual 159, 3) := by decide +kernel
theorem dX11_sails_11 : decode cX11_sails 11 = .ok (.ifCond .eq 33, 3) := by decide +kernel
theorem dX11_sails_14 : decode cX11_sails 14 = .ok (.iload_n 2, 1) := by decide +kernel
theorem dX11_sails_15 : decode cX11_sails 15 = .ok (.invokestatic 211, 3) := by decide +kernel
theorem dX11_sails_18 : decode cX11_sails 18 = .ok (.ifCond .eq 26, 3) := by decide +kernel
theorem dX11_sails_21 : decode cX11_sails 21 = .ok (.iload_n 2, 1) := by decide +kernel
theorem dX11_sails_22 : decode cX11_sails 22 = .ok (.aload_n 0, 1) := by decide +kernel
theorem dX11_sails_23 : decode cX11_sails 23 = .ok (.getfield 12, 3) := by decide +kernel
theorem dX11_sails_26 : decode cX11_sails 26 = .ok (.getfield 246, 3) := by decide +kernel
theorem dX11_sails_29 : decode cX11_sails 29 = .ok (.iload_n 1, 1) := by decide +kernel
theorem dX11_sails_30 : decode cX11_sails 30 = .ok (.iconst 1, 1) := by decide +kernel
theorem dX11_sails_31 : decode cX11_sails 31 = .ok (.invokevirtual 173, 3) := by decide +kernel
theorem dX11_sails_34 : decode cX11_sails 34 = .ok (.if_icmp .lt 10, 3) := by decide +kernel
theorem dX11_sails_37 : decode cX11_sails 37 = .ok (.iload_n 3, 1) := by decide +kernel
theorem dX11_sails_38 : decode cX11_sails 38 = .ok (.invokestatic 138, 3) := by decide +kernel
theorem dX11_sails_41 : decode cX11_sails 41 = .ok (.ifCond .ne 5, 3) := by decide +kernel
theorem dX11_sails_44 : decode cX11_sails 44 = .ok (.iconst (-1), 1) := by decide +kernel
theorem dX11_sails_45 : decode cX11_sails 45 = .ok (.ireturn, 1) := by decide +kernel
theorem dX11_sails_46 : decode cX11_sails 46 = .ok (.iload_n 3, 1) := by decide +kernel
theorem dX11_sails_47 : decode cX11_sails 47 = .ok (.ifCond .ne 15, 3) := by decide +kernel
theorem dX11_sails_50 : decode cX11_sails 50 = .ok (.aload_n 0, 1) := by decide +kernel
theorem dX11_sails_51 : decode cX11_sails 51 = .ok (.getfield 51, 3) := by decide +kernel
theorem dX11_sails_54 : decode cX11_sails 54 = .ok (.iload_n 1, 1) := by decide +kernel
theorem dX11_sails_55 : decode cX11_sails 55 = .ok (.iload_n 2, 1) := by decide +kernel
theorem dX11_sails_56 : decode cX11_sails 56 = .ok (.invokevirtual 253, 3) := by decide +kernel
theorem dX11_sails_59 : decode cX11_sails 59 = .ok (.goto 12, 3) := by decide +kernel
theorem dX11_sails_62 : decode cX11_sails 62 = .ok (.aload_n 0, 1) := by decide +kernel
theorem dX11_sails_63 : decode cX11_sails 63 = .ok (.getfield 51, 3) := by decide +kernel
theorem dX11_sails_66 : decode cX11_sails 66 = .ok (.iload_n 1, 1) := by decide +kernel
theorem dX11_sails_67 : decode cX11_sails 67 = .ok (.iload_n 2, 1) := by decide +kernel
theorem dX11_sails_68 : decode cX11_sails 68 = .ok (.invokevirtual 256, 3) := by decide +kernel
theorem dX11_sails_71 : decode cX11_sails 71 = .ok (.ireturn, 1) := by decide +kernel
set_option maxHeartbeats 4000000 in
set_option maxRecDepth 100000 in
theorem c_X11_sails (l : Launch) (E : Nat → ClassId) (D : va_G) (G : th_G) (h0 n : Nat) (hG0 : G h0 = some (15, n)) (x1 x2 x3 : Int32) : Met l yX11_sails (tb (.code yX11_sails cX11_sails 4 (some .int))) (rm 7) (va_Pc [.ref h0, .int x1, .int x2, .int x3] (th_P E D G)) (QI E D G (fun r => True)) 0 0 (th_A G) := by
  refine Met.ofW (cc := cX11_sails) (maxL := 4) (ret := (some .int)) (by decide) rfl ?_
  intro p e s m args below meth c s₁ B hml hv
  obtain ⟨hav, hI, hN, hK⟩ := hv
  have hx := B.exec
  have hb := B.bytes
  have hr := B.returns
  have hts := atoms_spec (ws := tb (.code yX11_sails cX11_sails 4 (some .int))) B.pre
  have hown : s.vm.findClass RX11 = some m.cls := findClass_of_methodNamed B.named
  have hlocks := B.notSynchronized
  have hS : va_S (th_A G) s.heap s.heap [] := va_S.rf
  have hl := lv_entry ([.ref h0, .int x1, .int x2, .int x3]) (n := 4) (Nat.le_of_ble_eq_true rfl)
  rw [show entryFrame m args 4 = entryFrame m ([.ref h0, .int x1, .int x2, .int x3] : List Value).toArray 4 from by rw [hav], lg_entry_eq]
  generalize (lg_sl ([.ref h0, .int x1, .int x2, .int x3]) ++ List.replicate (4 - (lg_sl ([.ref h0, .int x1, .int x2, .int x3])).length) Slot.unset).toArray = ls at hl ⊢
  have hl : lv_has ls 4 [(0, .ref h0), (1, .int x1), (2, .int x2), (3, .int x3)] := hl
  generalize hR : (headSpec (tb (.code yX11_sails cX11_sails 4 (some .int))) (rm 7)).room = R
  have hR := hR.symm
  generalize hQ : MQ below (QI E D G (fun r => True)) args s 0 0 (th_A G) = QF
  have hQ := hQ.symm
  have J_44 : ∀ (H : Heap) (locs : List Loc) (ls : Array Slot) , lv_has ls 4 [(0, .ref h0), (1, .int x1), (2, .int x2), (3, .int x3)] → th_I (okC E) D G [] H → va_S (th_A G) s.heap H locs → W p l e R s m args below meth c H locs 0 0 QF (F0 m 44 ls []) := by
    intro H locs ls  hl  hI hS
    refine lv_iconst (v := (-1)) hx hb dX11_sails_44 (by decide) ?_
    have hpost : True := trivial
    rw [hQ]
    exact W.iret (v := (-1)) hx hb hr (fun t ht hW => ⟨⟨(-1), (), rfl, hpost, by rw [ht]; exact hI, hN.warm hW, va_K.moved hW.alike hK⟩, hS.F ht⟩) hS.2.2 dX11_sails_45
  refine lv_aload_n hx hb dX11_sails_0 rfl (lv_at hl 0 rfl) ?_
  obtain ⟨a1529, a1532, a1534, a1536, a1538, a1540, a1542, a1544, a1546, a1548, a1550, w1552, w1553, w1554, w1555, hO, hq1530, hq1531, hq1533, hq1535, hq1537, hq1539, hq1541, hq1543, hq1545, hq1547, hq1549, hq1551⟩ := op_15 hI hG0 List.not_mem_nil
  have hI := th_I.weak (a := h0) hI
  have k1556 : (nI (n % 401)).toInt = ((n % 401 : Nat) : Int) := nI_toInt (by omega)
  refine th_get hx hb hts inT11 hown hK hO rfl 0 (by decide) (hts _ (tb_c wd_345)) rfl rfl dX11_sails_1 ?_
  have hI := th_I.close hI hG0 hO (ok_15 hq1530 hq1531 hq1533 hq1535 hq1537 hq1539 hq1541 hq1543 hq1545 hq1547 hq1549 hq1551)
  obtain ⟨a1557, a1559, a1561, a1563, a1565, a1567, a1569, a1571, a1573, a1575, w1577, w1580, w1581, w1582, hO, hq1558, hq1560, hq1562, hq1564, hq1566, hq1568, hq1570, hq1572, hq1574, hq1576, ⟨k1578, k1579⟩⟩ := op_6 hI hq1530 List.not_mem_nil
  have hI := th_I.weak (a := a1529) hI
  refine th_getN hx hb hts inT6 hown hK hN hO rfl 4 (by decide) wn_68 rfl rfl dX11_sails_4 ?_
  refine lv_iload_n hx hb dX11_sails_7 rfl (lv_at hl 1 rfl) ?_
  have hI := th_I.close hI hq1530 hO (ok_6 hq1558 hq1560 hq1562 hq1564 hq1566 hq1568 hq1570 hq1572 hq1574 hq1576 ⟨by omega, by omega⟩)
  obtain ⟨a1584, w1586, hO, hq1585, ⟨k1587, k1588⟩, k1589⟩ := op_4 hI hq1566 List.not_mem_nil
  have hI := th_I.weak (a := a1565) hI
  have k1590 : (nI 6).toInt = ((6 : Nat) : Int) := nI_toInt (by omega)
  refine th_cVs (As := [.int x1]) (rest := []) (n := 1) (d := 0) ⟨hx, hb, hml, hown, hts⟩ (c_X4_has l E D s.heap a1565 6 a1584 w1586 hO (by omega) (by omega) (by omega) x1) wd_494 wd_495 wd_496 wd_3 wd_497 (by decide +kernel) ⟨by rw [hR]; exact Nat.le_of_ble_eq_true rfl, by rw [hR]; exact Nat.le_of_ble_eq_true rfl⟩ hN hK hS ⟨_, hO⟩ rfl rfl hl.1 rfl (Nat.le_of_ble_eq_true rfl) dX11_sails_8 ⟨Nat.zero_le _, Nat.zero_le _⟩ (fun r1583 locs hp hS => ?_)
  rcases hp with ⟨rfl, hp⟩ | ⟨rfl, hp⟩
  · skip
    try simp only [rg, not_and, Int.not_le] at hp
    have hp1591 := hp
    refine lv_if_eq (tgt := 44) hx hb dX11_sails_11 (by decide) (fun c => absurd c (by decide)) (fun _ => ?_)
    refine lv_iload_n hx hb dX11_sails_14 rfl (lv_at hl 2 rfl) ?_
    refine th_cSs (As := [.int x2]) (rest := []) (n := 1) (d := 0) ⟨hx, hb, hml, hown, hts⟩ (c_X11_isHour l s.heap x2) wd_466 wd_467 wd_1 wd_468 (by decide +kernel) ⟨by rw [hR]; exact Nat.le_of_ble_eq_true rfl, by rw [hR]; exact Nat.le_of_ble_eq_true rfl⟩ hN hS rfl hl.1 rfl (Nat.le_of_ble_eq_true rfl) dX11_sails_15 ⟨Nat.zero_le _, Nat.zero_le _⟩ (fun r1592 locs hp hS => ?_)
    rcases hp with ⟨rfl, hp⟩ | ⟨rfl, hp⟩
    · skip
      try simp only [rg, not_and, Int.not_le] at hp
      have hp1593 := hp
      refine lv_if_eq (tgt := 44) hx hb dX11_sails_18 (by decide) (fun c => absurd c (by decide)) (fun _ => ?_)
      refine lv_iload_n hx hb dX11_sails_21 rfl (lv_at hl 2 rfl) ?_
      refine lv_aload_n hx hb dX11_sails_22 rfl (lv_at hl 0 rfl) ?_
      have hI := th_I.close hI hq1566 hO (ok_4 hq1585 ⟨by omega, by omega⟩ (by omega))
      obtain ⟨a1594, a1597, a1599, a1601, a1603, a1605, a1607, a1609, a1611, a1613, a1615, w1617, w1618, w1619, w1620, hO, hq1595, hq1596, hq1598, hq1600, hq1602, hq1604, hq1606, hq1608, hq1610, hq1612, hq1614, hq1616⟩ := op_15 hI hG0 List.not_mem_nil
      have hI := th_I.weak (a := h0) hI
      have k1621 : (nI (n % 401)).toInt = ((n % 401 : Nat) : Int) := nI_toInt (by omega)
      refine th_get hx hb hts inT11 hown hK hO rfl 0 (by decide) (hts _ (tb_c wd_345)) rfl rfl dX11_sails_23 ?_
      have hI := th_I.close hI hG0 hO (ok_15 hq1595 hq1596 hq1598 hq1600 hq1602 hq1604 hq1606 hq1608 hq1610 hq1612 hq1614 hq1616)
      obtain ⟨a1622, a1624, a1626, a1628, a1630, a1632, a1634, a1636, a1638, a1640, w1642, w1645, w1646, w1647, hO, hq1623, hq1625, hq1627, hq1629, hq1631, hq1633, hq1635, hq1637, hq1639, hq1641, ⟨k1643, k1644⟩⟩ := op_6 hI hq1595 List.not_mem_nil
      have hI := th_I.weak (a := a1594) hI
      refine th_getN hx hb hts inT6 hown hK hN hO rfl 4 (by decide) wn_68 rfl rfl dX11_sails_26 ?_
      refine lv_iload_n hx hb dX11_sails_29 rfl (lv_at hl 1 rfl) ?_
      refine lv_iconst (v := 1) hx hb dX11_sails_30 (by decide) ?_
      have hI := th_I.close hI hq1595 hO (ok_6 hq1623 hq1625 hq1627 hq1629 hq1631 hq1633 hq1635 hq1637 hq1639 hq1641 ⟨by omega, by omega⟩)
      refine th_cVi (As := [.int x1, .int 1]) (rest := [.int x2]) (n := 2) (d := 0) ⟨hx, hb, hml, hown, hts⟩ (c_X4_at l E D G a1630 (6) hq1631 x1 1) wd_518 wd_519 wd_520 wd_3 wd_521 (by decide +kernel) ⟨by rw [hR]; exact Nat.le_of_ble_eq_true rfl, by rw [hR]; exact Nat.le_of_ble_eq_true rfl⟩ hI hN hK hS (rc_4 hI hq1631 List.not_mem_nil) rfl rfl hl.1 rfl (Nat.le_of_ble_eq_true rfl) dX11_sails_31 ⟨Nat.zero_le _, Nat.zero_le _⟩ (fun r1648 H locs hp hI hS => ?_)
      have k1649 := iv_lo r1648
      have k1650 := iv_hi r1648
      refine lv_icmp_lt (tgt := 44) hx hb dX11_sails_34 (by decide) (fun c1651 => ?_) (fun c1651 => ?_)
      · skip
        have k1652 := iv_lt (X := x2.toInt) (Y := r1648.toInt) rfl rfl c1651
        exact J_44 H locs ls  (lv_sub hl [0, 1, 2, 3] rfl)  hI hS
      · skip
        have k1653 := iv_nlt (X := x2.toInt) (Y := r1648.toInt) rfl rfl c1651
        refine lv_iload_n hx hb dX11_sails_37 rfl (lv_at hl 3 rfl) ?_
        refine th_cSs (As := [.int x3]) (rest := []) (n := 1) (d := 0) ⟨hx, hb, hml, hown, hts⟩ (c_X11_isFlag l H x3) wd_469 wd_470 wd_1 wd_471 (by decide +kernel) ⟨by rw [hR]; exact Nat.le_of_ble_eq_true rfl, by rw [hR]; exact Nat.le_of_ble_eq_true rfl⟩ hN hS rfl hl.1 rfl (Nat.le_of_ble_eq_true rfl) dX11_sails_38 ⟨Nat.zero_le _, Nat.zero_le _⟩ (fun r1654 locs hp hS => ?_)
        rcases hp with ⟨rfl, hp⟩ | ⟨rfl, hp⟩
        · skip
          try simp only [rg, not_and, Int.not_le] at hp
          have hp1655 := hp
          refine lv_if_ne (tgt := 46) hx hb dX11_sails_41 (by decide) (fun _ => ?_) (fun c => absurd c (by decide))
          refine lv_iload_n hx hb dX11_sails_46 rfl (lv_at hl 3 rfl) ?_
          refine lv_if_ne (tgt := 62) hx hb dX11_sails_47 (by decide) (fun c1656 => ?_) (fun c1656 => ?_)
          · skip
            have k1657 := iv_ne (X := x3.toInt) (Y := (0)) rfl (by decide) c1656
            refine lv_aload_n hx hb dX11_sails_62 rfl (lv_at hl 0 rfl) ?_
            obtain ⟨a1658, a1661, a1663, a1665, a1667, a1669, a1671, a1673, a1675, a1677, a1679, w1681, w1682, w1683, w1684, hO, hq1659, hq1660, hq1662, hq1664, hq1666, hq1668, hq1670, hq1672, hq1674, hq1676, hq1678, hq1680⟩ := op_15 hI hG0 List.not_mem_nil
            have hI := th_I.weak (a := h0) hI
            have k1685 : (nI (n % 401)).toInt = ((n % 401 : Nat) : Int) := nI_toInt (by omega)
            refine th_get hx hb hts inT11 hown hK hO rfl 7 (by decide) (hts _ (tb_c wd_352)) rfl rfl dX11_sails_63 ?_
            refine lv_iload_n hx hb dX11_sails_66 rfl (lv_at hl 1 rfl) ?_
            refine lv_iload_n hx hb dX11_sails_67 rfl (lv_at hl 2 rfl) ?_
            have hI := th_I.close hI hG0 hO (ok_15 hq1659 hq1660 hq1662 hq1664 hq1666 hq1668 hq1670 hq1672 hq1674 hq1676 hq1678 hq1680)
            refine th_cVi (As := [.int x1, .int x2]) (rest := []) (n := 2) (d := 6) ⟨hx, hb, hml, hown, hts⟩ (c_X9_tollTill l E D G a1671 hq1672 x1 x2) wd_885 wd_886 wd_887 wd_8 wd_888 (by decide +kernel) ⟨by rw [hR]; exact Nat.le_of_ble_eq_true rfl, by rw [hR]; exact Nat.le_of_ble_eq_true rfl⟩ hI hN hK hS (rc_10 hI hq1672 List.not_mem_nil) rfl rfl hl.1 rfl (Nat.le_of_ble_eq_true rfl) dX11_sails_68 ⟨Nat.zero_le _, Nat.zero_le _⟩ (fun r1686 H locs hp hI hS => ?_)
            have hpost : True := trivial
            rw [hQ]
            exact W.iret (v := r1686) hx hb hr (fun t ht hW => ⟨⟨r1686, (), rfl, hpost, by rw [ht]; exact hI, hN.warm hW, va_K.moved hW.alike hK⟩, hS.F ht⟩) hS.2.2 dX11_sails_71
          · skip
            have k1687 := iv_eq (X := x3.toInt) (Y := (0)) rfl (by decide) c1656
            refine lv_aload_n hx hb dX11_sails_50 rfl (lv_at hl 0 rfl) ?_
            obtain ⟨a1688, a1691, a1693, a1695, a1697, a1699, a1701, a1703, a1705, a1707, a1709, w1711, w1712, w1713, w1714, hO, hq1689, hq1690, hq1692, hq1694, hq1696, hq1698, hq1700, hq1702, hq1704, hq1706, hq1708, hq1710⟩ := op_15 hI hG0 List.not_mem_nil
            have hI := th_I.weak (a := h0) hI
            have k1715 : (nI (n % 401)).toInt = ((n % 401 : Nat) : Int) := nI_toInt (by omega)
            refine th_get hx hb hts inT11 hown hK hO rfl 7 (by decide) (hts _ (tb_c wd_352)) rfl rfl dX11_sails_51 ?_
            refine lv_iload_n hx hb dX11_sails_54 rfl (lv_at hl 1 rfl) ?_
            refine lv_iload_n hx hb dX11_sails_55 rfl (lv_at hl 2 rfl) ?_
            have hI := th_I.close hI hG0 hO (ok_15 hq1689 hq1690 hq1692 hq1694 hq1696 hq1698 hq1700 hq1702 hq1704 hq1706 hq1708 hq1710)
            refine th_cVi (As := [.int x1, .int x2]) (rest := []) (n := 2) (d := 6) ⟨hx, hb, hml, hown, hts⟩ (c_X9_boatAt l E D G a1701 hq1702 x1 x2) wd_872 wd_873 wd_874 wd_8 wd_875 (by decide +kernel) ⟨by rw [hR]; exact Nat.le_of_ble_eq_true rfl, by rw [hR]; exact Nat.le_of_ble_eq_true rfl⟩ hI hN hK hS (rc_10 hI hq1702 List.not_mem_nil) rfl rfl hl.1 rfl (Nat.le_of_ble_eq_true rfl) dX11_sails_56 ⟨Nat.zero_le _, Nat.zero_le _⟩ (fun r1716 H locs hp hI hS => ?_)
            refine lv_goto (tgt := 71) hx hb dX11_sails_59 (by decide) ?_
            have hpost : True := trivial
            rw [hQ]
            exact W.iret (v := r1716) hx hb hr (fun t ht hW => ⟨⟨r1716, (), rfl, hpost, by rw [ht]; exact hI, hN.warm hW, va_K.moved hW.alike hK⟩, hS.F ht⟩) hS.2.2 dX11_sails_71
        · skip
          try simp only [rg, not_and, Int.not_le] at hp
          have hp1717 := hp
          refine lv_if_ne (tgt := 46) hx hb dX11_sails_41 (by decide) (fun c => absurd c (by decide)) (fun _ => ?_)
          exact J_44 H locs ls  (lv_sub hl [0, 1, 2, 3] rfl)  hI hS
    · skip
      try simp only [rg, not_and, Int.not_le] at hp
      have hp1718 := hp
      refine lv_if_eq (tgt := 44) hx hb dX11_sails_18 (by decide) (fun _ => ?_) (fun c => absurd c (by decide))
      have hI := th_I.close hI hq1566 hO (ok_4 hq1585 ⟨by omega, by omega⟩ (by omega))
      exact J_44 s.heap locs ls  (lv_sub hl [0, 1, 2, 3] rfl)  hI hS
  · skip
    have hp1719 := hp
    refine lv_if_eq (tgt := 44) hx hb dX11_sails_11 (by decide) (fun _ => ?_) (fun c => absurd c (by decide))
    have hI := th_I.close hI hq1566 hO (ok_4 hq1585 ⟨by omega, by omega⟩ (by omega))
    exact J_44 s.heap locs ls  (lv_sub hl [0, 1, 2, 3] rfl)  hI hS
theorem dX11_meet_0 : decode cX11_meet 0 = .ok (.aload_n 0, 1) := by decide +kernel
theorem dX11_meet_1 : decode cX11_meet 1 = .ok (.getfield 12, 3) := by decide +kernel
theorem dX11_meet_4 : decode cX11_meet 4 = .ok (.getfield 246, 3) := by decide +kernel
theorem dX11_meet_7 : decode cX11_meet 7 = .ok (.iload_n 1, 1) := by decide +kernel
theorem dX11_meet_8 : decode cX11_meet 8 = .ok (.invokevirtual 159, 3) := by decide +kernel
theorem dX11_meet_11 : decode cX11_meet 11 = .ok (.ifCond .eq 29, 3) := by decide +kernel
theorem dX11_meet_14 : decode cX11_meet 14 = .ok (.aload_n 0, 1) := by decide +kernel
theorem dX11_meet_15 : decode cX11_meet 15 = .ok (.getfield 12, 3) := by decide +kernel
theorem dX11_meet_18 : decode cX11_meet 18 = .ok (.getfield 246, 3) := by decide +kernel
theorem dX11_meet_21 : decode cX11_meet 21 = .ok (.iload_n 2, 1) := by decide +kernel
theorem dX11_meet_22 : decode cX11_meet 22 = .ok (.invokevirtual 159, 3) := by decide +kernel
theorem dX11_meet_25 : decode cX11_meet 25 = .ok (.ifCond .eq 15, 3) := by decide +kernel
theorem dX11_meet_28 : decode cX11_meet 28 = .ok (.iload_n 1, 1) := by decide +kernel
theorem dX11_meet_29 : decode cX11_meet 29 = .ok (.iload_n 2, 1) := by decide +kernel
theorem dX11_meet_30 : decode cX11_meet 30 = .ok (.if_icmp .eq 10, 3) := by decide +kernel
theorem dX11_meet_33 : decode cX11_meet 33 = .ok (.iload_n 3, 1) := by decide +kernel
theorem dX11_meet_34 : decode cX11_meet 34 = .ok (.invokestatic 138, 3) := by decide +kernel
theorem dX11_meet_37 : decode cX11_meet 37 = .ok (.ifCond .ne 5, 3) := by decide +kernel
theorem dX11_meet_40 : decode cX11_meet 40 = .ok (.iconst (-1), 1) := by decide +kernel
theorem dX11_meet_41 : decode cX11_meet 41 = .ok (.ireturn, 1) := by decide +kernel
theorem dX11_meet_42 : decode cX11_meet 42 = .ok (.aload_n 0, 1) := by decide +kernel
theorem dX11_meet_43 : decode cX11_meet 43 = .ok (.getfield 51, 3) := by decide +kernel
theorem dX11_meet_46 : decode cX11_meet 46 = .ok (.iload_n 1, 1) := by decide +kernel
theorem dX11_meet_47 : decode cX11_meet 47 = .ok (.iload_n 2, 1) := by decide +kernel
theorem dX11_meet_48 : decode cX11_meet 48 = .ok (.invokevirtual 259, 3) := by decide +kernel
theorem dX11_meet_51 : decode cX11_meet 51 = .ok (.istore 4, 2) := by decide +kernel
theorem dX11_meet_53 : decode cX11_meet 53 = .ok (.iload 4, 2) := by decide +kernel
theorem dX11_meet_55 : decode cX11_meet 55 = .ok (.iconst (-1), 1) := by decide +kernel
theorem dX11_meet_56 : decode cX11_meet 56 = .ok (.if_icmp .eq 7, 3) := by decide +kernel
theorem dX11_meet_59 : decode cX11_meet 59 = .ok (.iload_n 3, 1) := by decide +kernel
theorem dX11_meet_60 : decode cX11_meet 60 = .ok (.ifCond .ne 8, 3) := by decide +kernel
theorem dX11_meet_63 : decode cX11_meet 63 = .ok (.iload 4, 2) := by decide +kernel
theorem dX11_meet_65 : decode cX11_meet 65 = .ok (.goto 13, 3) := by decide +kernel
theorem dX11_meet_68 : decode cX11_meet 68 = .ok (.aload_n 0, 1) := by decide +kernel
theorem dX11_meet_69 : decode cX11_meet 69 = .ok (.getfield 51, 3) := by decide +kernel
theorem dX11_meet_72 : decode cX11_meet 72 = .ok (.iload_n 1, 1) := by decide +kernel
theorem dX11_meet_73 : decode cX11_meet 73 = .ok (.iload 4, 2) := by decide +kernel
theorem dX11_meet_75 : decode cX11_meet 75 = .ok (.invokevirtual 253, 3) := by decide +kernel
theorem dX11_meet_78 : decode cX11_meet 78 = .ok (.ireturn, 1) := by decide +kernel
set_option maxHeartbeats 4000000 in
set_option maxRecDepth 100000 in
theorem c_X11_meet (l : Launch) (E : Nat → ClassId) (D : va_G) (G : th_G) (h0 n : Nat) (hG0 : G h0 = some (15, n)) (x1 x2 x3 : Int32) : Met l yX11_meet (tb (.code yX11_meet cX11_meet 5 (some .int))) (rm 8) (va_Pc [.ref h0, .int x1, .int x2, .int x3] (th_P E D G)) (QI E D G (fun r => True)) 0 0 (th_A G) := by
  refine Met.ofW (cc := cX11_meet) (maxL := 5) (ret := (some .int)) (by decide) rfl ?_
  intro p e s m args below meth c s₁ B hml hv
  obtain ⟨hav, hI, hN, hK⟩ := hv
  have hx := B.exec
  have hb := B.bytes
  have hr := B.returns
  have hts := atoms_spec (ws := tb (.code yX11_meet cX11_meet 5 (some .int))) B.pre
  have hown : s.vm.findClass RX11 = some m.cls := findClass_of_methodNamed B.named
  have hlocks := B.notSynchronized
  have hS : va_S (th_A G) s.heap s.heap [] := va_S.rf
  have hl := lv_entry ([.ref h0, .int x1, .int x2, .int x3]) (n := 5) (Nat.le_of_ble_eq_true rfl)
  rw [show entryFrame m args 5 = entryFrame m ([.ref h0, .int x1, .int x2, .int x3] : List Value).toArray 5 from by rw [hav], lg_entry_eq]
  generalize (lg_sl ([.ref h0, .int x1, .int x2, .int x3]) ++ List.replicate (5 - (lg_sl ([.ref h0, .int x1, .int x2, .int x3])).length) Slot.unset).toArray = ls at hl ⊢
  have hl : lv_has ls 5 [(0, .ref h0), (1, .int x1), (2, .int x2), (3, .int x3)] := hl
  generalize hR : (headSpec (tb (.code yX11_meet cX11_meet 5 (some .int))) (rm 8)).room = R
  have hR := hR.symm
  generalize hQ : MQ below (QI E D G (fun r => True)) args s 0 0 (th_A G) = QF
  have hQ := hQ.symm
  have J_40 : ∀ (H : Heap) (locs : List Loc) (ls : Array Slot) , lv_has ls 5 [(0, .ref h0), (1, .int x1), (2, .int x2), (3, .int x3)] → th_I (okC E) D G [] H → va_S (th_A G) s.heap H locs → W p l e R s m args below meth c H locs 0 0 QF (F0 m 40 ls []) := by
    intro H locs ls  hl  hI hS
    refine lv_iconst (v := (-1)) hx hb dX11_meet_40 (by decide) ?_
    have hpost : True := trivial
    rw [hQ]
    exact W.iret (v := (-1)) hx hb hr (fun t ht hW => ⟨⟨(-1), (), rfl, hpost, by rw [ht]; exact hI, hN.warm hW, va_K.moved hW.alike hK⟩, hS.F ht⟩) hS.2.2 dX11_meet_41
  refine lv_aload_n hx hb dX11_meet_0 rfl (lv_at hl 0 rfl) ?_
  obtain ⟨a1601, a1604, a1606, a1608, a1610, a1612, a1614, a1616, a1618, a1620, a1622, w1624, w1625, w1626, w1627, hO, hq1602, hq1603, hq1605, hq1607, hq1609, hq1611, hq1613, hq1615, hq1617, hq1619, hq1621, hq1623⟩ := op_15 hI hG0 List.not_mem_nil
  have hI := th_I.weak (a := h0) hI
  have k1628 : (nI (n % 401)).toInt = ((n % 401 : Nat) : Int) := nI_toInt (by omega)
  refine th_get hx hb hts inT11 hown hK hO rfl 0 (by decide) (hts _ (tb_c wd_345)) rfl rfl dX11_meet_1 ?_
  have hI := th_I.close hI hG0 hO (ok_15 hq1602 hq1603 hq1605 hq1607 hq1609 hq1611 hq1613 hq1615 hq1617 hq1619 hq1621 hq1623)
  obtain ⟨a1629, a1631, a1633, a1635, a1637, a1639, a1641, a1643, a1645, a1647, w1649, w1652, w1653, w1654, hO, hq1630, hq1632, hq1634, hq1636, hq1638, hq1640, hq1642, hq1644, hq1646, hq1648, ⟨k1650, k1651⟩⟩ := op_6 hI hq1602 List.not_mem_nil
  have hI := th_I.weak (a := a1601) hI
  refine th_getN hx hb hts inT6 hown hK hN hO rfl 4 (by decide) wn_68 rfl rfl dX11_meet_4 ?_
  refine lv_iload_n hx hb dX11_meet_7 rfl (lv_at hl 1 rfl) ?_
  have hI := th_I.close hI hq1602 hO (ok_6 hq1630 hq1632 hq1634 hq1636 hq1638 hq1640 hq1642 hq1644 hq1646 hq1648 ⟨by omega, by omega⟩)
  obtain ⟨a1656, w1658, hO, hq1657, ⟨k1659, k1660⟩, k1661⟩ := op_4 hI hq1638 List.not_mem_nil
  have hI := th_I.weak (a := a1637) hI
  have k1662 : (nI 6).toInt = ((6 : Nat) : Int) := nI_toInt (by omega)
  refine th_cVs (As := [.int x1]) (rest := []) (n := 1) (d := 0) ⟨hx, hb, hml, hown, hts⟩ (c_X4_has l E D s.heap a1637 6 a1656 w1658 hO (by omega) (by omega) (by omega) x1) wd_494 wd_495 wd_496 wd_3 wd_497 (by decide +kernel) ⟨by rw [hR]; exact Nat.le_of_ble_eq_true rfl, by rw [hR]; exact Nat.le_of_ble_eq_true rfl⟩ hN hK hS ⟨_, hO⟩ rfl rfl hl.1 rfl (Nat.le_of_ble_eq_true rfl) dX11_meet_8 ⟨Nat.zero_le _, Nat.zero_le _⟩ (fun r1655 locs hp hS => ?_)
  rcases hp with ⟨rfl, hp⟩ | ⟨rfl, hp⟩
  · skip
    try simp only [rg, not_and, Int.not_le] at hp
    have hp1663 := hp
    refine lv_if_eq (tgt := 40) hx hb dX11_meet_11 (by decide) (fun c => absurd c (by decide)) (fun _ => ?_)
    refine lv_aload_n hx hb dX11_meet_14 rfl (lv_at hl 0 rfl) ?_
    have hI := th_I.close hI hq1638 hO (ok_4 hq1657 ⟨by omega, by omega⟩ (by omega))
    obtain ⟨a1664, a1667, a1669, a1671, a1673, a1675, a1677, a1679, a1681, a1683, a1685, w1687, w1688, w1689, w1690, hO, hq1665, hq1666, hq1668, hq1670, hq1672, hq1674, hq1676, hq1678, hq1680, hq1682, hq1684, hq1686⟩ := op_15 hI hG0 List.not_mem_nil
    have hI := th_I.weak (a := h0) hI
    have k1691 : (nI (n % 401)).toInt = ((n % 401 : Nat) : Int) := nI_toInt (by omega)
    refine th_get hx hb hts inT11 hown hK hO rfl 0 (by decide) (hts _ (tb_c wd_345)) rfl rfl dX11_meet_15 ?_
    have hI := th_I.close hI hG0 hO (ok_15 hq1665 hq1666 hq1668 hq1670 hq1672 hq1674 hq1676 hq1678 hq1680 hq1682 hq1684 hq1686)
    obtain ⟨a1692, a1694, a1696, a1698, a1700, a1702, a1704, a1706, a1708, a1710, w1712, w1715, w1716, w1717, hO, hq1693, hq1695, hq1697, hq1699, hq1701, hq1703, hq1705, hq1707, hq1709, hq1711, ⟨k1713, k1714⟩⟩ := op_6 hI hq1665 List.not_mem_nil
    have hI := th_I.weak (a := a1664) hI
    refine th_getN hx hb hts inT6 hown hK hN hO rfl 4 (by decide) wn_68 rfl rfl dX11_meet_18 ?_
    refine lv_iload_n hx hb dX11_meet_21 rfl (lv_at hl 2 rfl) ?_
    have hI := th_I.close hI hq1665 hO (ok_6 hq1693 hq1695 hq1697 hq1699 hq1701 hq1703 hq1705 hq1707 hq1709 hq1711 ⟨by omega, by omega⟩)
    obtain ⟨a1719, w1721, hO, hq1720, ⟨k1722, k1723⟩, k1724⟩ := op_4 hI hq1701 List.not_mem_nil
    have hI := th_I.weak (a := a1700) hI
    have k1725 : (nI 6).toInt = ((6 : Nat) : Int) := nI_toInt (by omega)
    refine th_cVs (As := [.int x2]) (rest := []) (n := 1) (d := 0) ⟨hx, hb, hml, hown, hts⟩ (c_X4_has l E D s.heap a1700 6 a1719 w1721 hO (by omega) (by omega) (by omega) x2) wd_494 wd_495 wd_496 wd_3 wd_497 (by decide +kernel) ⟨by rw [hR]; exact Nat.le_of_ble_eq_true rfl, by rw [hR]; exact Nat.le_of_ble_eq_true rfl⟩ hN hK hS ⟨_, hO⟩ rfl rfl hl.1 rfl (Nat.le_of_ble_eq_true rfl) dX11_meet_22 ⟨Nat.zero_le _, Nat.zero_le _⟩ (fun r1718 locs hp hS => ?_)
    rcases hp with ⟨rfl, hp⟩ | ⟨rfl, hp⟩
    · skip
      try simp only [rg, not_and, Int.not_le] at hp
      have hp1726 := hp
      refine lv_if_eq (tgt := 40) hx hb dX11_meet_25 (by decide) (fun c => absurd c (by decide)) (fun _ => ?_)
      refine lv_iload_n hx hb dX11_meet_28 rfl (lv_at hl 1 rfl) ?_
      refine lv_iload_n hx hb dX11_meet_29 rfl (lv_at hl 2 rfl) ?_
      refine lv_icmp_eq (tgt := 40) hx hb dX11_meet_30 (by decide) (fun c1727 => ?_) (fun c1727 => ?_)
      · skip
        have k1728 := iv_eq (X := x1.toInt) (Y := x2.toInt) rfl rfl c1727
        have hI := th_I.close hI hq1701 hO (ok_4 hq1720 ⟨by omega, by omega⟩ (by omega))
        exact J_40 s.heap locs ls  (lv_sub hl [0, 1, 2, 3] rfl)  hI hS
      · skip
        have k1729 := iv_ne (X := x1.toInt) (Y := x2.toInt) rfl rfl c1727
        refine lv_iload_n hx hb dX11_meet_33 rfl (lv_at hl 3 rfl) ?_
        refine th_cSs (As := [.int x3]) (rest := []) (n := 1) (d := 0) ⟨hx, hb, hml, hown, hts⟩ (c_X11_isFlag l s.heap x3) wd_469 wd_470 wd_1 wd_471 (by decide +kernel) ⟨by rw [hR]; exact Nat.le_of_ble_eq_true rfl, by rw [hR]; exact Nat.le_of_ble_eq_true rfl⟩ hN hS rfl hl.1 rfl (Nat.le_of_ble_eq_true rfl) dX11_meet_34 ⟨Nat.zero_le _, Nat.zero_le _⟩ (fun r1730 locs hp hS => ?_)
        rcases hp with ⟨rfl, hp⟩ | ⟨rfl, hp⟩
        · skip
          try simp only [rg, not_and, Int.not_le] at hp
          have hp1731 := hp
          refine lv_if_ne (tgt := 42) hx hb dX11_meet_37 (by decide) (fun _ => ?_) (fun c => absurd c (by decide))
          refine lv_aload_n hx hb dX11_meet_42 rfl (lv_at hl 0 rfl) ?_
          have hI := th_I.close hI hq1701 hO (ok_4 hq1720 ⟨by omega, by omega⟩ (by omega))
          obtain ⟨a1732, a1735, a1737, a1739, a1741, a1743, a1745, a1747, a1749, a1751, a1753, w1755, w1756, w1757, w1758, hO, hq1733, hq1734, hq1736, hq1738, hq1740, hq1742, hq1744, hq1746, hq1748, hq1750, hq1752, hq1754⟩ := op_15 hI hG0 List.not_mem_nil
          have hI := th_I.weak (a := h0) hI
          have k1759 : (nI (n % 401)).toInt = ((n % 401 : Nat) : Int) := nI_toInt (by omega)
          refine th_get hx hb hts inT11 hown hK hO rfl 7 (by decide) (hts _ (tb_c wd_352)) rfl rfl dX11_meet_43 ?_
          refine lv_iload_n hx hb dX11_meet_46 rfl (lv_at hl 1 rfl) ?_
          refine lv_iload_n hx hb dX11_meet_47 rfl (lv_at hl 2 rfl) ?_
          have hI := th_I.close hI hG0 hO (ok_15 hq1733 hq1734 hq1736 hq1738 hq1740 hq1742 hq1744 hq1746 hq1748 hq1750 hq1752 hq1754)
          refine th_cVi (As := [.int x1, .int x2]) (rest := []) (n := 2) (d := 7) ⟨hx, hb, hml, hown, hts⟩ (c_X9_meeting l E D G a1745 hq1746 x1 x2) wd_898 wd_899 wd_900 wd_8 wd_901 (by decide +kernel) ⟨by rw [hR]; exact Nat.le_of_ble_eq_true rfl, by rw [hR]; exact Nat.le_of_ble_eq_true rfl⟩ hI hN hK hS (rc_10 hI hq1746 List.not_mem_nil) rfl rfl hl.1 rfl (Nat.le_of_ble_eq_true rfl) dX11_meet_48 ⟨Nat.zero_le _, Nat.zero_le _⟩ (fun r1760 H locs hp hI hS => ?_)
          refine lv_istore (lv' := [(4, .int r1760), (0, .ref h0), (1, .int x1), (2, .int x2), (3, .int x3)]) hx hb dX11_meet_51 hl (by decide) rfl (fun ls hl => ?_)
          refine lv_iload hx hb dX11_meet_53 (lv_at hl 0 rfl) ?_
          refine lv_iconst (v := (-1)) hx hb dX11_meet_55 (by decide) ?_
          have k1761 := iv_lo r1760
          have k1762 := iv_hi r1760
          refine lv_icmp_eq (tgt := 63) hx hb dX11_meet_56 (by decide) (fun c1763 => ?_) (fun c1763 => ?_)
          · skip
            have k1764 := iv_eq (X := r1760.toInt) (Y := (-1)) rfl (by decide) c1763
            refine lv_iload hx hb dX11_meet_63 (lv_at hl 0 rfl) ?_
            refine lv_goto (tgt := 78) hx hb dX11_meet_65 (by decide) ?_
            have hpost : True := trivial
            rw [hQ]
            exact W.iret (v := r1760) hx hb hr (fun t ht hW => ⟨⟨r1760, (), rfl, hpost, by rw [ht]; exact hI, hN.warm hW, va_K.moved hW.alike hK⟩, hS.F ht⟩) hS.2.2 dX11_meet_78
          · skip
            have k1765 := iv_ne (X := r1760.toInt) (Y := (-1)) rfl (by decide) c1763
            refine lv_iload_n hx hb dX11_meet_59 rfl (lv_at hl 4 rfl) ?_
            refine lv_if_ne (tgt := 68) hx hb dX11_meet_60 (by decide) (fun c1766 => ?_) (fun c1766 => ?_)
            · skip
              have k1767 := iv_ne (X := x3.toInt) (Y := (0)) rfl (by decide) c1766
              refine lv_aload_n hx hb dX11_meet_68 rfl (lv_at hl 1 rfl) ?_
              obtain ⟨a1768, a1771, a1773, a1775, a1777, a1779, a1781, a1783, a1785, a1787, a1789, w1791, w1792, w1793, w1794, hO, hq1769, hq1770, hq1772, hq1774, hq1776, hq1778, hq1780, hq1782, hq1784, hq1786, hq1788, hq1790⟩ := op_15 hI hG0 List.not_mem_nil
              have hI := th_I.weak (a := h0) hI
              have k1795 : (nI (n % 401)).toInt = ((n % 401 : Nat) : Int) := nI_toInt (by omega)
              refine th_get hx hb hts inT11 hown hK hO rfl 7 (by decide) (hts _ (tb_c wd_352)) rfl rfl dX11_meet_69 ?_
              refine lv_iload_n hx hb dX11_meet_72 rfl (lv_at hl 2 rfl) ?_
              refine lv_iload hx hb dX11_meet_73 (lv_at hl 0 rfl) ?_
              have hI := th_I.close hI hG0 hO (ok_15 hq1769 hq1770 hq1772 hq1774 hq1776 hq1778 hq1780 hq1782 hq1784 hq1786 hq1788 hq1790)
              refine th_cVi (As := [.int x1, .int r1760]) (rest := []) (n := 2) (d := 6) ⟨hx, hb, hml, hown, hts⟩ (c_X9_boatAt l E D G a1781 hq1782 x1 r1760) wd_872 wd_873 wd_874 wd_8 wd_875 (by decide +kernel) ⟨by rw [hR]; exact Nat.le_of_ble_eq_true rfl, by rw [hR]; exact Nat.le_of_ble_eq_true rfl⟩ hI hN hK hS (rc_10 hI hq1782 List.not_mem_nil) rfl rfl hl.1 rfl (Nat.le_of_ble_eq_true rfl) dX11_meet_75 ⟨Nat.zero_le _, Nat.zero_le _⟩ (fun r1796 H locs hp hI hS => ?_)
              have hpost : True := trivial
              rw [hQ]
              exact W.iret (v := r1796) hx hb hr (fun t ht hW => ⟨⟨r1796, (), rfl, hpost, by rw [ht]; exact hI, hN.warm hW, va_K.moved hW.alike hK⟩, hS.F ht⟩) hS.2.2 dX11_meet_78
            · skip
              have k1797 := iv_eq (X := x3.toInt) (Y := (0)) rfl (by decide) c1766
              refine lv_iload hx hb dX11_meet_63 (lv_at hl 0 rfl) ?_
              refine lv_goto (tgt := 78) hx hb dX11_meet_65 (by decide) ?_
              have hpost : True := trivial
              rw [hQ]
              exact W.iret (v := r1760) hx hb hr (fun t ht hW => ⟨⟨r1760, (), rfl, hpost, by rw [ht]; exact hI, hN.warm hW, va_K.moved hW.alike hK⟩, hS.F ht⟩) hS.2.2 dX11_meet_78
        · skip
          try simp only [rg, not_and, Int.not_le] at hp
          have hp1798 := hp
          refine lv_if_ne (tgt := 42) hx hb dX11_meet_37 (by decide) (fun c => absurd c (by decide)) (fun _ => ?_)
          have hI := th_I.close hI hq1701 hO (ok_4 hq1720 ⟨by omega, by omega⟩ (by omega))
          exact J_40 s.heap locs ls  (lv_sub hl [0, 1, 2, 3] rfl)  hI hS
    · skip
      have hp1799 := hp
      refine lv_if_eq (tgt := 40) hx hb dX11_meet_25 (by decide) (fun _ => ?_) (fun c => absurd c (by decide))
      have hI := th_I.close hI hq1701 hO (ok_4 hq1720 ⟨by omega, by omega⟩ (by omega))
      exact J_40 s.heap locs ls  (lv_sub hl [0, 1, 2, 3] rfl)  hI hS
  · skip
    have hp1800 := hp
    refine lv_if_eq (tgt := 40) hx hb dX11_meet_11 (by decide) (fun _ => ?_) (fun c => absurd c (by decide))
    have hI := th_I.close hI hq1638 hO (ok_4 hq1657 ⟨by omega, by omega⟩ (by omega))
    exact J_40 s.heap locs ls  (lv_sub hl [0, 1, 2, 3] rfl)  hI hS
theorem dX11_pour_0 : decode cX11_pour 0 = .ok (.iload_n 1, 1) := by decide +kernel
theorem dX11_pour_1 : decode cX11_pour 1 = .ok (.iload_n 2, 1) := by decide +kernel
theorem dX11_pour_2 : decode cX11_pour 2 = .ok (.iload_n 3, 1) := by decide +kernel
theorem dX11_pour_3 : decode cX11_pour 3 = .ok (.iload 4, 2) := by decide +kernel
theorem dX11_pour_5 : decode cX11_pour 5 = .ok (.invokestatic 262, 3) := by decide +kernel
theorem dX11_pour_8 : decode cX11_pour 8 = .ok (.ifCond .ne 9, 3) := by decide +kernel
theorem dX11_pour_11 : decode cX11_pour 11 = .ok (.aload_n 0, 1) := by decide +kernel
theorem dX11_pour_12 : decode cX11_pour 12 = .ok (.iconst (-1), 1) := by decide +kernel
theorem dX11_pour_13 : decode cX11_pour 13 = .ok (.invokevirtual 113, 3) := by decide +kernel
theorem dX11_pour_16 : decode cX11_pour 16 = .ok (.ireturn, 1) := by decide +kernel
theorem dX11_pour_17 : decode cX11_pour 17 = .ok (.aload_n 0, 1) := by decide +kernel
theorem dX11_pour_18 : decode cX11_pour 18 = .ok (.getfield 42, 3) := by decide +kernel
theorem dX11_pour_21 : decode cX11_pour 21 = .ok (.iload_n 1, 1) := by decide +kernel
theorem dX11_pour_22 : decode cX11_pour 22 = .ok (.iload_n 2, 1) := by decide +kernel
theorem dX11_pour_23 : decode cX11_pour 23 = .ok (.invokevirtual 220, 3) := by decide +kernel
theorem dX11_pour_26 : decode cX11_pour 26 = .ok (.ifCond .eq 10, 3) := by decide +kernel
theorem dX11_pour_29 : decode cX11_pour 29 = .ok (.aload_n 0, 1) := by decide +kernel
theorem dX11_pour_30 : decode cX11_pour 30 = .ok (.bipush (-3), 2) := by decide +kernel
theorem dX11_pour_32 : decode cX11_pour 32 = .ok (.invokevirtual 113, 3) := by decide +kernel
theorem dX11_pour_35 : decode cX11_pour 35 = .ok (.ireturn, 1) := by decide +kernel
theorem dX11_pour_36 : decode cX11_pour 36 = .ok (.aload_n 0, 1) := by decide +kernel
theorem dX11_pour_37 : decode cX11_pour 37 = .ok (.getfield 12, 3) := by decide +kernel
theorem dX11_pour_40 : decode cX11_pour 40 = .ok (.getfield 266, 3) := by decide +kernel
theorem dX11_pour_43 : decode cX11_pour 43 = .ok (.invokevirtual 149, 3) := by decide +kernel
theorem dX11_pour_46 : decode cX11_pour 46 = .ok (.ifCond .eq 10, 3) := by decide +kernel
theorem dX11_pour_49 : decode cX11_pour 49 = .ok (.aload_n 0, 1) := by decide +kernel
theorem dX11_pour_50 : decode cX11_pour 50 = .ok (.bipush (-5), 2) := by decide +kernel
theorem dX11_pour_52 : decode cX11_pour 52 = .ok (.invokevirtual 113, 3) := by decide +kernel
theorem dX11_pour_55 : decode cX11_pour 55 = .ok (.ireturn, 1) := by decide +kernel
theorem dX11_pour_56 : decode cX11_pour 56 = .ok (.aload_n 0, 1) := by decide +kernel
theorem dX11_pour_57 : decode cX11_pour 57 = .ok (.invokevirtual 191, 3) := by decide +kernel
theorem dX11_pour_60 : decode cX11_pour 60 = .ok (.aload_n 0, 1) := by decide +kernel
theorem dX11_pour_61 : decode cX11_pour 61 = .ok (.aload_n 0, 1) := by decide +kernel
theorem dX11_pour_62 : decode cX11_pour 62 = .ok (.getfield 12, 3) := by decide +kernel
theorem dX11_pour_65 : decode cX11_pour 65 = .ok (.getfield 266, 3) := by decide +kernel
theorem dX11_pour_68 : decode cX11_pour 68 = .ok (.iload_n 1, 1) := by decide +kernel
theorem dX11_pour_69 : decode cX11_pour 69 = .ok (.iload_n 2, 1) := by decide +kernel
theorem dX11_pour_70 : decode cX11_pour 70 = .ok (.iload_n 3, 1) := by decide +kernel
theorem dX11_pour_71 : decode cX11_pour 71 = .ok (.iload 4, 2) := by decide +kernel
theorem dX11_pour_73 : decode cX11_pour 73 = .ok (.invokevirtual 155, 3) := by decide +kernel
theorem dX11_pour_76 : decode cX11_pour 76 = .ok (.invokevirtual 127, 3) := by decide +kernel
theorem dX11_pour_79 : decode cX11_pour 79 = .ok (.ireturn, 1) := by decide +kernel
set_option maxHeartbeats 4000000 in
set_option maxRecDepth 100000 in
theorem c_X11_pour (l : Launch) (E : Nat → ClassId) (D : va_G) (G : th_G) (h0 n : Nat) (hG0 : G h0 = some (15, n)) (x1 x2 x3 x4 : Int32) : Met l yX11_pour (tb (.code yX11_pour cX11_pour 5 (some .int))) (rm 6) (va_Pc [.ref h0, .int x1, .int x2, .int x3, .int x4] (th_P E D G)) (QI E D G (fun r => True)) 0 0 (th_A G) := by
  refine Met.ofW (cc := cX11_pour) (maxL := 5) (ret := (some .int)) (by decide) rfl ?_
  intro p e s m args below meth c s₁ B hml hv
  obtain ⟨hav, hI, hN, hK⟩ := hv
  have hx := B.exec
  have hb := B.bytes
  have hr := B.returns
  have hts := atoms_spec (ws := tb (.code yX11_pour cX11_pour 5 (some .int))) B.pre
  have hown : s.vm.findClass RX11 = some m.cls := findClass_of_methodNamed B.named
  have hlocks := B.notSynchronized
  have hS : va_S (th_A G) s.heap s.heap [] := va_S.rf
  have hl := lv_entry ([.ref h0, .int x1, .int x2, .int x3, .int x4]) (n := 5) (Nat.le_of_ble_eq_true rfl)
  rw [show entryFrame m args 5 = entryFrame m ([.ref h0, .int x1, .int x2, .int x3, .int x4] : List Value).toArray 5 from by rw [hav], lg_entry_eq]
  generalize (lg_sl ([.ref h0, .int x1, .int x2, .int x3, .int x4]) ++ List.replicate (5 - (lg_sl ([.ref h0, .int x1, .int x2, .int x3, .int x4])).length) Slot.unset).toArray = ls at hl ⊢
  have hl : lv_has ls 5 [(0, .ref h0), (1, .int x1), (2, .int x2), (3, .int x3), (4, .int x4)] := hl
  generalize hR : (headSpec (tb (.code yX11_pour cX11_pour 5 (some .int))) (rm 6)).room = R
  have hR := hR.symm
  generalize hQ : MQ below (QI E D G (fun r => True)) args s 0 0 (th_A G) = QF
  have hQ := hQ.symm
  refine lv_iload_n hx hb dX11_pour_0 rfl (lv_at hl 1 rfl) ?_
  refine lv_iload_n hx hb dX11_pour_1 rfl (lv_at hl 2 rfl) ?_
  refine lv_iload_n hx hb dX11_pour_2 rfl (lv_at hl 3 rfl) ?_
  refine lv_iload hx hb dX11_pour_3 (lv_at hl 4 rfl) ?_
  refine th_cSs (As := [.int x1, .int x2, .int x3, .int x4]) (rest := []) (n := 4) (d := 1) ⟨hx, hb, hml, hown, hts⟩ (c_X11_isPour l s.heap x1 x2 x3 x4) wd_617 wd_618 wd_1 wd_619 (by decide +kernel) ⟨by rw [hR]; exact Nat.le_of_ble_eq_true rfl, by rw [hR]; exact Nat.le_of_ble_eq_true rfl⟩ hN hS rfl hl.1 rfl (Nat.le_of_ble_eq_true rfl) dX11_pour_5 ⟨Nat.zero_le _, Nat.zero_le _⟩ (fun r1 locs hp hS => ?_)
  rcases hp with ⟨rfl, hp⟩ | ⟨rfl, hp⟩
  · skip
    try simp only [rg, not_and, Int.not_le] at hp
    have hp2 := hp
    refine lv_if_ne (tgt := 17) hx hb dX11_pour_8 (by decide) (fun _ => ?_) (fun c => absurd c (by decide))
    refine lv_aload_n hx hb dX11_pour_17 rfl (lv_at hl 0 rfl) ?_
    obtain ⟨a3, a6, a8, a10, a12, a14, a16, a18, a20, a22, a24, w26, w27, w28, w29, hO, hq4, hq5, hq7, hq9, hq11, hq13, hq15, hq17, hq19, hq21, hq23, hq25⟩ := op_15 hI hG0 List.not_mem_nil
    have hI := th_I.weak (a := h0) hI
    have k30 : (nI (n % 401)).toInt = ((n % 401 : Nat) : Int) := nI_toInt (by omega)
    refine th_get hx hb hts inT11 hown hK hO rfl 6 (by decide) (hts _ (tb_c wd_351)) rfl rfl dX11_pour_18 ?_
    refine lv_iload_n hx hb dX11_pour_21 rfl (lv_at hl 1 rfl) ?_
    refine lv_iload_n hx hb dX11_pour_22 rfl (lv_at hl 2 rfl) ?_
    have hI := th_I.close hI hG0 hO (ok_15 hq4 hq5 hq7 hq9 hq11 hq13 hq15 hq17 hq19 hq21 hq23 hq25)
    refine th_cVi (As := [.int x1, .int x2]) (rest := []) (n := 2) (d := 5) ⟨hx, hb, hml, hown, hts⟩ (c_X7_isBarred l E D G a14 hq15 x1 x2) wd_623 wd_624 wd_625 wd_6 wd_626 (by decide +kernel) ⟨by rw [hR]; exact Nat.le_of_ble_eq_true rfl, by rw [hR]; exact Nat.le_of_ble_eq_true rfl⟩ hI hN hK hS (rc_9 hI hq15 List.not_mem_nil) rfl rfl hl.1 rfl (Nat.le_of_ble_eq_true rfl) dX11_pour_23 ⟨Nat.zero_le _, Nat.zero_le _⟩ (fun r31 H locs hp hI hS => ?_)
    have hp32 := hp
    refine lv_if_eq (tgt := 36) hx hb dX11_pour_26 (by decide) (fun c33 => ?_) (fun c33 => ?_)
    · skip
      have k34 := iv_eq (X := r31.toInt) (Y := (0)) rfl (by decide) c33
      refine lv_aload_n hx hb dX11_pour_36 rfl (lv_at hl 0 rfl) ?_
      obtain ⟨a35, a38, a40, a42, a44, a46, a48, a50, a52, a54, a56, w58, w59, w60, w61, hO, hq36, hq37, hq39, hq41, hq43, hq45, hq47, hq49, hq51, hq53, hq55, hq57⟩ := op_15 hI hG0 List.not_mem_nil
      have hI := th_I.weak (a := h0) hI
      have k62 : (nI (n % 401)).toInt = ((n % 401 : Nat) : Int) := nI_toInt (by omega)
      refine th_get hx hb hts inT11 hown hK hO rfl 0 (by decide) (hts _ (tb_c wd_345)) rfl rfl dX11_pour_37 ?_
      have hI := th_I.close hI hG0 hO (ok_15 hq36 hq37 hq39 hq41 hq43 hq45 hq47 hq49 hq51 hq53 hq55 hq57)
      obtain ⟨a63, a65, a67, a69, a71, a73, a75, a77, a79, a81, w83, w86, w87, w88, hO, hq64, hq66, hq68, hq70, hq72, hq74, hq76, hq78, hq80, hq82, ⟨k84, k85⟩⟩ := op_6 hI hq36 List.not_mem_nil
      have hI := th_I.weak (a := a35) hI
      refine th_getN hx hb hts inT6 hown hK hN hO rfl 5 (by decide) wn_71 rfl rfl dX11_pour_40 ?_
      have hI := th_I.close hI hq36 hO (ok_6 hq64 hq66 hq68 hq70 hq72 hq74 hq76 hq78 hq80 hq82 ⟨by omega, by omega⟩)
      obtain ⟨a90, w92, hO, hq91, ⟨k93, k94⟩, k95⟩ := op_4 hI hq74 List.not_mem_nil
      have hI := th_I.weak (a := a73) hI
      have k96 : (nI 16).toInt = ((16 : Nat) : Int) := nI_toInt (by omega)
      refine th_cVs (As := []) (rest := []) (n := 0) (d := 0) ⟨hx, hb, hml, hown, hts⟩ (c_X4_isFull l E D H a73 16 a90 w92 hO (by omega) (by omega) (by omega)) wd_481 wd_482 wd_483 wd_3 wd_484 (by decide +kernel) ⟨by rw [hR]; exact Nat.le_of_ble_eq_true rfl, by rw [hR]; exact Nat.le_of_ble_eq_true rfl⟩ hN hK hS ⟨_, hO⟩ rfl rfl hl.1 rfl (Nat.le_of_ble_eq_true rfl) dX11_pour_43 ⟨Nat.zero_le _, Nat.zero_le _⟩ (fun r89 locs hp hS => ?_)
      rcases hp with ⟨rfl, hp⟩ | ⟨rfl, hp⟩
      · skip
        try simp only [rg, not_and, Int.not_le] at hp
        have hp97 := hp
        refine lv_if_eq (tgt := 56) hx hb dX11_pour_46 (by decide) (fun c => absurd c (by decide)) (fun _ => ?_)
        refine lv_aload_n hx hb dX11_pour_49 rfl (lv_at hl 0 rfl) ?_
        refine lv_bipush (v := (-5)) hx hb dX11_pour_50 (by decide) ?_
        have hI := th_I.close hI hq74 hO (ok_4 hq91 ⟨by omega, by omega⟩ (by omega))
        refine th_cVi (As := [.int (-5)]) (rest := []) (n := 1) (d := 0) ⟨hx, hb, hml, hown, hts⟩ (c_X11_refuse l E D G h0 (n) hG0 (-5)) wd_407 wd_409 wp_0 wd_1 wd_410 (by decide +kernel) ⟨by rw [hR]; exact Nat.le_of_ble_eq_true rfl, by rw [hR]; exact Nat.le_of_ble_eq_true rfl⟩ hI hN hK hS (rc_15 hI hG0 List.not_mem_nil) rfl rfl hl.1 rfl (Nat.le_of_ble_eq_true rfl) dX11_pour_52 ⟨Nat.zero_le _, Nat.zero_le _⟩ (fun r98 H locs hp hI hS => ?_)
        have hp := hp.symm
        subst hp
        have hpost : True := trivial
        rw [hQ]
        exact W.iret (v := (-5)) hx hb hr (fun t ht hW => ⟨⟨(-5), (), rfl, hpost, by rw [ht]; exact hI, hN.warm hW, va_K.moved hW.alike hK⟩, hS.F ht⟩) hS.2.2 dX11_pour_55
      · skip
        have hp99 := hp
        refine lv_if_eq (tgt := 56) hx hb dX11_pour_46 (by decide) (fun _ => ?_) (fun c => absurd c (by decide))
        refine lv_aload_n hx hb dX11_pour_56 rfl (lv_at hl 0 rfl) ?_
        have hI := th_I.close hI hq74 hO (ok_4 hq91 ⟨by omega, by omega⟩ (by omega))
        refine th_cVv (As := []) (rest := []) (n := 0) (d := 1) ⟨hx, hb, hml, hown, hts⟩ (c_X11_turnLists l E D G h0 (n) hG0 ) wd_431 wd_433 wp_2 wd_1 wd_434 (by decide +kernel) ⟨by rw [hR]; exact Nat.le_of_ble_eq_true rfl, by rw [hR]; exact Nat.le_of_ble_eq_true rfl⟩ hI hN hK hS (rc_15 hI hG0 List.not_mem_nil) rfl rfl hl.1 rfl (Nat.le_of_ble_eq_true rfl) dX11_pour_57 ⟨Nat.zero_le _, Nat.zero_le _⟩ (fun H locs hI hS => ?_)
        refine lv_aload_n hx hb dX11_pour_60 rfl (lv_at hl 0 rfl) ?_
        refine lv_aload_n hx hb dX11_pour_61 rfl (lv_at hl 0 rfl) ?_
        obtain ⟨a101, a104, a106, a108, a110, a112, a114, a116, a118, a120, a122, w124, w125, w126, w127, hO, hq102, hq103, hq105, hq107, hq109, hq111, hq113, hq115, hq117, hq119, hq121, hq123⟩ := op_15 hI hG0 List.not_mem_nil
        have hI := th_I.weak (a := h0) hI
        have k128 : (nI (n % 401)).toInt = ((n % 401 : Nat) : Int) := nI_toInt (by omega)
        refine th_get hx hb hts inT11 hown hK hO rfl 0 (by decide) (hts _ (tb_c wd_345)) rfl rfl dX11_pour_62 ?_
        have hI := th_I.close hI hG0 hO (ok_15 hq102 hq103 hq105 hq107 hq109 hq111 hq113 hq115 hq117 hq119 hq121 hq123)
        obtain ⟨a129, a131, a133, a135, a137, a139, a141, a143, a145, a147, w149, w152, w153, w154, hO, hq130, hq132, hq134, hq136, hq138, hq140, hq142, hq144, hq146, hq148, ⟨k150, k151⟩⟩ := op_6 hI hq102 List.not_mem_nil
        have hI := th_I.weak (a := a101) hI
        refine th_getN hx hb hts inT6 hown hK hN hO rfl 5 (by decide) wn_71 rfl rfl dX11_pour_65 ?_
        refine lv_iload_n hx hb dX11_pour_68 rfl (lv_at hl 1 rfl) ?_
        refine lv_iload_n hx hb dX11_pour_69 rfl (lv_at hl 2 rfl) ?_
        refine lv_iload_n hx hb dX11_pour_70 rfl (lv_at hl 3 rfl) ?_
        refine lv_iload hx hb dX11_pour_71 (lv_at hl 4 rfl) ?_
        have hI := th_I.close hI hq102 hO (ok_6 hq130 hq132 hq134 hq136 hq138 hq140 hq142 hq144 hq146 hq148 ⟨by omega, by omega⟩)
        refine th_cVi (As := [.int x1, .int x2, .int x3, .int x4]) (rest := [.ref h0]) (n := 4) (d := 1) ⟨hx, hb, hml, hown, hts⟩ (c_X4_put l E D G a139 (16) hq140 x1 x2 x3 x4) wd_485 wd_486 wd_487 wd_3 wd_488 (by decide +kernel) ⟨by rw [hR]; exact Nat.le_of_ble_eq_true rfl, by rw [hR]; exact Nat.le_of_ble_eq_true rfl⟩ hI hN hK hS (rc_4 hI hq140 List.not_mem_nil) rfl rfl hl.1 rfl (Nat.le_of_ble_eq_true rfl) dX11_pour_73 ⟨Nat.zero_le _, Nat.zero_le _⟩ (fun r155 H locs hp hI hS => ?_)
        refine th_cVi (As := [.int r155]) (rest := []) (n := 1) (d := 0) ⟨hx, hb, hml, hown, hts⟩ (c_X11_accept l E D G h0 (n) hG0 r155) wd_447 wd_449 wp_3 wd_1 wd_450 (by decide +kernel) ⟨by rw [hR]; exact Nat.le_of_ble_eq_true rfl, by rw [hR]; exact Nat.le_of_ble_eq_true rfl⟩ hI hN hK hS (rc_15 hI hG0 List.not_mem_nil) rfl rfl hl.1 rfl (Nat.le_of_ble_eq_true rfl) dX11_pour_76 ⟨Nat.zero_le _, Nat.zero_le _⟩ (fun r156 H locs hp hI hS => ?_)
        have hp := hp.symm
        subst hp
        have hpost : True := trivial
        rw [hQ]
        exact W.iret (v := r155) hx hb hr (fun t ht hW => ⟨⟨r155, (), rfl, hpost, by rw [ht]; exact hI, hN.warm hW, va_K.moved hW.alike hK⟩, hS.F ht⟩) hS.2.2 dX11_pour_79
    · skip
      have k157 := iv_ne (X := r31.toInt) (Y := (0)) rfl (by decide) c33
      refine lv_aload_n hx hb dX11_pour_29 rfl (lv_at hl 0 rfl) ?_
      refine lv_bipush (v := (-3)) hx hb dX11_pour_30 (by decide) ?_
      refine th_cVi (As := [.int (-3)]) (rest := []) (n := 1) (d := 0) ⟨hx, hb, hml, hown, hts⟩ (c_X11_refuse l E D G h0 (n) hG0 (-3)) wd_407 wd_409 wp_0 wd_1 wd_410 (by decide +kernel) ⟨by rw [hR]; exact Nat.le_of_ble_eq_true rfl, by rw [hR]; exact Nat.le_of_ble_eq_true rfl⟩ hI hN hK hS (rc_15 hI hG0 List.not_mem_nil) rfl rfl hl.1 rfl (Nat.le_of_ble_eq_true rfl) dX11_pour_32 ⟨Nat.zero_le _, Nat.zero_le _⟩ (fun r158 H locs hp hI hS => ?_)
      have hp := hp.symm
      subst hp
      have hpost : True := trivial
      rw [hQ]
      exact W.iret (v := (-3)) hx hb hr (fun t ht hW => ⟨⟨(-3), (), rfl, hpost, by rw [ht]; exact hI, hN.warm hW, va_K.moved hW.alike hK⟩, hS.F ht⟩) hS.2.2 dX11_pour_35
  · skip
    try simp only [rg, not_and, Int.not_le] at hp
    have hp159 := hp
    refine lv_if_ne (tgt := 17) hx hb dX11_pour_8 (by decide) (fun c => absurd c (by decide)) (fun _ => ?_)
    refine lv_aload_n hx hb dX11_pour_11 rfl (lv_at hl 0 rfl) ?_
    refine lv_iconst (v := (-1)) hx hb dX11_pour_12 (by decide) ?_
    refine th_cVi (As := [.int (-1)]) (rest := []) (n := 1) (d := 0) ⟨hx, hb, hml, hown, hts⟩ (c_X11_refuse l E D G h0 (n) hG0 (-1)) wd_407 wd_409 wp_0 wd_1 wd_410 (by decide +kernel) ⟨by rw [hR]; exact Nat.le_of_ble_eq_true rfl, by rw [hR]; exact Nat.le_of_ble_eq_true rfl⟩ hI hN hK hS (rc_15 hI hG0 List.not_mem_nil) rfl rfl hl.1 rfl (Nat.le_of_ble_eq_true rfl) dX11_pour_13 ⟨Nat.zero_le _, Nat.zero_le _⟩ (fun r160 H locs hp hI hS => ?_)
    have hp := hp.symm
    subst hp
    have hpost : True := trivial
    rw [hQ]
    exact W.iret (v := (-1)) hx hb hr (fun t ht hW => ⟨⟨(-1), (), rfl, hpost, by rw [ht]; exact hI, hN.warm hW, va_K.moved hW.alike hK⟩, hS.F ht⟩) hS.2.2 dX11_pour_16
theorem dX11_undo_0 : decode cX11_undo 0 = .ok (.aload_n 0, 1) := by decide +kernel
theorem dX11_undo_1 : decode cX11_undo 1 = .ok (.getfield 12, 3) := by decide +kernel
theorem dX11_undo_4 : decode cX11_undo 4 = .ok (.getfield 266, 3) := by decide +kernel
theorem dX11_undo_7 : decode cX11_undo 7 = .ok (.invokevirtual 166, 3) := by decide +kernel
theorem dX11_undo_10 : decode cX11_undo 10 = .ok (.istore_n 1, 1) := by decide +kernel
theorem dX11_undo_11 : decode cX11_undo 11 = .ok (.iload_n 1, 1) := by decide +kernel
theorem dX11_undo_12 : decode cX11_undo 12 = .ok (.ifCond .ne 10, 3) := by decide +kernel
theorem dX11_undo_15 : decode cX11_undo 15 = .ok (.aload_n 0, 1) := by decide +kernel
theorem dX11_undo_16 : decode cX11_undo 16 = .ok (.bipush (-3), 2) := by decide +kernel
theorem dX11_undo_18 : decode cX11_undo 18 = .ok (.invokevirtual 113, 3) := by decide +kernel
theorem dX11_undo_21 : decode cX11_undo 21 = .ok (.ireturn, 1) := by decide +kernel
theorem dX11_undo_22 : decode cX11_undo 22 = .ok (.aload_n 0, 1) := by decide +kernel
theorem dX11_undo_23 : decode cX11_undo 23 = .ok (.getfield 12, 3) := by decide +kernel
theorem dX11_undo_26 : decode cX11_undo 26 = .ok (.getfield 266, 3) := by decide +kernel
theorem dX11_undo_29 : decode cX11_undo 29 = .ok (.iload_n 1, 1) := by decide +kernel
theorem dX11_undo_30 : decode cX11_undo 30 = .ok (.iconst 1, 1) := by decide +kernel
theorem dX11_undo_31 : decode cX11_undo 31 = .ok (.isub, 1) := by decide +kernel
theorem dX11_undo_32 : decode cX11_undo 32 = .ok (.invokevirtual 162, 3) := by decide +kernel
theorem dX11_undo_35 : decode cX11_undo 35 = .ok (.aload_n 0, 1) := by decide +kernel
theorem dX11_undo_36 : decode cX11_undo 36 = .ok (.invokevirtual 191, 3) := by decide +kernel
theorem dX11_undo_39 : decode cX11_undo 39 = .ok (.aload_n 0, 1) := by decide +kernel
theorem dX11_undo_40 : decode cX11_undo 40 = .ok (.iload_n 1, 1) := by decide +kernel
theorem dX11_undo_41 : decode cX11_undo 41 = .ok (.iconst 1, 1) := by decide +kernel
theorem dX11_undo_42 : decode cX11_undo 42 = .ok (.isub, 1) := by decide +kernel
theorem dX11_undo_43 : decode cX11_undo 43 = .ok (.invokevirtual 127, 3) := by decide +kernel
theorem dX11_undo_46 : decode cX11_undo 46 = .ok (.ireturn, 1) := by decide +kernel
set_option maxHeartbeats 4000000 in
set_option maxRecDepth 100000 in
theorem c_X11_undo (l : Launch) (E : Nat → ClassId) (D : va_G) (G : th_G) (h0 n : Nat) (hG0 : G h0 = some (15, n)) : Met l yX11_undo (tb (.code yX11_undo cX11_undo 2 (some .int))) (rm 2) (va_Pc [.ref h0] (th_P E D G)) (QI E D G (fun r => True)) 0 0 (th_A G) := by
  refine Met.ofW (cc := cX11_undo) (maxL := 2) (ret := (some .int)) (by decide) rfl ?_
  intro p e s m args below meth c s₁ B hml hv
  obtain ⟨hav, hI, hN, hK⟩ := hv
  have hx := B.exec
  have hb := B.bytes
  have hr := B.returns
  have hts := atoms_spec (ws := tb (.code yX11_undo cX11_undo 2 (some .int))) B.pre
  have hown : s.vm.findClass RX11 = some m.cls := findClass_of_methodNamed B.named
  have hlocks := B.notSynchronized
  have hS : va_S (th_A G) s.heap s.heap [] := va_S.rf
  have hl := lv_entry ([.ref h0]) (n := 2) (Nat.le_of_ble_eq_true rfl)
  rw [show entryFrame m args 2 = entryFrame m ([.ref h0] : List Value).toArray 2 from by rw [hav], lg_entry_eq]
  generalize (lg_sl ([.ref h0]) ++ List.replicate (2 - (lg_sl ([.ref h0])).length) Slot.unset).toArray = ls at hl ⊢
  have hl : lv_has ls 2 [(0, .ref h0)] := hl
  generalize hR : (headSpec (tb (.code yX11_undo cX11_undo 2 (some .int))) (rm 2)).room = R
  have hR := hR.symm
  generalize hQ : MQ below (QI E D G (fun r => True)) args s 0 0 (th_A G) = QF
  have hQ := hQ.symm
  refine lv_aload_n hx hb dX11_undo_0 rfl (lv_at hl 0 rfl) ?_
  obtain ⟨a1, a4, a6, a8, a10, a12, a14, a16, a18, a20, a22, w24, w25, w26, w27, hO, hq2, hq3, hq5, hq7, hq9, hq11, hq13, hq15, hq17, hq19, hq21, hq23⟩ := op_15 hI hG0 List.not_mem_nil
  have hI := th_I.weak (a := h0) hI
  have k28 : (nI (n % 401)).toInt = ((n % 401 : Nat) : Int) := nI_toInt (by omega)
  refine th_get hx hb hts inT11 hown hK hO rfl 0 (by decide) (hts _ (tb_c wd_345)) rfl rfl dX11_undo_1 ?_
  have hI := th_I.close hI hG0 hO (ok_15 hq2 hq3 hq5 hq7 hq9 hq11 hq13 hq15 hq17 hq19 hq21 hq23)
  obtain ⟨a29, a31, a33, a35, a37, a39, a41, a43, a45, a47, w49, w52, w53, w54, hO, hq30, hq32, hq34, hq36, hq38, hq40, hq42, hq44, hq46, hq48, ⟨k50, k51⟩⟩ := op_6 hI hq2 List.not_mem_nil
  have hI := th_I.weak (a := a1) hI
  refine th_getN hx hb hts inT6 hown hK hN hO rfl 5 (by decide) wn_71 rfl rfl dX11_undo_4 ?_
  have hI := th_I.close hI hq2 hO (ok_6 hq30 hq32 hq34 hq36 hq38 hq40 hq42 hq44 hq46 hq48 ⟨by omega, by omega⟩)
  obtain ⟨a56, w58, hO, hq57, ⟨k59, k60⟩, k61⟩ := op_4 hI hq40 List.not_mem_nil
  have hI := th_I.weak (a := a39) hI
  have k62 : (nI 16).toInt = ((16 : Nat) : Int) := nI_toInt (by omega)
  refine th_cVs (As := []) (rest := []) (n := 0) (d := 0) ⟨hx, hb, hml, hown, hts⟩ (c_X4_size l E D s.heap a39 16 a56 w58 hO (by omega) (by omega) (by omega)) wd_506 wd_507 wd_508 wd_3 wd_509 (by decide +kernel) ⟨by rw [hR]; exact Nat.le_of_ble_eq_true rfl, by rw [hR]; exact Nat.le_of_ble_eq_true rfl⟩ hN hK hS ⟨_, hO⟩ rfl rfl hl.1 rfl (Nat.le_of_ble_eq_true rfl) dX11_undo_7 ⟨Nat.zero_le _, Nat.zero_le _⟩ (fun r55 locs hp hS => ?_)
  have hp := hp.symm
  subst hp
  refine lv_istore_n (lv' := [(1, .int w58), (0, .ref h0)]) hx hb dX11_undo_10 rfl hl (by decide) rfl (fun ls hl => ?_)
  refine lv_iload_n hx hb dX11_undo_11 rfl (lv_at hl 0 rfl) ?_
  refine lv_if_ne (tgt := 22) hx hb dX11_undo_12 (by decide) (fun c63 => ?_) (fun c63 => ?_)
  · skip
    have k64 := iv_ne (X := w58.toInt) (Y := (0)) rfl (by decide) c63
    refine lv_aload_n hx hb dX11_undo_22 rfl (lv_at hl 1 rfl) ?_
    have hI := th_I.close hI hq40 hO (ok_4 hq57 ⟨by omega, by omega⟩ (by omega))
    obtain ⟨a65, a68, a70, a72, a74, a76, a78, a80, a82, a84, a86, w88, w89, w90, w91, hO, hq66, hq67, hq69, hq71, hq73, hq75, hq77, hq79, hq81, hq83, hq85, hq87⟩ := op_15 hI hG0 List.not_mem_nil
    have hI := th_I.weak (a := h0) hI
    have k92 : (nI (n % 401)).toInt = ((n % 401 : Nat) : Int) := nI_toInt (by omega)
    refine th_get hx hb hts inT11 hown hK hO rfl 0 (by decide) (hts _ (tb_c wd_345)) rfl rfl dX11_undo_23 ?_
    have hI := th_I.close hI hG0 hO (ok_15 hq66 hq67 hq69 hq71 hq73 hq75 hq77 hq79 hq81 hq83 hq85 hq87)
    obtain ⟨a93, a95, a97, a99, a101, a103, a105, a107, a109, a111, w113, w116, w117, w118, hO, hq94, hq96, hq98, hq100, hq102, hq104, hq106, hq108, hq110, hq112, ⟨k114, k115⟩⟩ := op_6 hI hq66 List.not_mem_nil
    have hI := th_I.weak (a := a65) hI
    refine th_getN hx hb hts inT6 hown hK hN hO rfl 5 (by decide) wn_71 rfl rfl dX11_undo_26 ?_
    refine lv_iload_n hx hb dX11_undo_29 rfl (lv_at hl 0 rfl) ?_
    refine lv_iconst (v := 1) hx hb dX11_undo_30 (by decide) ?_
    refine lv_isub hx hb dX11_undo_31 ?_
    refine lv_topi (fun v119 e120 => ?_)
    have tv119 : v119.toInt = w58.toInt - (1) := iv_sub rfl (by decide) e120 (by omega) (by omega)
    have hI := th_I.close hI hq66 hO (ok_6 hq94 hq96 hq98 hq100 hq102 hq104 hq106 hq108 hq110 hq112 ⟨by omega, by omega⟩)
    refine th_cVv (As := [.int v119]) (rest := []) (n := 1) (d := 1) ⟨hx, hb, hml, hown, hts⟩ (c_X4_takeOut l E D G a103 (16) hq104 v119) wd_498 wd_499 wd_500 wd_3 wd_501 (by decide +kernel) ⟨by rw [hR]; exact Nat.le_of_ble_eq_true rfl, by rw [hR]; exact Nat.le_of_ble_eq_true rfl⟩ hI hN hK hS (rc_4 hI hq104 List.not_mem_nil) rfl rfl hl.1 rfl (Nat.le_of_ble_eq_true rfl) dX11_undo_32 ⟨Nat.zero_le _, Nat.zero_le _⟩ (fun H locs hI hS => ?_)
    refine lv_aload_n hx hb dX11_undo_35 rfl (lv_at hl 1 rfl) ?_
    refine th_cVv (As := []) (rest := []) (n := 0) (d := 1) ⟨hx, hb, hml, hown, hts⟩ (c_X11_turnLists l E D G h0 (n) hG0 ) wd_431 wd_433 wp_2 wd_1 wd_434 (by decide +kernel) ⟨by rw [hR]; exact Nat.le_of_ble_eq_true rfl, by rw [hR]; exact Nat.le_of_ble_eq_true rfl⟩ hI hN hK hS (rc_15 hI hG0 List.not_mem_nil) rfl rfl hl.1 rfl (Nat.le_of_ble_eq_true rfl) dX11_undo_36 ⟨Nat.zero_le _, Nat.zero_le _⟩ (fun H locs hI hS => ?_)
    refine lv_aload_n hx hb dX11_undo_39 rfl (lv_at hl 1 rfl) ?_
    refine lv_iload_n hx hb dX11_undo_40 rfl (lv_at hl 0 rfl) ?_
    refine lv_iconst (v := 1) hx hb dX11_undo_41 (by decide) ?_
    refine lv_isub hx hb dX11_undo_42 ?_
    refine lv_topi (fun v123 e124 => ?_)
    have tv123 : v123.toInt = w58.toInt - (1) := iv_sub rfl (by decide) e124 (by omega) (by omega)
    refine th_cVi (As := [.int v123]) (rest := []) (n := 1) (d := 0) ⟨hx, hb, hml, hown, hts⟩ (c_X11_accept l E D G h0 (n) hG0 v123) wd_447 wd_449 wp_3 wd_1 wd_450 (by decide +kernel) ⟨by rw [hR]; exact Nat.le_of_ble_eq_true rfl, by rw [hR]; exact Nat.le_of_ble_eq_true rfl⟩ hI hN hK hS (rc_15 hI hG0 List.not_mem_nil) rfl rfl hl.1 rfl (Nat.le_of_ble_eq_true rfl) dX11_undo_43 ⟨Nat.zero_le _, Nat.zero_le _⟩ (fun r125 H locs hp hI hS => ?_)
    have hp := hp.symm
    subst hp
    have hpost : True := trivial
    rw [hQ]
    exact W.iret (v := v123) hx hb hr (fun t ht hW => ⟨⟨v123, (), rfl, hpost, by rw [ht]; exact hI, hN.warm hW, va_K.moved hW.alike hK⟩, hS.F ht⟩) hS.2.2 dX11_undo_46
  · skip
    have k126 := iv_eq (X := w58.toInt) (Y := (0)) rfl (by decide) c63
    refine lv_aload_n hx hb dX11_undo_15 rfl (lv_at hl 1 rfl) ?_
    refine lv_bipush (v := (-3)) hx hb dX11_undo_16 (by decide) ?_
    have hI := th_I.close hI hq40 hO (ok_4 hq57 ⟨by omega, by omega⟩ (by omega))
    refine th_cVi (As := [.int (-3)]) (rest := []) (n := 1) (d := 0) ⟨hx, hb, hml, hown, hts⟩ (c_X11_refuse l E D G h0 (n) hG0 (-3)) wd_407 wd_409 wp_0 wd_1 wd_410 (by decide +kernel) ⟨by rw [hR]; exact Nat.le_of_ble_eq_true rfl, by rw [hR]; exact Nat.le_of_ble_eq_true rfl⟩ hI hN hK hS (rc_15 hI hG0 List.not_mem_nil) rfl rfl hl.1 rfl (Nat.le_of_ble_eq_true rfl) dX11_undo_18 ⟨Nat.zero_le _, Nat.zero_le _⟩ (fun r127 H locs hp hI hS => ?_)
    have hp := hp.symm
    subst hp
    have hpost : True := trivial
    rw [hQ]
    exact W.iret (v := (-3)) hx hb hr (fun t ht hW => ⟨⟨(-3), (), rfl, hpost, by rw [ht]; exact hI, hN.warm hW, va_K.moved hW.alike hK⟩, hS.F ht⟩) hS.2.2 dX11_undo_21
theorem dX11_dye_0 : decode cX11_dye 0 = .ok (.iload_n 1, 1) := by decide +kernel
theorem dX11_dye_1 : decode cX11_dye 1 = .ok (.invokestatic 240, 3) := by decide +kernel
theorem dX11_dye_4 : decode cX11_dye 4 = .ok (.ifCond .eq 30, 3) := by decide +kernel
theorem dX11_dye_7 : decode cX11_dye 7 = .ok (.iload_n 2, 1) := by decide +kernel
theorem dX11_dye_8 : decode cX11_dye 8 = .ok (.invokestatic 226, 3) := by decide +kernel
theorem dX11_dye_11 : decode cX11_dye 11 = .ok (.ifCond .eq 23, 3) := by decide +kernel
theorem dX11_dye_14 : decode cX11_dye 14 = .ok (.iload_n 3, 1) := by decide +kernel
theorem dX11_dye_15 : decode cX11_dye 15 = .ok (.invokestatic 269, 3) := by decide +kernel
theorem dX11_dye_18 : decode cX11_dye 18 = .ok (.ifCond .eq 16, 3) := by decide +kernel
theorem dX11_dye_21 : decode cX11_dye 21 = .ok (.aload_n 0, 1) := by decide +kernel
theorem dX11_dye_22 : decode cX11_dye 22 = .ok (.getfield 60, 3) := by decide +kernel
theorem dX11_dye_25 : decode cX11_dye 25 = .ok (.iload_n 1, 1) := by decide +kernel
theorem dX11_dye_26 : decode cX11_dye 26 = .ok (.iload_n 2, 1) := by decide +kernel
theorem dX11_dye_27 : decode cX11_dye 27 = .ok (.iload_n 3, 1) := by decide +kernel
theorem dX11_dye_28 : decode cX11_dye 28 = .ok (.invokevirtual 272, 3) := by decide +kernel
theorem dX11_dye_31 : decode cX11_dye 31 = .ok (.goto 4, 3) := by decide +kernel
theorem dX11_dye_34 : decode cX11_dye 34 = .ok (.iconst (-1), 1) := by decide +kernel
theorem dX11_dye_35 : decode cX11_dye 35 = .ok (.ireturn, 1) := by decide +kernel
set_option maxHeartbeats 4000000 in
set_option maxRecDepth 100000 in
theorem c_X11_dye (l : Launch) (E : Nat → ClassId) (D : va_G) (G : th_G) (h0 n : Nat) (hG0 : G h0 = some (15, n)) (x1 x2 x3 : Int32) : Met l yX11_dye (tb (.code yX11_dye cX11_dye 4 (some .int))) (rm 8) (va_Pc [.ref h0, .int x1, .int x2, .int x3] (th_P E D G)) (QI E D G (fun r => True)) 0 0 (th_A G) := by
  refine Met.ofW (cc := cX11_dye) (maxL := 4) (ret := (some .int)) (by decide) rfl ?_
  intro p e s m args below meth c s₁ B hml hv
  obtain ⟨hav, hI, hN, hK⟩ := hv
  have hx := B.exec
  have hb := B.bytes
  have hr := B.returns
  have hts := atoms_spec (ws := tb (.code yX11_dye cX11_dye 4 (some .int))) B.pre
  have hown : s.vm.findClass RX11 = some m.cls := findClass_of_methodNamed B.named
  have hlocks := B.notSynchronized
  have hS : va_S (th_A G) s.heap s.heap [] := va_S.rf
  have hl := lv_entry ([.ref h0, .int x1, .int x2, .int x3]) (n := 4) (Nat.le_of_ble_eq_true rfl)
  rw [show entryFrame m args 4 = entryFrame m ([.ref h0, .int x1, .int x2, .int x3] : List Value).toArray 4 from by rw [hav], lg_entry_eq]
  generalize (lg_sl ([.ref h0, .int x1, .int x2, .int x3]) ++ List.replicate (4 - (lg_sl ([.ref h0, .int x1, .int x2, .int x3])).length) Slot.unset).toArray = ls at hl ⊢
  have hl : lv_has ls 4 [(0, .ref h0), (1, .int x1), (2, .int x2), (3, .int x3)] := hl
  generalize hR : (headSpec (tb (.code yX11_dye cX11_dye 4 (some .int))) (rm 8)).room = R
  have hR := hR.symm
  generalize hQ : MQ below (QI E D G (fun r => True)) args s 0 0 (th_A G) = QF
  have hQ := hQ.symm
  refine lv_iload_n hx hb dX11_dye_0 rfl (lv_at hl 1 rfl) ?_
  refine th_cSs (As := [.int x1]) (rest := []) (n := 1) (d := 0) ⟨hx, hb, hml, hown, hts⟩ (c_X11_isPlace l s.heap x1) wd_847 wd_848 wd_1 wd_849 (by decide +kernel) ⟨by rw [hR]; exact Nat.le_of_ble_eq_true rfl, by rw [hR]; exact Nat.le_of_ble_eq_true rfl⟩ hN hS rfl hl.1 rfl (Nat.le_of_ble_eq_true rfl) dX11_dye_1 ⟨Nat.zero_le _, Nat.zero_le _⟩ (fun r1 locs hp hS => ?_)
  rcases hp with ⟨rfl, hp⟩ | ⟨rfl, hp⟩
  · skip
    try simp only [rg, not_and, Int.not_le] at hp
    have hp2 := hp
    refine lv_if_eq (tgt := 34) hx hb dX11_dye_4 (by decide) (fun c => absurd c (by decide)) (fun _ => ?_)
    refine lv_iload_n hx hb dX11_dye_7 rfl (lv_at hl 2 rfl) ?_
    refine th_cSs (As := [.int x2]) (rest := []) (n := 1) (d := 0) ⟨hx, hb, hml, hown, hts⟩ (c_X11_isMoment l s.heap x2) wd_826 wd_827 wd_1 wd_828 (by decide +kernel) ⟨by rw [hR]; exact Nat.le_of_ble_eq_true rfl, by rw [hR]; exact Nat.le_of_ble_eq_true rfl⟩ hN hS rfl hl.1 rfl (Nat.le_of_ble_eq_true rfl) dX11_dye_8 ⟨Nat.zero_le _, Nat.zero_le _⟩ (fun r3 locs hp hS => ?_)
    rcases hp with ⟨rfl, hp⟩ | ⟨rfl, hp⟩
    · skip
      try simp only [rg, not_and, Int.not_le] at hp
      have hp4 := hp
      refine lv_if_eq (tgt := 34) hx hb dX11_dye_11 (by decide) (fun c => absurd c (by decide)) (fun _ => ?_)
      refine lv_iload_n hx hb dX11_dye_14 rfl (lv_at hl 3 rfl) ?_
      refine th_cSs (As := [.int x3]) (rest := []) (n := 1) (d := 0) ⟨hx, hb, hml, hown, hts⟩ (c_X11_isColour l s.heap x3) wd_620 wd_621 wd_1 wd_622 (by decide +kernel) ⟨by rw [hR]; exact Nat.le_of_ble_eq_true rfl, by rw [hR]; exact Nat.le_of_ble_eq_true rfl⟩ hN hS rfl hl.1 rfl (Nat.le_of_ble_eq_true rfl) dX11_dye_15 ⟨Nat.zero_le _, Nat.zero_le _⟩ (fun r5 locs hp hS => ?_)
      rcases hp with ⟨rfl, hp⟩ | ⟨rfl, hp⟩
      · skip
        try simp only [rg, not_and, Int.not_le] at hp
        have hp6 := hp
        refine lv_if_eq (tgt := 34) hx hb dX11_dye_18 (by decide) (fun c => absurd c (by decide)) (fun _ => ?_)
        refine lv_aload_n hx hb dX11_dye_21 rfl (lv_at hl 0 rfl) ?_
        obtain ⟨a7, a10, a12, a14, a16, a18, a20, a22, a24, a26, a28, w30, w31, w32, w33, hO, hq8, hq9, hq11, hq13, hq15, hq17, hq19, hq21, hq23, hq25, hq27, hq29⟩ := op_15 hI hG0 List.not_mem_nil
        have hI := th_I.weak (a := h0) hI
        have k34 : (nI (n % 401)).toInt = ((n % 401 : Nat) : Int) := nI_toInt (by omega)
        refine th_get hx hb hts inT11 hown hK hO rfl 8 (by decide) (hts _ (tb_c wd_353)) rfl rfl dX11_dye_22 ?_
        refine lv_iload_n hx hb dX11_dye_25 rfl (lv_at hl 1 rfl) ?_
        refine lv_iload_n hx hb dX11_dye_26 rfl (lv_at hl 2 rfl) ?_
        refine lv_iload_n hx hb dX11_dye_27 rfl (lv_at hl 3 rfl) ?_
        have hI := th_I.close hI hG0 hO (ok_15 hq8 hq9 hq11 hq13 hq15 hq17 hq19 hq21 hq23 hq25 hq27 hq29)
        refine th_cVi (As := [.int x1, .int x2, .int x3]) (rest := []) (n := 3) (d := 7) ⟨hx, hb, hml, hown, hts⟩ (c_X1_amountAt l E D G a22 hq23 x1 x2 x3) wd_916 wd_917 wd_918 wd_9 wd_919 (by decide +kernel) ⟨by rw [hR]; exact Nat.le_of_ble_eq_true rfl, by rw [hR]; exact Nat.le_of_ble_eq_true rfl⟩ hI hN hK hS (rc_11 hI hq23 List.not_mem_nil) rfl rfl hl.1 rfl (Nat.le_of_ble_eq_true rfl) dX11_dye_28 ⟨Nat.zero_le _, Nat.zero_le _⟩ (fun r35 H locs hp hI hS => ?_)
        refine lv_goto (tgt := 35) hx hb dX11_dye_31 (by decide) ?_
        have hpost : True := trivial
        rw [hQ]
        exact W.iret (v := r35) hx hb hr (fun t ht hW => ⟨⟨r35, (), rfl, hpost, by rw [ht]; exact hI, hN.warm hW, va_K.moved hW.alike hK⟩, hS.F ht⟩) hS.2.2 dX11_dye_35
      · skip
        try simp only [rg, not_and, Int.not_le] at hp
        have hp36 := hp
        refine lv_if_eq (tgt := 34) hx hb dX11_dye_18 (by decide) (fun _ => ?_) (fun c => absurd c (by decide))
        refine lv_iconst (v := (-1)) hx hb dX11_dye_34 (by decide) ?_
        have hpost : True := trivial
        rw [hQ]
        exact W.iret (v := (-1)) hx hb hr (fun t ht hW => ⟨⟨(-1), (), rfl, hpost, by rw [ht]; exact hI, hN.warm hW, va_K.moved hW.alike hK⟩, hS.F ht⟩) hS.2.2 dX11_dye_35
    · skip
      try simp only [rg, not_and, Int.not_le] at hp
      have hp37 := hp
      refine lv_if_eq (tgt := 34) hx hb dX11_dye_11 (by decide) (fun _ => ?_) (fun c => absurd c (by decide))
      refine lv_iconst (v := (-1)) hx hb dX11_dye_34 (by decide) ?_
      have hpost : True := trivial
      rw [hQ]
      exact W.iret (v := (-1)) hx hb hr (fun t ht hW => ⟨⟨(-1), (), rfl, hpost, by rw [ht]; exact hI, hN.warm hW, va_K.moved hW.alike hK⟩, hS.F ht⟩) hS.2.2 dX11_dye_35
  · skip
    try simp only [rg, not_and, Int.not_le] at hp
    have hp38 := hp
    refine lv_if_eq (tgt := 34) hx hb dX11_dye_4 (by decide) (fun _ => ?_) (fun c => absurd c (by decide))
    refine lv_iconst (v := (-1)) hx hb dX11_dye_34 (by decide) ?_
    have hpost : True := trivial
    rw [hQ]
    exact W.iret (v := (-1)) hx hb hr (fun t ht hW => ⟨⟨(-1), (), rfl, hpost, by rw [ht]; exact hI, hN.warm hW, va_K.moved hW.alike hK⟩, hS.F ht⟩) hS.2.2 dX11_dye_35
theorem dX11_comes_0 : decode cX11_comes 0 = .ok (.iload_n 1, 1) := by decide +kernel
theorem dX11_comes_1 : decode cX11_comes 1 = .ok (.invokestatic 240, 3) := by decide +kernel
theorem dX11_comes_4 : decode cX11_comes 4 = .ok (.ifCond .eq 30, 3) := by decide +kernel
theorem dX11_comes_7 : decode cX11_comes 7 = .ok (.iload_n 2, 1) := by decide +kernel
theorem dX11_comes_8 : decode cX11_comes 8 = .ok (.invokestatic 269, 3) := by decide +kernel
theorem dX11_comes_11 : decode cX11_comes 11 = .ok (.ifCond .eq 23, 3) := by decide +kernel
theorem dX11_comes_14 : decode cX11_comes 14 = .ok (.iload_n 3, 1) := by decide +kernel
theorem dX11_comes_15 : decode cX11_comes 15 = .ok (.invokestatic 226, 3) := by decide +kernel
theorem dX11_comes_18 : decode cX11_comes 18 = .ok (.ifCond .eq 16, 3) := by decide +kernel
theorem dX11_comes_21 : decode cX11_comes 21 = .ok (.aload_n 0, 1) := by decide +kernel
theorem dX11_comes_22 : decode cX11_comes 22 = .ok (.getfield 60, 3) := by decide +kernel
theorem dX11_comes_25 : decode cX11_comes 25 = .ok (.iload_n 1, 1) := by decide +kernel
theorem dX11_comes_26 : decode cX11_comes 26 = .ok (.iload_n 2, 1) := by decide +kernel
theorem dX11_comes_27 : decode cX11_comes 27 = .ok (.iload_n 3, 1) := by decide +kernel
theorem dX11_comes_28 : decode cX11_comes 28 = .ok (.invokevirtual 275, 3) := by decide +kernel
theorem dX11_comes_31 : decode cX11_comes 31 = .ok (.goto 4, 3) := by decide +kernel
theorem dX11_comes_34 : decode cX11_comes 34 = .ok (.iconst (-1), 1) := by decide +kernel
theorem dX11_comes_35 : decode cX11_comes 35 = .ok (.ireturn, 1) := by decide +kernel
set_option maxHeartbeats 4000000 in
set_option maxRecDepth 100000 in
theorem c_X11_comes (l : Launch) (E : Nat → ClassId) (D : va_G) (G : th_G) (h0 n : Nat) (hG0 : G h0 = some (15, n)) (x1 x2 x3 : Int32) : Met l yX11_comes (tb (.code yX11_comes cX11_comes 4 (some .int))) (rm 8) (va_Pc [.ref h0, .int x1, .int x2, .int x3] (th_P E D G)) (QI E D G (fun r => True)) 0 0 (th_A G) := by
  refine Met.ofW (cc := cX11_comes) (maxL := 4) (ret := (some .int)) (by decide) rfl ?_
  intro p e s m args below meth c s₁ B hml hv
  obtain ⟨hav, hI, hN, hK⟩ := hv
  have hx := B.exec
  have hb := B.bytes
  have hr := B.returns
  have hts := atoms_spec (ws := tb (.code yX11_comes cX11_comes 4 (some .int))) B.pre
  have hown : s.vm.findClass RX11 = some m.cls := findClass_of_methodNamed B.named
  have hlocks := B.notSynchronized
  have hS : va_S (th_A G) s.heap s.heap [] := va_S.rf
  have hl := lv_entry ([.ref h0, .int x1, .int x2, .int x3]) (n := 4) (Nat.le_of_ble_eq_true rfl)
  rw [show entryFrame m args 4 = entryFrame m ([.ref h0, .int x1, .int x2, .int x3] : List Value).toArray 4 from by rw [hav], lg_entry_eq]
  generalize (lg_sl ([.ref h0, .int x1, .int x2, .int x3]) ++ List.replicate (4 - (lg_sl ([.ref h0, .int x1, .int x2, .int x3])).length) Slot.unset).toArray = ls at hl ⊢
  have hl : lv_has ls 4 [(0, .ref h0), (1, .int x1), (2, .int x2), (3, .int x3)] := hl
  generalize hR : (headSpec (tb (.code yX11_comes cX11_comes 4 (some .int))) (rm 8)).room = R
  have hR := hR.symm
  generalize hQ : MQ below (QI E D G (fun r => True)) args s 0 0 (th_A G) = QF
  have hQ := hQ.symm
  refine lv_iload_n hx hb dX11_comes_0 rfl (lv_at hl 1 rfl) ?_
  refine th_cSs (As := [.int x1]) (rest := []) (n := 1) (d := 0) ⟨hx, hb, hml, hown, hts⟩ (c_X11_isPlace l s.heap x1) wd_847 wd_848 wd_1 wd_849 (by decide +kernel) ⟨by rw [hR]; exact Nat.le_of_ble_eq_true rfl, by rw [hR]; exact Nat.le_of_ble_eq_true rfl⟩ hN hS rfl hl.1 rfl (Nat.le_of_ble_eq_true rfl) dX11_comes_1 ⟨Nat.zero_le _, Nat.zero_le _⟩ (fun r1 locs hp hS => ?_)
  rcases hp with ⟨rfl, hp⟩ | ⟨rfl, hp⟩
  · skip
    try simp only [rg, not_and, Int.not_le] at hp
    have hp2 := hp
    refine lv_if_eq (tgt := 34) hx hb dX11_comes_4 (by decide) (fun c => absurd c (by decide)) (fun _ => ?_)
    refine lv_iload_n hx hb dX11_comes_7 rfl (lv_at hl 2 rfl) ?_
    refine th_cSs (As := [.int x2]) (rest := []) (n := 1) (d := 0) ⟨hx, hb, hml, hown, hts⟩ (c_X11_isColour l s.heap x2) wd_620 wd_621 wd_1 wd_622 (by decide +kernel) ⟨by rw [hR]; exact Nat.le_of_ble_eq_true rfl, by rw [hR]; exact Nat.le_of_ble_eq_true rfl⟩ hN hS rfl hl.1 rfl (Nat.le_of_ble_eq_true rfl) dX11_comes_8 ⟨Nat.zero_le _, Nat.zero_le _⟩ (fun r3 locs hp hS => ?_)
    rcases hp with ⟨rfl, hp⟩ | ⟨rfl, hp⟩
    · skip
      try simp only [rg, not_and, Int.not_le] at hp
      have hp4 := hp
      refine lv_if_eq (tgt := 34) hx hb dX11_comes_11 (by decide) (fun c => absurd c (by decide)) (fun _ => ?_)
      refine lv_iload_n hx hb dX11_comes_14 rfl (lv_at hl 3 rfl) ?_
      refine th_cSs (As := [.int x3]) (rest := []) (n := 1) (d := 0) ⟨hx, hb, hml, hown, hts⟩ (c_X11_isMoment l s.heap x3) wd_826 wd_827 wd_1 wd_828 (by decide +kernel) ⟨by rw [hR]; exact Nat.le_of_ble_eq_true rfl, by rw [hR]; exact Nat.le_of_ble_eq_true rfl⟩ hN hS rfl hl.1 rfl (Nat.le_of_ble_eq_true rfl) dX11_comes_15 ⟨Nat.zero_le _, Nat.zero_le _⟩ (fun r5 locs hp hS => ?_)
      rcases hp with ⟨rfl, hp⟩ | ⟨rfl, hp⟩
      · skip
        try simp only [rg, not_and, Int.not_le] at hp
        have hp6 := hp
        refine lv_if_eq (tgt := 34) hx hb dX11_comes_18 (by decide) (fun c => absurd c (by decide)) (fun _ => ?_)
        refine lv_aload_n hx hb dX11_comes_21 rfl (lv_at hl 0 rfl) ?_
        obtain ⟨a7, a10, a12, a14, a16, a18, a20, a22, a24, a26, a28, w30, w31, w32, w33, hO, hq8, hq9, hq11, hq13, hq15, hq17, hq19, hq21, hq23, hq25, hq27, hq29⟩ := op_15 hI hG0 List.not_mem_nil
        have hI := th_I.weak (a := h0) hI
        have k34 : (nI (n % 401)).toInt = ((n % 401 : Nat) : Int) := nI_toInt (by omega)
        refine th_get hx hb hts inT11 hown hK hO rfl 8 (by decide) (hts _ (tb_c wd_353)) rfl rfl dX11_comes_22 ?_
        refine lv_iload_n hx hb dX11_comes_25 rfl (lv_at hl 1 rfl) ?_
        refine lv_iload_n hx hb dX11_comes_26 rfl (lv_at hl 2 rfl) ?_
        refine lv_iload_n hx hb dX11_comes_27 rfl (lv_at hl 3 rfl) ?_
        have hI := th_I.close hI hG0 hO (ok_15 hq8 hq9 hq11 hq13 hq15 hq17 hq19 hq21 hq23 hq25 hq27 hq29)
        refine th_cVi (As := [.int x1, .int x2, .int x3]) (rest := []) (n := 3) (d := 7) ⟨hx, hb, hml, hown, hts⟩ (c_X1_firstComing l E D G a22 hq23 x1 x2 x3) wd_931 wd_932 wd_933 wd_9 wd_934 (by decide +kernel) ⟨by rw [hR]; exact Nat.le_of_ble_eq_true rfl, by rw [hR]; exact Nat.le_of_ble_eq_true rfl⟩ hI hN hK hS (rc_11 hI hq23 List.not_mem_nil) rfl rfl hl.1 rfl (Nat.le_of_ble_eq_true rfl) dX11_comes_28 ⟨Nat.zero_le _, Nat.zero_le _⟩ (fun r35 H locs hp hI hS => ?_)
        refine lv_goto (tgt := 35) hx hb dX11_comes_31 (by decide) ?_
        have hpost : True := trivial
        rw [hQ]
        exact W.iret (v := r35) hx hb hr (fun t ht hW => ⟨⟨r35, (), rfl, hpost, by rw [ht]; exact hI, hN.warm hW, va_K.moved hW.alike hK⟩, hS.F ht⟩) hS.2.2 dX11_comes_35
      · skip
        try simp only [rg, not_and, Int.not_le] at hp
        have hp36 := hp
        refine lv_if_eq (tgt := 34) hx hb dX11_comes_18 (by decide) (fun _ => ?_) (fun c => absurd c (by decide))
        refine lv_iconst (v := (-1)) hx hb dX11_comes_34 (by decide) ?_
        have hpost : True := trivial
        rw [hQ]
        exact W.iret (v := (-1)) hx hb hr (fun t ht hW => ⟨⟨(-1), (), rfl, hpost, by rw [ht]; exact hI, hN.warm hW, va_K.moved hW.alike hK⟩, hS.F ht⟩) hS.2.2 dX11_comes_35
    · skip
      try simp only [rg, not_and, Int.not_le] at hp
      have hp37 := hp
      refine lv_if_eq (tgt := 34) hx hb dX11_comes_11 (by decide) (fun _ => ?_) (fun c => absurd c (by decide))
      refine lv_iconst (v := (-1)) hx hb dX11_comes_34 (by decide) ?_
      have hpost : True := trivial
      rw [hQ]
      exact W.iret (v := (-1)) hx hb hr (fun t ht hW => ⟨⟨(-1), (), rfl, hpost, by rw [ht]; exact hI, hN.warm hW, va_K.moved hW.alike hK⟩, hS.F ht⟩) hS.2.2 dX11_comes_35
  · skip
    try simp only [rg, not_and, Int.not_le] at hp
    have hp38 := hp
    refine lv_if_eq (tgt := 34) hx hb dX11_comes_4 (by decide) (fun _ => ?_) (fun c => absurd c (by decide))
    refine lv_iconst (v := (-1)) hx hb dX11_comes_34 (by decide) ?_
    have hpost : True := trivial
    rw [hQ]
    exact W.iret (v := (-1)) hx hb hr (fun t ht hW => ⟨⟨(-1), (), rfl, hpost, by rw [ht]; exact hI, hN.warm hW, va_K.moved hW.alike hK⟩, hS.F ht⟩) hS.2.2 dX11_comes_35
theorem dX11_most_0 : decode cX11_most 0 = .ok (.iload_n 1, 1) := by decide +kernel
theorem dX11_most_1 : decode cX11_most 1 = .ok (.invokestatic 211, 3) := by decide +kernel
theorem dX11_most_4 : decode cX11_most 4 = .ok (.ifCond .eq 17, 3) := by decide +kernel
theorem dX11_most_7 : decode cX11_most 7 = .ok (.iload_n 2, 1) := by decide +kernel
theorem dX11_most_8 : decode cX11_most 8 = .ok (.invokestatic 269, 3) := by decide +kernel
theorem dX11_most_11 : decode cX11_most 11 = .ok (.ifCond .eq 10, 3) := by decide +kernel
theorem dX11_most_14 : decode cX11_most 14 = .ok (.iload_n 3, 1) := by decide +kernel
theorem dX11_most_15 : decode cX11_most 15 = .ok (.invokestatic 138, 3) := by decide +kernel
theorem dX11_most_18 : decode cX11_most 18 = .ok (.ifCond .ne 5, 3) := by decide +kernel
theorem dX11_most_21 : decode cX11_most 21 = .ok (.iconst (-1), 1) := by decide +kernel
theorem dX11_most_22 : decode cX11_most 22 = .ok (.ireturn, 1) := by decide +kernel
theorem dX11_most_23 : decode cX11_most 23 = .ok (.aload_n 0, 1) := by decide +kernel
theorem dX11_most_24 : decode cX11_most 24 = .ok (.getfield 60, 3) := by decide +kernel
theorem dX11_most_27 : decode cX11_most 27 = .ok (.iload_n 1, 1) := by decide +kernel
theorem dX11_most_28 : decode cX11_most 28 = .ok (.iload_n 2, 1) := by decide +kernel
theorem dX11_most_29 : decode cX11_most 29 = .ok (.invokevirtual 278, 3) := by decide +kernel
theorem dX11_most_32 : decode cX11_most 32 = .ok (.iload_n 3, 1) := by decide +kernel
theorem dX11_most_33 : decode cX11_most 33 = .ok (.ifCond .ne 13, 3) := by decide +kernel
theorem dX11_most_36 : decode cX11_most 36 = .ok (.aload_n 0, 1) := by decide +kernel
theorem dX11_most_37 : decode cX11_most 37 = .ok (.getfield 60, 3) := by decide +kernel
theorem dX11_most_40 : decode cX11_most 40 = .ok (.invokevirtual 282, 3) := by decide +kernel
theorem dX11_most_43 : decode cX11_most 43 = .ok (.goto 10, 3) := by decide +kernel
theorem dX11_most_46 : decode cX11_most 46 = .ok (.aload_n 0, 1) := by decide +kernel
theorem dX11_most_47 : decode cX11_most 47 = .ok (.getfield 60, 3) := by decide +kernel
theorem dX11_most_50 : decode cX11_most 50 = .ok (.invokevirtual 285, 3) := by decide +kernel
theorem dX11_most_53 : decode cX11_most 53 = .ok (.ireturn, 1) := by decide +kernel
set_option maxHeartbeats 4000000 in
set_option maxRecDepth 100000 in
theorem c_X11_most (l : Launch) (E : Nat → ClassId) (D : va_G) (G : th_G) (h0 n : Nat) (hG0 : G h0 = some (15, n)) (x1 x2 x3 : Int32) : Met l yX11_most (tb (.code yX11_most cX11_most 4 (some .int))) (rm 8) (va_Pc [.ref h0, .int x1, .int x2, .int x3] (th_P E D G)) (QI E D G (fun r => True)) 0 0 (th_A G) := by
  refine Met.ofW (cc := cX11_most) (maxL := 4) (ret := (some .int)) (by decide) rfl ?_
  intro p e s m args below meth c s₁ B hml hv
  obtain ⟨hav, hI, hN, hK⟩ := hv
  have hx := B.exec
  have hb := B.bytes
  have hr := B.returns
  have hts := atoms_spec (ws := tb (.code yX11_most cX11_most 4 (some .int))) B.pre
  have hown : s.vm.findClass RX11 = some m.cls := findClass_of_methodNamed B.named
  have hlocks := B.notSynchronized
  have hS : va_S (th_A G) s.heap s.heap [] := va_S.rf
  have hl := lv_entry ([.ref h0, .int x1, .int x2, .int x3]) (n := 4) (Nat.le_of_ble_eq_true rfl)
  rw [show entryFrame m args 4 = entryFrame m ([.ref h0, .int x1, .int x2, .int x3] : List Value).toArray 4 from by rw [hav], lg_entry_eq]
  generalize (lg_sl ([.ref h0, .int x1, .int x2, .int x3]) ++ List.replicate (4 - (lg_sl ([.ref h0, .int x1, .int x2, .int x3])).length) Slot.unset).toArray = ls at hl ⊢
  have hl : lv_has ls 4 [(0, .ref h0), (1, .int x1), (2, .int x2), (3, .int x3)] := hl
  generalize hR : (headSpec (tb (.code yX11_most cX11_most 4 (some .int))) (rm 8)).room = R
  have hR := hR.symm
  generalize hQ : MQ below (QI E D G (fun r => True)) args s 0 0 (th_A G) = QF
  have hQ := hQ.symm
  have J_21 : ∀ (H : Heap) (locs : List Loc) (ls : Array Slot) , lv_has ls 4 [(0, .ref h0), (1, .int x1), (2, .int x2), (3, .int x3)] → th_I (okC E) D G [] H → va_S (th_A G) s.heap H locs → W p l e R s m args below meth c H locs 0 0 QF (F0 m 21 ls []) := by
    intro H locs ls  hl  hI hS
    refine lv_iconst (v := (-1)) hx hb dX11_most_21 (by decide) ?_
    have hpost : True := trivial
    rw [hQ]
    exact W.iret (v := (-1)) hx hb hr (fun t ht hW => ⟨⟨(-1), (), rfl, hpost, by rw [ht]; exact hI, hN.warm hW, va_K.moved hW.alike hK⟩, hS.F ht⟩) hS.2.2 dX11_most_22
  refine lv_iload_n hx hb dX11_most_0 rfl (lv_at hl 1 rfl) ?_
  refine th_cSs (As := [.int x1]) (rest := []) (n := 1) (d := 0) ⟨hx, hb, hml, hown, hts⟩ (c_X11_isHour l s.heap x1) wd_466 wd_467 wd_1 wd_468 (by decide +kernel) ⟨by rw [hR]; exact Nat.le_of_ble_eq_true rfl, by rw [hR]; exact Nat.le_of_ble_eq_true rfl⟩ hN hS rfl hl.1 rfl (Nat.le_of_ble_eq_true rfl) dX11_most_1 ⟨Nat.zero_le _, Nat.zero_le _⟩ (fun r793 locs hp hS => ?_)
  rcases hp with ⟨rfl, hp⟩ | ⟨rfl, hp⟩
  · skip
    try simp only [rg, not_and, Int.not_le] at hp
    have hp794 := hp
    refine lv_if_eq (tgt := 21) hx hb dX11_most_4 (by decide) (fun c => absurd c (by decide)) (fun _ => ?_)
    refine lv_iload_n hx hb dX11_most_7 rfl (lv_at hl 2 rfl) ?_
    refine th_cSs (As := [.int x2]) (rest := []) (n := 1) (d := 0) ⟨hx, hb, hml, hown, hts⟩ (c_X11_isColour l s.heap x2) wd_620 wd_621 wd_1 wd_622 (by decide +kernel) ⟨by rw [hR]; exact Nat.le_of_ble_eq_true rfl, by rw [hR]; exact Nat.le_of_ble_eq_true rfl⟩ hN hS rfl hl.1 rfl (Nat.le_of_ble_eq_true rfl) dX11_most_8 ⟨Nat.zero_le _, Nat.zero_le _⟩ (fun r795 locs hp hS => ?_)
    rcases hp with ⟨rfl, hp⟩ | ⟨rfl, hp⟩
    · skip
      try simp only [rg, not_and, Int.not_le] at hp
      have hp796 := hp
      refine lv_if_eq (tgt := 21) hx hb dX11_most_11 (by decide) (fun c => absurd c (by decide)) (fun _ => ?_)
      refine lv_iload_n hx hb dX11_most_14 rfl (lv_at hl 3 rfl) ?_
      refine th_cSs (As := [.int x3]) (rest := []) (n := 1) (d := 0) ⟨hx, hb, hml, hown, hts⟩ (c_X11_isFlag l s.heap x3) wd_469 wd_470 wd_1 wd_471 (by decide +kernel) ⟨by rw [hR]; exact Nat.le_of_ble_eq_true rfl, by rw [hR]; exact Nat.le_of_ble_eq_true rfl⟩ hN hS rfl hl.1 rfl (Nat.le_of_ble_eq_true rfl) dX11_most_15 ⟨Nat.zero_le _, Nat.zero_le _⟩ (fun r797 locs hp hS => ?_)
      rcases hp with ⟨rfl, hp⟩ | ⟨rfl, hp⟩
      · skip
        try simp only [rg, not_and, Int.not_le] at hp
        have hp798 := hp
        refine lv_if_ne (tgt := 23) hx hb dX11_most_18 (by decide) (fun _ => ?_) (fun c => absurd c (by decide))
        refine lv_aload_n hx hb dX11_most_23 rfl (lv_at hl 0 rfl) ?_
        obtain ⟨a799, a802, a804, a806, a808, a810, a812, a814, a816, a818, a820, w822, w823, w824, w825, hO, hq800, hq801, hq803, hq805, hq807, hq809, hq811, hq813, hq815, hq817, hq819, hq821⟩ := op_15 hI hG0 List.not_mem_nil
        have hI := th_I.weak (a := h0) hI
        have k826 : (nI (n % 401)).toInt = ((n % 401 : Nat) : Int) := nI_toInt (by omega)
        refine th_get hx hb hts inT11 hown hK hO rfl 8 (by decide) (hts _ (tb_c wd_353)) rfl rfl dX11_most_24 ?_
        refine lv_iload_n hx hb dX11_most_27 rfl (lv_at hl 1 rfl) ?_
        refine lv_iload_n hx hb dX11_most_28 rfl (lv_at hl 2 rfl) ?_
        have hI := th_I.close hI hG0 hO (ok_15 hq800 hq801 hq803 hq805 hq807 hq809 hq811 hq813 hq815 hq817 hq819 hq821)
        refine th_cVv (As := [.int x1, .int x2]) (rest := []) (n := 2) (d := 7) ⟨hx, hb, hml, hown, hts⟩ (c_X1_spread l E D G a814 hq815 x1 x2) wd_941 wd_942 wd_943 wd_9 wd_944 (by decide +kernel) ⟨by rw [hR]; exact Nat.le_of_ble_eq_true rfl, by rw [hR]; exact Nat.le_of_ble_eq_true rfl⟩ hI hN hK hS (rc_11 hI hq815 List.not_mem_nil) rfl rfl hl.1 rfl (Nat.le_of_ble_eq_true rfl) dX11_most_29 ⟨Nat.zero_le _, Nat.zero_le _⟩ (fun H locs hI hS => ?_)
        refine lv_iload_n hx hb dX11_most_32 rfl (lv_at hl 3 rfl) ?_
        refine lv_if_ne (tgt := 46) hx hb dX11_most_33 (by decide) (fun c828 => ?_) (fun c828 => ?_)
        · skip
          have k829 := iv_ne (X := x3.toInt) (Y := (0)) rfl (by decide) c828
          refine lv_aload_n hx hb dX11_most_46 rfl (lv_at hl 0 rfl) ?_
          obtain ⟨a830, a833, a835, a837, a839, a841, a843, a845, a847, a849, a851, w853, w854, w855, w856, hO, hq831, hq832, hq834, hq836, hq838, hq840, hq842, hq844, hq846, hq848, hq850, hq852⟩ := op_15 hI hG0 List.not_mem_nil
          have hI := th_I.weak (a := h0) hI
          have k857 : (nI (n % 401)).toInt = ((n % 401 : Nat) : Int) := nI_toInt (by omega)
          refine th_get hx hb hts inT11 hown hK hO rfl 8 (by decide) (hts _ (tb_c wd_353)) rfl rfl dX11_most_47 ?_
          have hI := th_I.close hI hG0 hO (ok_15 hq831 hq832 hq834 hq836 hq838 hq840 hq842 hq844 hq846 hq848 hq850 hq852)
          refine th_cVi (As := []) (rest := []) (n := 0) (d := 0) ⟨hx, hb, hml, hown, hts⟩ (c_X1_coloured l E D G a845 hq846 ) wd_951 wd_952 wd_953 wd_9 wd_954 (by decide +kernel) ⟨by rw [hR]; exact Nat.le_of_ble_eq_true rfl, by rw [hR]; exact Nat.le_of_ble_eq_true rfl⟩ hI hN hK hS (rc_11 hI hq846 List.not_mem_nil) rfl rfl hl.1 rfl (Nat.le_of_ble_eq_true rfl) dX11_most_50 ⟨Nat.zero_le _, Nat.zero_le _⟩ (fun r858 H locs hp hI hS => ?_)
          have hpost : True := trivial
          rw [hQ]
          exact W.iret (v := r858) hx hb hr (fun t ht hW => ⟨⟨r858, (), rfl, hpost, by rw [ht]; exact hI, hN.warm hW, va_K.moved hW.alike hK⟩, hS.F ht⟩) hS.2.2 dX11_most_53
        · skip
          have k859 := iv_eq (X := x3.toInt) (Y := (0)) rfl (by decide) c828
          refine lv_aload_n hx hb dX11_most_36 rfl (lv_at hl 0 rfl) ?_
          obtain ⟨a860, a863, a865, a867, a869, a871, a873, a875, a877, a879, a881, w883, w884, w885, w886, hO, hq861, hq862, hq864, hq866, hq868, hq870, hq872, hq874, hq876, hq878, hq880, hq882⟩ := op_15 hI hG0 List.not_mem_nil
          have hI := th_I.weak (a := h0) hI
          have k887 : (nI (n % 401)).toInt = ((n % 401 : Nat) : Int) := nI_toInt (by omega)
          refine th_get hx hb hts inT11 hown hK hO rfl 8 (by decide) (hts _ (tb_c wd_353)) rfl rfl dX11_most_37 ?_
          have hI := th_I.close hI hG0 hO (ok_15 hq861 hq862 hq864 hq866 hq868 hq870 hq872 hq874 hq876 hq878 hq880 hq882)
          refine th_cVi (As := []) (rest := []) (n := 0) (d := 0) ⟨hx, hb, hml, hown, hts⟩ (c_X1_fullest l E D G a875 hq876 ) wd_947 wd_948 wd_949 wd_9 wd_950 (by decide +kernel) ⟨by rw [hR]; exact Nat.le_of_ble_eq_true rfl, by rw [hR]; exact Nat.le_of_ble_eq_true rfl⟩ hI hN hK hS (rc_11 hI hq876 List.not_mem_nil) rfl rfl hl.1 rfl (Nat.le_of_ble_eq_true rfl) dX11_most_40 ⟨Nat.zero_le _, Nat.zero_le _⟩ (fun r888 H locs hp hI hS => ?_)
          refine lv_goto (tgt := 53) hx hb dX11_most_43 (by decide) ?_
          have hpost : True := trivial
          rw [hQ]
          exact W.iret (v := r888) hx hb hr (fun t ht hW => ⟨⟨r888, (), rfl, hpost, by rw [ht]; exact hI, hN.warm hW, va_K.moved hW.alike hK⟩, hS.F ht⟩) hS.2.2 dX11_most_53
      · skip
        try simp only [rg, not_and, Int.not_le] at hp
        have hp889 := hp
        refine lv_if_ne (tgt := 23) hx hb dX11_most_18 (by decide) (fun c => absurd c (by decide)) (fun _ => ?_)
        exact J_21 s.heap locs ls  (lv_sub hl [0, 1, 2, 3] rfl)  hI hS
    · skip
      try simp only [rg, not_and, Int.not_le] at hp
      have hp890 := hp
      refine lv_if_eq (tgt := 21) hx hb dX11_most_11 (by decide) (fun _ => ?_) (fun c => absurd c (by decide))
      exact J_21 s.heap locs ls  (lv_sub hl [0, 1, 2, 3] rfl)  hI hS
  · skip
    try simp only [rg, not_and, Int.not_le] at hp
    have hp891 := hp
    refine lv_if_eq (tgt := 21) hx hb dX11_most_4 (by decide) (fun _ => ?_) (fun c => absurd c (by decide))
    exact J_21 s.heap locs ls  (lv_sub hl [0, 1, 2, 3] rfl)  hI hS
theorem dX11_least_0 : decode cX11_least 0 = .ok (.iload_n 1, 1) := by decide +kernel
theorem dX11_least_1 : decode cX11_least 1 = .ok (.invokestatic 240, 3) := by decide +kernel
theorem dX11_least_4 : decode cX11_least 4 = .ok (.ifCond .eq 41, 3) := by decide +kernel
theorem dX11_least_7 : decode cX11_least 7 = .ok (.iload_n 2, 1) := by decide +kernel
theorem dX11_least_8 : decode cX11_least 8 = .ok (.invokestatic 226, 3) := by decide +kernel
theorem dX11_least_11 : decode cX11_least 11 = .ok (.ifCond .eq 34, 3) := by decide +kernel
theorem dX11_least_14 : decode cX11_least 14 = .ok (.iload_n 3, 1) := by decide +kernel
theorem dX11_least_15 : decode cX11_least 15 = .ok (.invokestatic 226, 3) := by decide +kernel
theorem dX11_least_18 : decode cX11_least 18 = .ok (.ifCond .eq 27, 3) := by decide +kernel
theorem dX11_least_21 : decode cX11_least 21 = .ok (.iload_n 2, 1) := by decide +kernel
theorem dX11_least_22 : decode cX11_least 22 = .ok (.iload_n 3, 1) := by decide +kernel
theorem dX11_least_23 : decode cX11_least 23 = .ok (.if_icmp .gt 22, 3) := by decide +kernel
theorem dX11_least_26 : decode cX11_least 26 = .ok (.iload 4, 2) := by decide +kernel
theorem dX11_least_28 : decode cX11_least 28 = .ok (.invokestatic 211, 3) := by decide +kernel
theorem dX11_least_31 : decode cX11_least 31 = .ok (.ifCond .eq 14, 3) := by decide +kernel
theorem dX11_least_34 : decode cX11_least 34 = .ok (.iload 5, 2) := by decide +kernel
theorem dX11_least_36 : decode cX11_least 36 = .ok (.ifCond .lt 9, 3) := by decide +kernel
theorem dX11_least_39 : decode cX11_least 39 = .ok (.iload 5, 2) := by decide +kernel
theorem dX11_least_41 : decode cX11_least 41 = .ok (.iconst 3, 1) := by decide +kernel
theorem dX11_least_42 : decode cX11_least 42 = .ok (.if_icmp .le 5, 3) := by decide +kernel
theorem dX11_least_45 : decode cX11_least 45 = .ok (.iconst (-1), 1) := by decide +kernel
theorem dX11_least_46 : decode cX11_least 46 = .ok (.ireturn, 1) := by decide +kernel
theorem dX11_least_47 : decode cX11_least 47 = .ok (.aload_n 0, 1) := by decide +kernel
theorem dX11_least_48 : decode cX11_least 48 = .ok (.getfield 78, 3) := by decide +kernel
theorem dX11_least_51 : decode cX11_least 51 = .ok (.iload_n 1, 1) := by decide +kernel
theorem dX11_least_52 : decode cX11_least 52 = .ok (.iload_n 2, 1) := by decide +kernel
theorem dX11_least_53 : decode cX11_least 53 = .ok (.iload_n 3, 1) := by decide +kernel
theorem dX11_least_54 : decode cX11_least 54 = .ok (.iload 4, 2) := by decide +kernel
theorem dX11_least_56 : decode cX11_least 56 = .ok (.iload 5, 2) := by decide +kernel
theorem dX11_least_58 : decode cX11_least 58 = .ok (.invokevirtual 288, 3) := by decide +kernel
theorem dX11_least_61 : decode cX11_least 61 = .ok (.ireturn, 1) := by decide +kernel
set_option maxHeartbeats 4000000 in
set_option maxRecDepth 100000 in
theorem c_X11_least (l : Launch) (E : Nat → ClassId) (D : va_G) (G : th_G) (h0 n : Nat) (hG0 : G h0 = some (15, n)) (x1 x2 x3 x4 x5 : Int32) : Met l yX11_least (tb (.code yX11_least cX11_least 6 (some .int))) (rm 7) (va_Pc [.ref h0, .int x1, .int x2, .int x3, .int x4, .int x5] (th_P E D G)) (QI E D G (fun r => True)) 0 0 (th_A G) := by
  refine Met.ofW (cc := cX11_least) (maxL := 6) (ret := (some .int)) (by decide) rfl ?_
  intro p e s m args below meth c s₁ B hml hv
  obtain ⟨hav, hI, hN, hK⟩ := hv
  have hx := B.exec
  have hb := B.bytes
  have hr := B.returns
  have hts := atoms_spec (ws := tb (.code yX11_least cX11_least 6 (some .int))) B.pre
  have hown : s.vm.findClass RX11 = some m.cls := findClass_of_methodNamed B.named
  have hlocks := B.notSynchronized
  have hS : va_S (th_A G) s.heap s.heap [] := va_S.rf
  have hl := lv_entry ([.ref h0, .int x1, .int x2, .int x3, .int x4, .int x5]) (n := 6) (Nat.le_of_ble_eq_true rfl)
  rw [show entryFrame m args 6 = entryFrame m ([.ref h0, .int x1, .int x2, .int x3, .int x4, .int x5] : List Value).toArray 6 from by rw [hav], lg_entry_eq]
  generalize (lg_sl ([.ref h0, .int x1, .int x2, .int x3, .int x4, .int x5]) ++ List.replicate (6 - (lg_sl ([.ref h0, .int x1, .int x2, .int x3, .int x4, .int x5])).length) Slot.unset).toArray = ls at hl ⊢
  have hl : lv_has ls 6 [(0, .ref h0), (1, .int x1), (2, .int x2), (3, .int x3), (4, .int x4), (5, .int x5)] := hl
  generalize hR : (headSpec (tb (.code yX11_least cX11_least 6 (some .int))) (rm 7)).room = R
  have hR := hR.symm
  generalize hQ : MQ below (QI E D G (fun r => True)) args s 0 0 (th_A G) = QF
  have hQ := hQ.symm
  have J_45 : ∀ (H : Heap) (locs : List Loc) (ls : Array Slot) , lv_has ls 6 [(0, .ref h0), (1, .int x1), (2, .int x2), (3, .int x3), (4, .int x4), (5, .int x5)] → th_I (okC E) D G [] H → va_S (th_A G) s.heap H locs → W p l e R s m args below meth c H locs 0 0 QF (F0 m 45 ls []) := by
    intro H locs ls  hl  hI hS
    refine lv_iconst (v := (-1)) hx hb dX11_least_45 (by decide) ?_
    have hpost : True := trivial
    rw [hQ]
    exact W.iret (v := (-1)) hx hb hr (fun t ht hW => ⟨⟨(-1), (), rfl, hpost, by rw [ht]; exact hI, hN.warm hW, va_K.moved hW.alike hK⟩, hS.F ht⟩) hS.2.2 dX11_least_46
  refine lv_iload_n hx hb dX11_least_0 rfl (lv_at hl 1 rfl) ?_
  refine th_cSs (As := [.int x1]) (rest := []) (n := 1) (d := 0) ⟨hx, hb, hml, hown, hts⟩ (c_X11_isPlace l s.heap x1) wd_847 wd_848 wd_1 wd_849 (by decide +kernel) ⟨by rw [hR]; exact Nat.le_of_ble_eq_true rfl, by rw [hR]; exact Nat.le_of_ble_eq_true rfl⟩ hN hS rfl hl.1 rfl (Nat.le_of_ble_eq_true rfl) dX11_least_1 ⟨Nat.zero_le _, Nat.zero_le _⟩ (fun r417 locs hp hS => ?_)
  rcases hp with ⟨rfl, hp⟩ | ⟨rfl, hp⟩
  · skip
    try simp only [rg, not_and, Int.not_le] at hp
    have hp418 := hp
    refine lv_if_eq (tgt := 45) hx hb dX11_least_4 (by decide) (fun c => absurd c (by decide)) (fun _ => ?_)
    refine lv_iload_n hx hb dX11_least_7 rfl (lv_at hl 2 rfl) ?_
    refine th_cSs (As := [.int x2]) (rest := []) (n := 1) (d := 0) ⟨hx, hb, hml, hown, hts⟩ (c_X11_isMoment l s.heap x2) wd_826 wd_827 wd_1 wd_828 (by decide +kernel) ⟨by rw [hR]; exact Nat.le_of_ble_eq_true rfl, by rw [hR]; exact Nat.le_of_ble_eq_true rfl⟩ hN hS rfl hl.1 rfl (Nat.le_of_ble_eq_true rfl) dX11_least_8 ⟨Nat.zero_le _, Nat.zero_le _⟩ (fun r419 locs hp hS => ?_)
    rcases hp with ⟨rfl, hp⟩ | ⟨rfl, hp⟩
    · skip
      try simp only [rg, not_and, Int.not_le] at hp
      have hp420 := hp
      refine lv_if_eq (tgt := 45) hx hb dX11_least_11 (by decide) (fun c => absurd c (by decide)) (fun _ => ?_)
      refine lv_iload_n hx hb dX11_least_14 rfl (lv_at hl 3 rfl) ?_
      refine th_cSs (As := [.int x3]) (rest := []) (n := 1) (d := 0) ⟨hx, hb, hml, hown, hts⟩ (c_X11_isMoment l s.heap x3) wd_826 wd_827 wd_1 wd_828 (by decide +kernel) ⟨by rw [hR]; exact Nat.le_of_ble_eq_true rfl, by rw [hR]; exact Nat.le_of_ble_eq_true rfl⟩ hN hS rfl hl.1 rfl (Nat.le_of_ble_eq_true rfl) dX11_least_15 ⟨Nat.zero_le _, Nat.zero_le _⟩ (fun r421 locs hp hS => ?_)
      rcases hp with ⟨rfl, hp⟩ | ⟨rfl, hp⟩
      · skip
        try simp only [rg, not_and, Int.not_le] at hp
        have hp422 := hp
        refine lv_if_eq (tgt := 45) hx hb dX11_least_18 (by decide) (fun c => absurd c (by decide)) (fun _ => ?_)
        refine lv_iload_n hx hb dX11_least_21 rfl (lv_at hl 2 rfl) ?_
        refine lv_iload_n hx hb dX11_least_22 rfl (lv_at hl 3 rfl) ?_
        refine lv_icmp_gt (tgt := 45) hx hb dX11_least_23 (by decide) (fun c423 => ?_) (fun c423 => ?_)
        · skip
          have k424 := iv_lt (X := x3.toInt) (Y := x2.toInt) rfl rfl c423
          exact J_45 s.heap locs ls  (lv_sub hl [0, 1, 2, 3, 4, 5] rfl)  hI hS
        · skip
          have k425 := iv_nlt (X := x3.toInt) (Y := x2.toInt) rfl rfl c423
          refine lv_iload hx hb dX11_least_26 (lv_at hl 4 rfl) ?_
          refine th_cSs (As := [.int x4]) (rest := []) (n := 1) (d := 0) ⟨hx, hb, hml, hown, hts⟩ (c_X11_isHour l s.heap x4) wd_466 wd_467 wd_1 wd_468 (by decide +kernel) ⟨by rw [hR]; exact Nat.le_of_ble_eq_true rfl, by rw [hR]; exact Nat.le_of_ble_eq_true rfl⟩ hN hS rfl hl.1 rfl (Nat.le_of_ble_eq_true rfl) dX11_least_28 ⟨Nat.zero_le _, Nat.zero_le _⟩ (fun r426 locs hp hS => ?_)
          rcases hp with ⟨rfl, hp⟩ | ⟨rfl, hp⟩
          · skip
            try simp only [rg, not_and, Int.not_le] at hp
            have hp427 := hp
            refine lv_if_eq (tgt := 45) hx hb dX11_least_31 (by decide) (fun c => absurd c (by decide)) (fun _ => ?_)
            refine lv_iload hx hb dX11_least_34 (lv_at hl 5 rfl) ?_
            have k428 := iv_lo x5
            have k429 := iv_hi x5
            refine lv_if_lt (tgt := 45) hx hb dX11_least_36 (by decide) (fun c430 => ?_) (fun c430 => ?_)
            · skip
              have k431 := iv_lt (X := x5.toInt) (Y := (0)) rfl (by decide) c430
              exact J_45 s.heap locs ls  (lv_sub hl [0, 1, 2, 3, 4, 5] rfl)  hI hS
            · skip
              have k432 := iv_nlt (X := x5.toInt) (Y := (0)) rfl (by decide) c430
              refine lv_iload hx hb dX11_least_39 (lv_at hl 5 rfl) ?_
              refine lv_iconst (v := 3) hx hb dX11_least_41 (by decide) ?_
              refine lv_icmp_le (tgt := 47) hx hb dX11_least_42 (by decide) (fun c433 => ?_) (fun c433 => ?_)
              · skip
                have k434 := iv_le (X := x5.toInt) (Y := (3)) rfl (by decide) c433
                refine lv_aload_n hx hb dX11_least_47 rfl (lv_at hl 0 rfl) ?_
                obtain ⟨a435, a438, a440, a442, a444, a446, a448, a450, a452, a454, a456, w458, w459, w460, w461, hO, hq436, hq437, hq439, hq441, hq443, hq445, hq447, hq449, hq451, hq453, hq455, hq457⟩ := op_15 hI hG0 List.not_mem_nil
                have hI := th_I.weak (a := h0) hI
                have k462 : (nI (n % 401)).toInt = ((n % 401 : Nat) : Int) := nI_toInt (by omega)
                refine th_get hx hb hts inT11 hown hK hO rfl 10 (by decide) (hts _ (tb_c wd_355)) rfl rfl dX11_least_48 ?_
                refine lv_iload_n hx hb dX11_least_51 rfl (lv_at hl 1 rfl) ?_
                refine lv_iload_n hx hb dX11_least_52 rfl (lv_at hl 2 rfl) ?_
                refine lv_iload_n hx hb dX11_least_53 rfl (lv_at hl 3 rfl) ?_
                refine lv_iload hx hb dX11_least_54 (lv_at hl 4 rfl) ?_
                refine lv_iload hx hb dX11_least_56 (lv_at hl 5 rfl) ?_
                have hI := th_I.close hI hG0 hO (ok_15 hq436 hq437 hq439 hq441 hq443 hq445 hq447 hq449 hq451 hq453 hq455 hq457)
                refine th_cVi (As := [.int x1, .int x2, .int x3, .int x4, .int x5]) (rest := []) (n := 5) (d := 6) ⟨hx, hb, hml, hown, hts⟩ (c_X8_cheapest l E D G a454 hq455 x1 x2 x3 x4 x5) wd_959 wd_960 wd_961 wd_11 wd_962 (by decide +kernel) ⟨by rw [hR]; exact Nat.le_of_ble_eq_true rfl, by rw [hR]; exact Nat.le_of_ble_eq_true rfl⟩ hI hN hK hS (rc_13 hI hq455 List.not_mem_nil) rfl rfl hl.1 rfl (Nat.le_of_ble_eq_true rfl) dX11_least_58 ⟨Nat.zero_le _, Nat.zero_le _⟩ (fun r463 H locs hp hI hS => ?_)
                have hpost : True := trivial
                rw [hQ]
                exact W.iret (v := r463) hx hb hr (fun t ht hW => ⟨⟨r463, (), rfl, hpost, by rw [ht]; exact hI, hN.warm hW, va_K.moved hW.alike hK⟩, hS.F ht⟩) hS.2.2 dX11_least_61
              · skip
                have k464 := iv_nle (X := x5.toInt) (Y := (3)) rfl (by decide) c433
                exact J_45 s.heap locs ls  (lv_sub hl [0, 1, 2, 3, 4, 5] rfl)  hI hS
          · skip
            try simp only [rg, not_and, Int.not_le] at hp
            have hp465 := hp
            refine lv_if_eq (tgt := 45) hx hb dX11_least_31 (by decide) (fun _ => ?_) (fun c => absurd c (by decide))
            exact J_45 s.heap locs ls  (lv_sub hl [0, 1, 2, 3, 4, 5] rfl)  hI hS
      · skip
        try simp only [rg, not_and, Int.not_le] at hp
        have hp466 := hp
        refine lv_if_eq (tgt := 45) hx hb dX11_least_18 (by decide) (fun _ => ?_) (fun c => absurd c (by decide))
        exact J_45 s.heap locs ls  (lv_sub hl [0, 1, 2, 3, 4, 5] rfl)  hI hS
    · skip
      try simp only [rg, not_and, Int.not_le] at hp
      have hp467 := hp
      refine lv_if_eq (tgt := 45) hx hb dX11_least_11 (by decide) (fun _ => ?_) (fun c => absurd c (by decide))
      exact J_45 s.heap locs ls  (lv_sub hl [0, 1, 2, 3, 4, 5] rfl)  hI hS
  · skip
    try simp only [rg, not_and, Int.not_le] at hp
    have hp468 := hp
    refine lv_if_eq (tgt := 45) hx hb dX11_least_4 (by decide) (fun _ => ?_) (fun c => absurd c (by decide))
    exact J_45 s.heap locs ls  (lv_sub hl [0, 1, 2, 3, 4, 5] rfl)  hI hS
theorem dX11_sight_0 : decode cX11_sight 0 = .ok (.iload_n 1, 1) := by decide +kernel
theorem dX11_sight_1 : decode cX11_sight 1 = .ok (.invokestatic 106, 3) := by decide +kernel
theorem dX11_sight_4 : decode cX11_sight 4 = .ok (.ifCond .eq 25, 3) := by decide +kernel
theorem dX11_sight_7 : decode cX11_sight 7 = .ok (.iload_n 2, 1) := by decide +kernel
theorem dX11_sight_8 : decode cX11_sight 8 = .ok (.invokestatic 226, 3) := by decide +kernel
theorem dX11_sight_11 : decode cX11_sight 11 = .ok (.ifCond .eq 18, 3) := by decide +kernel
theorem dX11_sight_14 : decode cX11_sight 14 = .ok (.iload_n 3, 1) := by decide +kernel
theorem dX11_sight_15 : decode cX11_sight 15 = .ok (.invokestatic 269, 3) := by decide +kernel
theorem dX11_sight_18 : decode cX11_sight 18 = .ok (.ifCond .eq 11, 3) := by decide +kernel
theorem dX11_sight_21 : decode cX11_sight 21 = .ok (.iload 4, 2) := by decide +kernel
theorem dX11_sight_23 : decode cX11_sight 23 = .ok (.invokestatic 138, 3) := by decide +kernel
theorem dX11_sight_26 : decode cX11_sight 26 = .ok (.ifCond .ne 9, 3) := by decide +kernel
theorem dX11_sight_29 : decode cX11_sight 29 = .ok (.aload_n 0, 1) := by decide +kernel
theorem dX11_sight_30 : decode cX11_sight 30 = .ok (.iconst (-1), 1) := by decide +kernel
theorem dX11_sight_31 : decode cX11_sight 31 = .ok (.invokevirtual 113, 3) := by decide +kernel
theorem dX11_sight_34 : decode cX11_sight 34 = .ok (.ireturn, 1) := by decide +kernel
theorem dX11_sight_35 : decode cX11_sight 35 = .ok (.aload_n 0, 1) := by decide +kernel
theorem dX11_sight_36 : decode cX11_sight 36 = .ok (.getfield 12, 3) := by decide +kernel
theorem dX11_sight_39 : decode cX11_sight 39 = .ok (.getfield 292, 3) := by decide +kernel
theorem dX11_sight_42 : decode cX11_sight 42 = .ok (.invokevirtual 149, 3) := by decide +kernel
theorem dX11_sight_45 : decode cX11_sight 45 = .ok (.ifCond .eq 10, 3) := by decide +kernel
theorem dX11_sight_48 : decode cX11_sight 48 = .ok (.aload_n 0, 1) := by decide +kernel
theorem dX11_sight_49 : decode cX11_sight 49 = .ok (.bipush (-5), 2) := by decide +kernel
theorem dX11_sight_51 : decode cX11_sight 51 = .ok (.invokevirtual 113, 3) := by decide +kernel
theorem dX11_sight_54 : decode cX11_sight 54 = .ok (.ireturn, 1) := by decide +kernel
theorem dX11_sight_55 : decode cX11_sight 55 = .ok (.aload_n 0, 1) := by decide +kernel
theorem dX11_sight_56 : decode cX11_sight 56 = .ok (.getfield 12, 3) := by decide +kernel
theorem dX11_sight_59 : decode cX11_sight 59 = .ok (.getfield 292, 3) := by decide +kernel
theorem dX11_sight_62 : decode cX11_sight 62 = .ok (.iload_n 1, 1) := by decide +kernel
theorem dX11_sight_63 : decode cX11_sight 63 = .ok (.iload_n 2, 1) := by decide +kernel
theorem dX11_sight_64 : decode cX11_sight 64 = .ok (.iload_n 3, 1) := by decide +kernel
theorem dX11_sight_65 : decode cX11_sight 65 = .ok (.iload 4, 2) := by decide +kernel
theorem dX11_sight_67 : decode cX11_sight 67 = .ok (.invokevirtual 155, 3) := by decide +kernel
theorem dX11_sight_70 : decode cX11_sight 70 = .ok (.pop, 1) := by decide +kernel
theorem dX11_sight_71 : decode cX11_sight 71 = .ok (.aload_n 0, 1) := by decide +kernel
theorem dX11_sight_72 : decode cX11_sight 72 = .ok (.invokevirtual 191, 3) := by decide +kernel
theorem dX11_sight_75 : decode cX11_sight 75 = .ok (.aload_n 0, 1) := by decide +kernel
theorem dX11_sight_76 : decode cX11_sight 76 = .ok (.aload_n 0, 1) := by decide +kernel
theorem dX11_sight_77 : decode cX11_sight 77 = .ok (.getfield 12, 3) := by decide +kernel
theorem dX11_sight_80 : decode cX11_sight 80 = .ok (.getfield 292, 3) := by decide +kernel
theorem dX11_sight_83 : decode cX11_sight 83 = .ok (.invokevirtual 166, 3) := by decide +kernel
theorem dX11_sight_86 : decode cX11_sight 86 = .ok (.invokevirtual 127, 3) := by decide +kernel
theorem dX11_sight_89 : decode cX11_sight 89 = .ok (.ireturn, 1) := by decide +kernel
set_option maxHeartbeats 4000000 in
set_option maxRecDepth 100000 in
theorem c_X11_sight (l : Launch) (E : Nat → ClassId) (D : va_G) (G : th_G) (h0 n : Nat) (hG0 : G h0 = some (15, n)) (x1 x2 x3 x4 : Int32) : Met l yX11_sight (tb (.code yX11_sight cX11_sight 5 (some .int))) (rm 2) (va_Pc [.ref h0, .int x1, .int x2, .int x3, .int x4] (th_P E D G)) (QI E D G (fun r => True)) 0 0 (th_A G) := by
  refine Met.ofW (cc := cX11_sight) (maxL := 5) (ret := (some .int)) (by decide) rfl ?_
  intro p e s m args below meth c s₁ B hml hv
  obtain ⟨hav, hI, hN, hK⟩ := hv
  have hx := B.exec
  have hb := B.bytes
  have hr := B.returns
  have hts := atoms_spec (ws := tb (.code yX11_sight cX11_sight 5 (some .int))) B.pre
  have hown : s.vm.findClass RX11 = some m.cls := findClass_of_methodNamed B.named
  have hlocks := B.notSynchronized
  have hS : va_S (th_A G) s.heap s.heap [] := va_S.rf
  have hl := lv_entry ([.ref h0, .int x1, .int x2, .int x3, .int x4]) (n := 5) (Nat.le_of_ble_eq_true rfl)
  rw [show entryFrame m args 5 = entryFrame m ([.ref h0, .int x1, .int x2, .int x3, .int x4] : List Value).toArray 5 from by rw [hav], lg_entry_eq]
  generalize (lg_sl ([.ref h0, .int x1, .int x2, .int x3, .int x4]) ++ List.replicate (5 - (lg_sl ([.ref h0, .int x1, .int x2, .int x3, .int x4])).length) Slot.unset).toArray = ls at hl ⊢
  have hl : lv_has ls 5 [(0, .ref h0), (1, .int x1), (2, .int x2), (3, .int x3), (4, .int x4)] := hl
  generalize hR : (headSpec (tb (.code yX11_sight cX11_sight 5 (some .int))) (rm 2)).room = R
  have hR := hR.symm
  generalize hQ : MQ below (QI E D G (fun r => True)) args s 0 0 (th_A G) = QF
  have hQ := hQ.symm
  have J_29 : ∀ (H : Heap) (locs : List Loc) (ls : Array Slot) , lv_has ls 5 [(0, .ref h0), (1, .int x1), (2, .int x2), (3, .int x3), (4, .int x4)] → th_I (okC E) D G [] H → va_S (th_A G) s.heap H locs → W p l e R s m args below meth c H locs 0 0 QF (F0 m 29 ls []) := by
    intro H locs ls  hl  hI hS
    refine lv_aload_n hx hb dX11_sight_29 rfl (lv_at hl 0 rfl) ?_
    refine lv_iconst (v := (-1)) hx hb dX11_sight_30 (by decide) ?_
    refine th_cVi (As := [.int (-1)]) (rest := []) (n := 1) (d := 0) ⟨hx, hb, hml, hown, hts⟩ (c_X11_refuse l E D G h0 (n) hG0 (-1)) wd_407 wd_409 wp_0 wd_1 wd_410 (by decide +kernel) ⟨by rw [hR]; exact Nat.le_of_ble_eq_true rfl, by rw [hR]; exact Nat.le_of_ble_eq_true rfl⟩ hI hN hK hS (rc_15 hI hG0 List.not_mem_nil) rfl rfl hl.1 rfl (Nat.le_of_ble_eq_true rfl) dX11_sight_31 ⟨Nat.zero_le _, Nat.zero_le _⟩ (fun r1576 H locs hp hI hS => ?_)
    have hp := hp.symm
    subst hp
    have hpost : True := trivial
    rw [hQ]
    exact W.iret (v := (-1)) hx hb hr (fun t ht hW => ⟨⟨(-1), (), rfl, hpost, by rw [ht]; exact hI, hN.warm hW, va_K.moved hW.alike hK⟩, hS.F ht⟩) hS.2.2 dX11_sight_34
  refine lv_iload_n hx hb dX11_sight_0 rfl (lv_at hl 1 rfl) ?_
  refine th_cSs (As := [.int x1]) (rest := []) (n := 1) (d := 0) ⟨hx, hb, hml, hown, hts⟩ (c_X11_isCell l s.heap x1) wd_401 wd_402 wd_1 wd_403 (by decide +kernel) ⟨by rw [hR]; exact Nat.le_of_ble_eq_true rfl, by rw [hR]; exact Nat.le_of_ble_eq_true rfl⟩ hN hS rfl hl.1 rfl (Nat.le_of_ble_eq_true rfl) dX11_sight_1 ⟨Nat.zero_le _, Nat.zero_le _⟩ (fun r1577 locs hp hS => ?_)
  rcases hp with ⟨rfl, hp⟩ | ⟨rfl, hp⟩
  · skip
    try simp only [rg, not_and, Int.not_le] at hp
    have hp1578 := hp
    refine lv_if_eq (tgt := 29) hx hb dX11_sight_4 (by decide) (fun c => absurd c (by decide)) (fun _ => ?_)
    refine lv_iload_n hx hb dX11_sight_7 rfl (lv_at hl 2 rfl) ?_
    refine th_cSs (As := [.int x2]) (rest := []) (n := 1) (d := 0) ⟨hx, hb, hml, hown, hts⟩ (c_X11_isMoment l s.heap x2) wd_826 wd_827 wd_1 wd_828 (by decide +kernel) ⟨by rw [hR]; exact Nat.le_of_ble_eq_true rfl, by rw [hR]; exact Nat.le_of_ble_eq_true rfl⟩ hN hS rfl hl.1 rfl (Nat.le_of_ble_eq_true rfl) dX11_sight_8 ⟨Nat.zero_le _, Nat.zero_le _⟩ (fun r1579 locs hp hS => ?_)
    rcases hp with ⟨rfl, hp⟩ | ⟨rfl, hp⟩
    · skip
      try simp only [rg, not_and, Int.not_le] at hp
      have hp1580 := hp
      refine lv_if_eq (tgt := 29) hx hb dX11_sight_11 (by decide) (fun c => absurd c (by decide)) (fun _ => ?_)
      refine lv_iload_n hx hb dX11_sight_14 rfl (lv_at hl 3 rfl) ?_
      refine th_cSs (As := [.int x3]) (rest := []) (n := 1) (d := 0) ⟨hx, hb, hml, hown, hts⟩ (c_X11_isColour l s.heap x3) wd_620 wd_621 wd_1 wd_622 (by decide +kernel) ⟨by rw [hR]; exact Nat.le_of_ble_eq_true rfl, by rw [hR]; exact Nat.le_of_ble_eq_true rfl⟩ hN hS rfl hl.1 rfl (Nat.le_of_ble_eq_true rfl) dX11_sight_15 ⟨Nat.zero_le _, Nat.zero_le _⟩ (fun r1581 locs hp hS => ?_)
      rcases hp with ⟨rfl, hp⟩ | ⟨rfl, hp⟩
      · skip
        try simp only [rg, not_and, Int.not_le] at hp
        have hp1582 := hp
        refine lv_if_eq (tgt := 29) hx hb dX11_sight_18 (by decide) (fun c => absurd c (by decide)) (fun _ => ?_)
        refine lv_iload hx hb dX11_sight_21 (lv_at hl 4 rfl) ?_
        refine th_cSs (As := [.int x4]) (rest := []) (n := 1) (d := 0) ⟨hx, hb, hml, hown, hts⟩ (c_X11_isFlag l s.heap x4) wd_469 wd_470 wd_1 wd_471 (by decide +kernel) ⟨by rw [hR]; exact Nat.le_of_ble_eq_true rfl, by rw [hR]; exact Nat.le_of_ble_eq_true rfl⟩ hN hS rfl hl.1 rfl (Nat.le_of_ble_eq_true rfl) dX11_sight_23 ⟨Nat.zero_le _, Nat.zero_le _⟩ (fun r1583 locs hp hS => ?_)
        rcases hp with ⟨rfl, hp⟩ | ⟨rfl, hp⟩
        · skip
          try simp only [rg, not_and, Int.not_le] at hp
          have hp1584 := hp
          refine lv_if_ne (tgt := 35) hx hb dX11_sight_26 (by decide) (fun _ => ?_) (fun c => absurd c (by decide))
          refine lv_aload_n hx hb dX11_sight_35 rfl (lv_at hl 0 rfl) ?_
          obtain ⟨a1585, a1588, a1590, a1592, a1594, a1596, a1598, a1600, a1602, a1604, a1606, w1608, w1609, w1610, w1611, hO, hq1586, hq1587, hq1589, hq1591, hq1593, hq1595, hq1597, hq1599, hq1601, hq1603, hq1605, hq1607⟩ := op_15 hI hG0 List.not_mem_nil
          have hI := th_I.weak (a := h0) hI
          have k1612 : (nI (n % 401)).toInt = ((n % 401 : Nat) : Int) := nI_toInt (by omega)
          refine th_get hx hb hts inT11 hown hK hO rfl 0 (by decide) (hts _ (tb_c wd_345)) rfl rfl dX11_sight_36 ?_
          have hI := th_I.close hI hG0 hO (ok_15 hq1586 hq1587 hq1589 hq1591 hq1593 hq1595 hq1597 hq1599 hq1601 hq1603 hq1605 hq1607)
          obtain ⟨a1613, a1615, a1617, a1619, a1621, a1623, a1625, a1627, a1629, a1631, w1633, w1636, w1637, w1638, hO, hq1614, hq1616, hq1618, hq1620, hq1622, hq1624, hq1626, hq1628, hq1630, hq1632, ⟨k1634, k1635⟩⟩ := op_6 hI hq1586 List.not_mem_nil
          have hI := th_I.weak (a := a1585) hI
          refine th_getN hx hb hts inT6 hown hK hN hO rfl 6 (by decide) wn_74 rfl rfl dX11_sight_39 ?_
          have hI := th_I.close hI hq1586 hO (ok_6 hq1614 hq1616 hq1618 hq1620 hq1622 hq1624 hq1626 hq1628 hq1630 hq1632 ⟨by omega, by omega⟩)
          obtain ⟨a1640, w1642, hO, hq1641, ⟨k1643, k1644⟩, k1645⟩ := op_4 hI hq1626 List.not_mem_nil
          have hI := th_I.weak (a := a1625) hI
          have k1646 : (nI 10).toInt = ((10 : Nat) : Int) := nI_toInt (by omega)
          refine th_cVs (As := []) (rest := []) (n := 0) (d := 0) ⟨hx, hb, hml, hown, hts⟩ (c_X4_isFull l E D s.heap a1625 10 a1640 w1642 hO (by omega) (by omega) (by omega)) wd_481 wd_482 wd_483 wd_3 wd_484 (by decide +kernel) ⟨by rw [hR]; exact Nat.le_of_ble_eq_true rfl, by rw [hR]; exact Nat.le_of_ble_eq_true rfl⟩ hN hK hS ⟨_, hO⟩ rfl rfl hl.1 rfl (Nat.le_of_ble_eq_true rfl) dX11_sight_42 ⟨Nat.zero_le _, Nat.zero_le _⟩ (fun r1639 locs hp hS => ?_)
          rcases hp with ⟨rfl, hp⟩ | ⟨rfl, hp⟩
          · skip
            try simp only [rg, not_and, Int.not_le] at hp
            have hp1647 := hp
            refine lv_if_eq (tgt := 55) hx hb dX11_sight_45 (by decide) (fun c => absurd c (by decide)) (fun _ => ?_)
            refine lv_aload_n hx hb dX11_sight_48 rfl (lv_at hl 0 rfl) ?_
            refine lv_bipush (v := (-5)) hx hb dX11_sight_49 (by decide) ?_
            have hI := th_I.close hI hq1626 hO (ok_4 hq1641 ⟨by omega, by omega⟩ (by omega))
            refine th_cVi (As := [.int (-5)]) (rest := []) (n := 1) (d := 0) ⟨hx, hb, hml, hown, hts⟩ (c_X11_refuse l E D G h0 (n) hG0 (-5)) wd_407 wd_409 wp_0 wd_1 wd_410 (by decide +kernel) ⟨by rw [hR]; exact Nat.le_of_ble_eq_true rfl, by rw [hR]; exact Nat.le_of_ble_eq_true rfl⟩ hI hN hK hS (rc_15 hI hG0 List.not_mem_nil) rfl rfl hl.1 rfl (Nat.le_of_ble_eq_true rfl) dX11_sight_51 ⟨Nat.zero_le _, Nat.zero_le _⟩ (fun r1648 H locs hp hI hS => ?_)
            have hp := hp.symm
            subst hp
            have hpost : True := trivial
            rw [hQ]
            exact W.iret (v := (-5)) hx hb hr (fun t ht hW => ⟨⟨(-5), (), rfl, hpost, by rw [ht]; exact hI, hN.warm hW, va_K.moved hW.alike hK⟩, hS.F ht⟩) hS.2.2 dX11_sight_54
          · skip
            have hp1649 := hp
            refine lv_if_eq (tgt := 55) hx hb dX11_sight_45 (by decide) (fun _ => ?_) (fun c => absurd c (by decide))
            refine lv_aload_n hx hb dX11_sight_55 rfl (lv_at hl 0 rfl) ?_
            have hI := th_I.close hI hq1626 hO (ok_4 hq1641 ⟨by omega, by omega⟩ (by omega))
            obtain ⟨a1650, a1653, a1655, a1657, a1659, a1661, a1663, a1665, a1667, a1669, a1671, w1673, w1674, w1675, w1676, hO, hq1651, hq1652, hq1654, hq1656, hq1658, hq1660, hq1662, hq1664, hq1666, hq1668, hq1670, hq1672⟩ := op_15 hI hG0 List.not_mem_nil
            have hI := th_I.weak (a := h0) hI
            have k1677 : (nI (n % 401)).toInt = ((n % 401 : Nat) : Int) := nI_toInt (by omega)
            refine th_get hx hb hts inT11 hown hK hO rfl 0 (by decide) (hts _ (tb_c wd_345)) rfl rfl dX11_sight_56 ?_
            have hI := th_I.close hI hG0 hO (ok_15 hq1651 hq1652 hq1654 hq1656 hq1658 hq1660 hq1662 hq1664 hq1666 hq1668 hq1670 hq1672)
            obtain ⟨a1678, a1680, a1682, a1684, a1686, a1688, a1690, a1692, a1694, a1696, w1698, w1701, w1702, w1703, hO, hq1679, hq1681, hq1683, hq1685, hq1687, hq1689, hq1691, hq1693, hq1695, hq1697, ⟨k1699, k1700⟩⟩ := op_6 hI hq1651 List.not_mem_nil
            have hI := th_I.weak (a := a1650) hI
            refine th_getN hx hb hts inT6 hown hK hN hO rfl 6 (by decide) wn_74 rfl rfl dX11_sight_59 ?_
            refine lv_iload_n hx hb dX11_sight_62 rfl (lv_at hl 1 rfl) ?_
            refine lv_iload_n hx hb dX11_sight_63 rfl (lv_at hl 2 rfl) ?_
            refine lv_iload_n hx hb dX11_sight_64 rfl (lv_at hl 3 rfl) ?_
            refine lv_iload hx hb dX11_sight_65 (lv_at hl 4 rfl) ?_
            have hI := th_I.close hI hq1651 hO (ok_6 hq1679 hq1681 hq1683 hq1685 hq1687 hq1689 hq1691 hq1693 hq1695 hq1697 ⟨by omega, by omega⟩)
            refine th_cVi (As := [.int x1, .int x2, .int x3, .int x4]) (rest := []) (n := 4) (d := 1) ⟨hx, hb, hml, hown, hts⟩ (c_X4_put l E D G a1690 (10) hq1691 x1 x2 x3 x4) wd_485 wd_486 wd_487 wd_3 wd_488 (by decide +kernel) ⟨by rw [hR]; exact Nat.le_of_ble_eq_true rfl, by rw [hR]; exact Nat.le_of_ble_eq_true rfl⟩ hI hN hK hS (rc_4 hI hq1691 List.not_mem_nil) rfl rfl hl.1 rfl (Nat.le_of_ble_eq_true rfl) dX11_sight_67 ⟨Nat.zero_le _, Nat.zero_le _⟩ (fun r1704 H locs hp hI hS => ?_)
            refine lv_pop hx hb dX11_sight_70 rfl ?_
            refine lv_aload_n hx hb dX11_sight_71 rfl (lv_at hl 0 rfl) ?_
            refine th_cVv (As := []) (rest := []) (n := 0) (d := 1) ⟨hx, hb, hml, hown, hts⟩ (c_X11_turnLists l E D G h0 (n) hG0 ) wd_431 wd_433 wp_2 wd_1 wd_434 (by decide +kernel) ⟨by rw [hR]; exact Nat.le_of_ble_eq_true rfl, by rw [hR]; exact Nat.le_of_ble_eq_true rfl⟩ hI hN hK hS (rc_15 hI hG0 List.not_mem_nil) rfl rfl hl.1 rfl (Nat.le_of_ble_eq_true rfl) dX11_sight_72 ⟨Nat.zero_le _, Nat.zero_le _⟩ (fun H locs hI hS => ?_)
            refine lv_aload_n hx hb dX11_sight_75 rfl (lv_at hl 0 rfl) ?_
            refine lv_aload_n hx hb dX11_sight_76 rfl (lv_at hl 0 rfl) ?_
            obtain ⟨a1706, a1709, a1711, a1713, a1715, a1717, a1719, a1721, a1723, a1725, a1727, w1729, w1730, w1731, w1732, hO, hq1707, hq1708, hq1710, hq1712, hq1714, hq1716, hq1718, hq1720, hq1722, hq1724, hq1726, hq1728⟩ := op_15 hI hG0 List.not_mem_nil
            have hI := th_I.weak (a := h0) hI
            have k1733 : (nI (n % 401)).toInt = ((n % 401 : Nat) : Int) := nI_toInt (by omega)
            refine th_get hx hb hts inT11 hown hK hO rfl 0 (by decide) (hts _ (tb_c wd_345)) rfl rfl dX11_sight_77 ?_
            have hI := th_I.close hI hG0 hO (ok_15 hq1707 hq1708 hq1710 hq1712 hq1714 hq1716 hq1718 hq1720 hq1722 hq1724 hq1726 hq1728)
            obtain ⟨a1734, a1736, a1738, a1740, a1742, a1744, a1746, a1748, a1750, a1752, w1754, w1757, w1758, w1759, hO, hq1735, hq1737, hq1739, hq1741, hq1743, hq1745, hq1747, hq1749, hq1751, hq1753, ⟨k1755, k1756⟩⟩ := op_6 hI hq1707 List.not_mem_nil
            have hI := th_I.weak (a := a1706) hI
            refine th_getN hx hb hts inT6 hown hK hN hO rfl 6 (by decide) wn_74 rfl rfl dX11_sight_80 ?_
            have hI := th_I.close hI hq1707 hO (ok_6 hq1735 hq1737 hq1739 hq1741 hq1743 hq1745 hq1747 hq1749 hq1751 hq1753 ⟨by omega, by omega⟩)
            obtain ⟨a1761, w1763, hO, hq1762, ⟨k1764, k1765⟩, k1766⟩ := op_4 hI hq1747 List.not_mem_nil
            have hI := th_I.weak (a := a1746) hI
            have k1767 : (nI 10).toInt = ((10 : Nat) : Int) := nI_toInt (by omega)
            refine th_cVs (As := []) (rest := [.ref h0]) (n := 0) (d := 0) ⟨hx, hb, hml, hown, hts⟩ (c_X4_size l E D H a1746 10 a1761 w1763 hO (by omega) (by omega) (by omega)) wd_506 wd_507 wd_508 wd_3 wd_509 (by decide +kernel) ⟨by rw [hR]; exact Nat.le_of_ble_eq_true rfl, by rw [hR]; exact Nat.le_of_ble_eq_true rfl⟩ hN hK hS ⟨_, hO⟩ rfl rfl hl.1 rfl (Nat.le_of_ble_eq_true rfl) dX11_sight_83 ⟨Nat.zero_le _, Nat.zero_le _⟩ (fun r1760 locs hp hS => ?_)
            have hp := hp.symm
            subst hp
            have hI := th_I.close hI hq1747 hO (ok_4 hq1762 ⟨by omega, by omega⟩ (by omega))
            refine th_cVi (As := [.int w1763]) (rest := []) (n := 1) (d := 0) ⟨hx, hb, hml, hown, hts⟩ (c_X11_accept l E D G h0 (n) hG0 w1763) wd_447 wd_449 wp_3 wd_1 wd_450 (by decide +kernel) ⟨by rw [hR]; exact Nat.le_of_ble_eq_true rfl, by rw [hR]; exact Nat.le_of_ble_eq_true rfl⟩ hI hN hK hS (rc_15 hI hG0 List.not_mem_nil) rfl rfl hl.1 rfl (Nat.le_of_ble_eq_true rfl) dX11_sight_86 ⟨Nat.zero_le _, Nat.zero_le _⟩ (fun r1768 H locs hp hI hS => ?_)
            have hp := hp.symm
            subst hp
            have hpost : True := trivial
            rw [hQ]
            exact W.iret (v := w1763) hx hb hr (fun t ht hW => ⟨⟨w1763, (), rfl, hpost, by rw [ht]; exact hI, hN.warm hW, va_K.moved hW.alike hK⟩, hS.F ht⟩) hS.2.2 dX11_sight_89
        · skip
          try simp only [rg, not_and, Int.not_le] at hp
          have hp1769 := hp
          refine lv_if_ne (tgt := 35) hx hb dX11_sight_26 (by decide) (fun c => absurd c (by decide)) (fun _ => ?_)
          exact J_29 s.heap locs ls  (lv_sub hl [0, 1, 2, 3, 4] rfl)  hI hS
      · skip
        try simp only [rg, not_and, Int.not_le] at hp
        have hp1770 := hp
        refine lv_if_eq (tgt := 29) hx hb dX11_sight_18 (by decide) (fun _ => ?_) (fun c => absurd c (by decide))
        exact J_29 s.heap locs ls  (lv_sub hl [0, 1, 2, 3, 4] rfl)  hI hS
    · skip
      try simp only [rg, not_and, Int.not_le] at hp
      have hp1771 := hp
      refine lv_if_eq (tgt := 29) hx hb dX11_sight_11 (by decide) (fun _ => ?_) (fun c => absurd c (by decide))
      exact J_29 s.heap locs ls  (lv_sub hl [0, 1, 2, 3, 4] rfl)  hI hS
  · skip
    try simp only [rg, not_and, Int.not_le] at hp
    have hp1772 := hp
    refine lv_if_eq (tgt := 29) hx hb dX11_sight_4 (by decide) (fun _ => ?_) (fun c => absurd c (by decide))
    exact J_29 s.heap locs ls  (lv_sub hl [0, 1, 2, 3, 4] rfl)  hI hS
theorem dX11_forget_0 : decode cX11_forget 0 = .ok (.aload_n 0, 1) := by decide +kernel
theorem dX11_forget_1 : decode cX11_forget 1 = .ok (.invokevirtual 191, 3) := by decide +kernel
theorem dX11_forget_4 : decode cX11_forget 4 = .ok (.aload_n 0, 1) := by decide +kernel
theorem dX11_forget_5 : decode cX11_forget 5 = .ok (.getfield 12, 3) := by decide +kernel
theorem dX11_forget_8 : decode cX11_forget 8 = .ok (.getfield 292, 3) := by decide +kernel
theorem dX11_forget_11 : decode cX11_forget 11 = .ok (.invokevirtual 295, 3) := by decide +kernel
theorem dX11_forget_14 : decode cX11_forget 14 = .ok (.ireturn, 1) := by decide +kernel
set_option maxHeartbeats 4000000 in
set_option maxRecDepth 100000 in
theorem c_X11_forget (l : Launch) (E : Nat → ClassId) (D : va_G) (G : th_G) (h0 n : Nat) (hG0 : G h0 = some (15, n)) : Met l yX11_forget (tb (.code yX11_forget cX11_forget 1 (some .int))) (rm 2) (va_Pc [.ref h0] (th_P E D G)) (QI E D G (fun r => True)) 0 0 (th_A G) := by
  refine Met.ofW (cc := cX11_forget) (maxL := 1) (ret := (some .int)) (by decide) rfl ?_
  intro p e s m args below meth c s₁ B hml hv
  obtain ⟨hav, hI, hN, hK⟩ := hv
  have hx := B.exec
  have hb := B.bytes
  have hr := B.returns
  have hts := atoms_spec (ws := tb (.code yX11_forget cX11_forget 1 (some .int))) B.pre
  have hown : s.vm.findClass RX11 = some m.cls := findClass_of_methodNamed B.named
  have hlocks := B.notSynchronized
  have hS : va_S (th_A G) s.heap s.heap [] := va_S.rf
  have hl := lv_entry ([.ref h0]) (n := 1) (Nat.le_of_ble_eq_true rfl)
  rw [show entryFrame m args 1 = entryFrame m ([.ref h0] : List Value).toArray 1 from by rw [hav], lg_entry_eq]
  generalize (lg_sl ([.ref h0]) ++ List.replicate (1 - (lg_sl ([.ref h0])).length) Slot.unset).toArray = ls at hl ⊢
  have hl : lv_has ls 1 [(0, .ref h0)] := hl
  generalize hR : (headSpec (tb (.code yX11_forget cX11_forget 1 (some .int))) (rm 2)).room = R
  have hR := hR.symm
  generalize hQ : MQ below (QI E D G (fun r => True)) args s 0 0 (th_A G) = QF
  have hQ := hQ.symm
  refine lv_aload_n hx hb dX11_forget_0 rfl (lv_at hl 0 rfl) ?_
  refine th_cVv (As := []) (rest := []) (n := 0) (d := 1) ⟨hx, hb, hml, hown, hts⟩ (c_X11_turnLists l E D G h0 (n) hG0 ) wd_431 wd_433 wp_2 wd_1 wd_434 (by decide +kernel) ⟨by rw [hR]; exact Nat.le_of_ble_eq_true rfl, by rw [hR]; exact Nat.le_of_ble_eq_true rfl⟩ hI hN hK hS (rc_15 hI hG0 List.not_mem_nil) rfl rfl hl.1 rfl (Nat.le_of_ble_eq_true rfl) dX11_forget_1 ⟨Nat.zero_le _, Nat.zero_le _⟩ (fun H locs hI hS => ?_)
  refine lv_aload_n hx hb dX11_forget_4 rfl (lv_at hl 0 rfl) ?_
  obtain ⟨a2, a5, a7, a9, a11, a13, a15, a17, a19, a21, a23, w25, w26, w27, w28, hO, hq3, hq4, hq6, hq8, hq10, hq12, hq14, hq16, hq18, hq20, hq22, hq24⟩ := op_15 hI hG0 List.not_mem_nil
  have hI := th_I.weak (a := h0) hI
  have k29 : (nI (n % 401)).toInt = ((n % 401 : Nat) : Int) := nI_toInt (by omega)
  refine th_get hx hb hts inT11 hown hK hO rfl 0 (by decide) (hts _ (tb_c wd_345)) rfl rfl dX11_forget_5 ?_
  have hI := th_I.close hI hG0 hO (ok_15 hq3 hq4 hq6 hq8 hq10 hq12 hq14 hq16 hq18 hq20 hq22 hq24)
  obtain ⟨a30, a32, a34, a36, a38, a40, a42, a44, a46, a48, w50, w53, w54, w55, hO, hq31, hq33, hq35, hq37, hq39, hq41, hq43, hq45, hq47, hq49, ⟨k51, k52⟩⟩ := op_6 hI hq3 List.not_mem_nil
  have hI := th_I.weak (a := a2) hI
  refine th_getN hx hb hts inT6 hown hK hN hO rfl 6 (by decide) wn_74 rfl rfl dX11_forget_8 ?_
  have hI := th_I.close hI hq3 hO (ok_6 hq31 hq33 hq35 hq37 hq39 hq41 hq43 hq45 hq47 hq49 ⟨by omega, by omega⟩)
  refine th_cVi (As := []) (rest := []) (n := 0) (d := 0) ⟨hx, hb, hml, hown, hts⟩ (c_X4_clear l E D G a42 (10) hq43 ) wd_983 wd_984 wd_985 wd_3 wd_986 (by decide +kernel) ⟨by rw [hR]; exact Nat.le_of_ble_eq_true rfl, by rw [hR]; exact Nat.le_of_ble_eq_true rfl⟩ hI hN hK hS (rc_4 hI hq43 List.not_mem_nil) rfl rfl hl.1 rfl (Nat.le_of_ble_eq_true rfl) dX11_forget_11 ⟨Nat.zero_le _, Nat.zero_le _⟩ (fun r56 H locs hp hI hS => ?_)
  have hpost : True := trivial
  rw [hQ]
  exact W.iret (v := r56) hx hb hr (fun t ht hW => ⟨⟨r56, (), rfl, hpost, by rw [ht]; exact hI, hN.warm hW, va_K.moved hW.alike hK⟩, hS.F ht⟩) hS.2.2 dX11_forget_14
theorem dX11_so_0 : decode cX11_so 0 = .ok (.aload_n 0, 1) := by decide +kernel
theorem dX11_so_1 : decode cX11_so 1 = .ok (.getfield 12, 3) := by decide +kernel
theorem dX11_so_4 : decode cX11_so 4 = .ok (.getfield 292, 3) := by decide +kernel
theorem dX11_so_7 : decode cX11_so 7 = .ok (.iload_n 1, 1) := by decide +kernel
theorem dX11_so_8 : decode cX11_so 8 = .ok (.invokevirtual 159, 3) := by decide +kernel
theorem dX11_so_11 : decode cX11_so 11 = .ok (.ifCond .ne 5, 3) := by decide +kernel
theorem dX11_so_14 : decode cX11_so 14 = .ok (.iconst (-1), 1) := by decide +kernel
theorem dX11_so_15 : decode cX11_so 15 = .ok (.ireturn, 1) := by decide +kernel
theorem dX11_so_16 : decode cX11_so 16 = .ok (.aload_n 0, 1) := by decide +kernel
theorem dX11_so_17 : decode cX11_so 17 = .ok (.getfield 60, 3) := by decide +kernel
theorem dX11_so_20 : decode cX11_so 20 = .ok (.aload_n 0, 1) := by decide +kernel
theorem dX11_so_21 : decode cX11_so 21 = .ok (.getfield 12, 3) := by decide +kernel
theorem dX11_so_24 : decode cX11_so 24 = .ok (.getfield 292, 3) := by decide +kernel
theorem dX11_so_27 : decode cX11_so 27 = .ok (.iload_n 1, 1) := by decide +kernel
theorem dX11_so_28 : decode cX11_so 28 = .ok (.iconst 0, 1) := by decide +kernel
theorem dX11_so_29 : decode cX11_so 29 = .ok (.invokevirtual 173, 3) := by decide +kernel
theorem dX11_so_32 : decode cX11_so 32 = .ok (.aload_n 0, 1) := by decide +kernel
theorem dX11_so_33 : decode cX11_so 33 = .ok (.getfield 12, 3) := by decide +kernel
theorem dX11_so_36 : decode cX11_so 36 = .ok (.getfield 292, 3) := by decide +kernel
theorem dX11_so_39 : decode cX11_so 39 = .ok (.iload_n 1, 1) := by decide +kernel
theorem dX11_so_40 : decode cX11_so 40 = .ok (.iconst 1, 1) := by decide +kernel
theorem dX11_so_41 : decode cX11_so 41 = .ok (.invokevirtual 173, 3) := by decide +kernel
theorem dX11_so_44 : decode cX11_so 44 = .ok (.aload_n 0, 1) := by decide +kernel
theorem dX11_so_45 : decode cX11_so 45 = .ok (.getfield 12, 3) := by decide +kernel
theorem dX11_so_48 : decode cX11_so 48 = .ok (.getfield 292, 3) := by decide +kernel
theorem dX11_so_51 : decode cX11_so 51 = .ok (.iload_n 1, 1) := by decide +kernel
theorem dX11_so_52 : decode cX11_so 52 = .ok (.iconst 2, 1) := by decide +kernel
theorem dX11_so_53 : decode cX11_so 53 = .ok (.invokevirtual 173, 3) := by decide +kernel
theorem dX11_so_56 : decode cX11_so 56 = .ok (.invokevirtual 272, 3) := by decide +kernel
theorem dX11_so_59 : decode cX11_so 59 = .ok (.istore_n 2, 1) := by decide +kernel
theorem dX11_so_60 : decode cX11_so 60 = .ok (.aload_n 0, 1) := by decide +kernel
theorem dX11_so_61 : decode cX11_so 61 = .ok (.getfield 12, 3) := by decide +kernel
theorem dX11_so_64 : decode cX11_so 64 = .ok (.getfield 292, 3) := by decide +kernel
theorem dX11_so_67 : decode cX11_so 67 = .ok (.iload_n 1, 1) := by decide +kernel
theorem dX11_so_68 : decode cX11_so 68 = .ok (.iconst 3, 1) := by decide +kernel
theorem dX11_so_69 : decode cX11_so 69 = .ok (.invokevirtual 173, 3) := by decide +kernel
theorem dX11_so_72 : decode cX11_so 72 = .ok (.iconst 1, 1) := by decide +kernel
theorem dX11_so_73 : decode cX11_so 73 = .ok (.if_icmp .ne 7, 3) := by decide +kernel
theorem dX11_so_76 : decode cX11_so 76 = .ok (.iconst 1, 1) := by decide +kernel
theorem dX11_so_77 : decode cX11_so 77 = .ok (.goto 4, 3) := by decide +kernel
theorem dX11_so_80 : decode cX11_so 80 = .ok (.iconst 0, 1) := by decide +kernel
theorem dX11_so_81 : decode cX11_so 81 = .ok (.istore_n 3, 1) := by decide +kernel
theorem dX11_so_82 : decode cX11_so 82 = .ok (.iload_n 2, 1) := by decide +kernel
theorem dX11_so_83 : decode cX11_so 83 = .ok (.ifCond .le 7, 3) := by decide +kernel
theorem dX11_so_86 : decode cX11_so 86 = .ok (.iconst 1, 1) := by decide +kernel
theorem dX11_so_87 : decode cX11_so 87 = .ok (.goto 4, 3) := by decide +kernel
theorem dX11_so_90 : decode cX11_so 90 = .ok (.iconst 0, 1) := by decide +kernel
theorem dX11_so_91 : decode cX11_so 91 = .ok (.iload_n 3, 1) := by decide +kernel
theorem dX11_so_92 : decode cX11_so 92 = .ok (.if_icmp .ne 7, 3) := by decide +kernel
theorem dX11_so_95 : decode cX11_so 95 = .ok (.iconst 1, 1) := by decide +kernel
theorem dX11_so_96 : decode cX11_so 96 = .ok (.goto 4, 3) := by decide +kernel
theorem dX11_so_99 : decode cX11_so 99 = .ok (.iconst 0, 1) := by decide +kernel
theorem dX11_so_100 : decode cX11_so 100 = .ok (.ireturn, 1) := by decide +kernel
set_option maxHeartbeats 4000000 in
set_option maxRecDepth 100000 in
theorem c_X11_so (l : Launch) (E : Nat → ClassId) (D : va_G) (G : th_G) (h0 n : Nat) (hG0 : G h0 = some (15, n)) (x1 : Int32) : Met l yX11_so (tb (.code yX11_so cX11_so 4 (some .int))) (rm 8) (va_Pc [.ref h0, .int x1] (th_P E D G)) (QI E D G (fun r => True)) 0 0 (th_A G) := by
  refine Met.ofW (cc := cX11_so) (maxL := 4) (ret := (some .int)) (by decide) rfl ?_
  intro p e s m args below meth c s₁ B hml hv
  obtain ⟨hav, hI, hN, hK⟩ := hv
  have hx := B.exec
  have hb := B.bytes
  have hr := B.returns
  have hts := atoms_spec (ws := tb (.code yX11_so cX11_so 4 (some .int))) B.pre
  have hown : s.vm.findClass RX11 = some m.cls := findClass_of_methodNamed B.named
  have hlocks := B.notSynchronized
  have hS : va_S (th_A G) s.heap s.heap [] := va_S.rf
  have hl := lv_entry ([.ref h0, .int x1]) (n := 4) (Nat.le_of_ble_eq_true rfl)
  rw [show entryFrame m args 4 = entryFrame m ([.ref h0, .int x1] : List Value).toArray 4 from by rw [hav], lg_entry_eq]
  generalize (lg_sl ([.ref h0, .int x1]) ++ List.replicate (4 - (lg_sl ([.ref h0, .int x1])).length) Slot.unset).toArray = ls at hl ⊢
  have hl : lv_has ls 4 [(0, .ref h0), (1, .int x1)] := hl
  generalize hR : (headSpec (tb (.code yX11_so cX11_so 4 (some .int))) (rm 8)).room = R
  have hR := hR.symm
  generalize hQ : MQ below (QI E D G (fun r => True)) args s 0 0 (th_A G) = QF
  have hQ := hQ.symm
  have J_81 : ∀ (H : Heap) (locs : List Loc) (ls : Array Slot) (v2412 : Int32) (v2413 : Int32), lv_has ls 4 [(2, .int v2412), (0, .ref h0), (1, .int x1)] → ((0 : Int) ≤ x1.toInt ∧ x1.toInt ≤ 15) → ((0 : Int) ≤ v2413.toInt ∧ v2413.toInt ≤ 1) → th_I (okC E) D G [] H → va_S (th_A G) s.heap H locs → W p l e R s m args below meth c H locs 0 0 QF (F0 m 81 ls [.int v2413]) := by
    intro H locs ls v2412 v2413 hl k2414 k2415 hI hS
    refine lv_istore_n (lv' := [(3, .int v2413), (2, .int v2412), (0, .ref h0), (1, .int x1)]) hx hb dX11_so_81 rfl hl (by decide) rfl (fun ls hl => ?_)
    refine lv_iload_n hx hb dX11_so_82 rfl (lv_at hl 1 rfl) ?_
    have k2416 := iv_lo v2412
    have k2417 := iv_hi v2412
    refine lv_if_le (tgt := 90) hx hb dX11_so_83 (by decide) (fun c2418 => ?_) (fun c2418 => ?_)
    · skip
      have k2419 := iv_le (X := v2412.toInt) (Y := (0)) rfl (by decide) c2418
      refine lv_iconst (v := 0) hx hb dX11_so_90 (by decide) ?_
      refine lv_iload_n hx hb dX11_so_91 rfl (lv_at hl 0 rfl) ?_
      refine lv_icmp_ne (tgt := 99) hx hb dX11_so_92 (by decide) (fun c2420 => ?_) (fun c2420 => ?_)
      · skip
        have k2421 := iv_ne (X := (0)) (Y := v2413.toInt) (by decide) rfl c2420
        refine lv_iconst (v := 0) hx hb dX11_so_99 (by decide) ?_
        have hpost : True := trivial
        rw [hQ]
        exact W.iret (v := 0) hx hb hr (fun t ht hW => ⟨⟨0, (), rfl, hpost, by rw [ht]; exact hI, hN.warm hW, va_K.moved hW.alike hK⟩, hS.F ht⟩) hS.2.2 dX11_so_100
      · skip
        have k2422 := iv_eq (X := (0)) (Y := v2413.toInt) (by decide) rfl c2420
        refine lv_iconst (v := 1) hx hb dX11_so_95 (by decide) ?_
        refine lv_goto (tgt := 100) hx hb dX11_so_96 (by decide) ?_
        have hpost : True := trivial
        rw [hQ]
        exact W.iret (v := 1) hx hb hr (fun t ht hW => ⟨⟨1, (), rfl, hpost, by rw [ht]; exact hI, hN.warm hW, va_K.moved hW.alike hK⟩, hS.F ht⟩) hS.2.2 dX11_so_100
    · skip
      have k2423 := iv_nle (X := v2412.toInt) (Y := (0)) rfl (by decide) c2418
      refine lv_iconst (v := 1) hx hb dX11_so_86 (by decide) ?_
      refine lv_goto (tgt := 91) hx hb dX11_so_87 (by decide) ?_
      refine lv_iload_n hx hb dX11_so_91 rfl (lv_at hl 0 rfl) ?_
      refine lv_icmp_ne (tgt := 99) hx hb dX11_so_92 (by decide) (fun c2424 => ?_) (fun c2424 => ?_)
      · skip
        have k2425 := iv_ne (X := (1)) (Y := v2413.toInt) (by decide) rfl c2424
        refine lv_iconst (v := 0) hx hb dX11_so_99 (by decide) ?_
        have hpost : True := trivial
        rw [hQ]
        exact W.iret (v := 0) hx hb hr (fun t ht hW => ⟨⟨0, (), rfl, hpost, by rw [ht]; exact hI, hN.warm hW, va_K.moved hW.alike hK⟩, hS.F ht⟩) hS.2.2 dX11_so_100
      · skip
        have k2426 := iv_eq (X := (1)) (Y := v2413.toInt) (by decide) rfl c2424
        refine lv_iconst (v := 1) hx hb dX11_so_95 (by decide) ?_
        refine lv_goto (tgt := 100) hx hb dX11_so_96 (by decide) ?_
        have hpost : True := trivial
        rw [hQ]
        exact W.iret (v := 1) hx hb hr (fun t ht hW => ⟨⟨1, (), rfl, hpost, by rw [ht]; exact hI, hN.warm hW, va_K.moved hW.alike hK⟩, hS.F ht⟩) hS.2.2 dX11_so_100
  refine lv_aload_n hx hb dX11_so_0 rfl (lv_at hl 0 rfl) ?_
  obtain ⟨a2427, a2430, a2432, a2434, a2436, a2438, a2440, a2442, a2444, a2446, a2448, w2450, w2451, w2452, w2453, hO, hq2428, hq2429, hq2431, hq2433, hq2435, hq2437, hq2439, hq2441, hq2443, hq2445, hq2447, hq2449⟩ := op_15 hI hG0 List.not_mem_nil
  have hI := th_I.weak (a := h0) hI
  have k2454 : (nI (n % 401)).toInt = ((n % 401 : Nat) : Int) := nI_toInt (by omega)
  refine th_get hx hb hts inT11 hown hK hO rfl 0 (by decide) (hts _ (tb_c wd_345)) rfl rfl dX11_so_1 ?_
  have hI := th_I.close hI hG0 hO (ok_15 hq2428 hq2429 hq2431 hq2433 hq2435 hq2437 hq2439 hq2441 hq2443 hq2445 hq2447 hq2449)
  obtain ⟨a2455, a2457, a2459, a2461, a2463, a2465, a2467, a2469, a2471, a2473, w2475, w2478, w2479, w2480, hO, hq2456, hq2458, hq2460, hq2462, hq2464, hq2466, hq2468, hq2470, hq2472, hq2474, ⟨k2476, k2477⟩⟩ := op_6 hI hq2428 List.not_mem_nil
  have hI := th_I.weak (a := a2427) hI
  refine th_getN hx hb hts inT6 hown hK hN hO rfl 6 (by decide) wn_74 rfl rfl dX11_so_4 ?_
  refine lv_iload_n hx hb dX11_so_7 rfl (lv_at hl 1 rfl) ?_
  have hI := th_I.close hI hq2428 hO (ok_6 hq2456 hq2458 hq2460 hq2462 hq2464 hq2466 hq2468 hq2470 hq2472 hq2474 ⟨by omega, by omega⟩)
  obtain ⟨a2482, w2484, hO, hq2483, ⟨k2485, k2486⟩, k2487⟩ := op_4 hI hq2468 List.not_mem_nil
  have hI := th_I.weak (a := a2467) hI
  have k2488 : (nI 10).toInt = ((10 : Nat) : Int) := nI_toInt (by omega)
  refine th_cVs (As := [.int x1]) (rest := []) (n := 1) (d := 0) ⟨hx, hb, hml, hown, hts⟩ (c_X4_has l E D s.heap a2467 10 a2482 w2484 hO (by omega) (by omega) (by omega) x1) wd_494 wd_495 wd_496 wd_3 wd_497 (by decide +kernel) ⟨by rw [hR]; exact Nat.le_of_ble_eq_true rfl, by rw [hR]; exact Nat.le_of_ble_eq_true rfl⟩ hN hK hS ⟨_, hO⟩ rfl rfl hl.1 rfl (Nat.le_of_ble_eq_true rfl) dX11_so_8 ⟨Nat.zero_le _, Nat.zero_le _⟩ (fun r2481 locs hp hS => ?_)
  rcases hp with ⟨rfl, hp⟩ | ⟨rfl, hp⟩
  · skip
    try simp only [rg, not_and, Int.not_le] at hp
    have hp2489 := hp
    refine lv_if_ne (tgt := 16) hx hb dX11_so_11 (by decide) (fun _ => ?_) (fun c => absurd c (by decide))
    refine lv_aload_n hx hb dX11_so_16 rfl (lv_at hl 0 rfl) ?_
    have hI := th_I.close hI hq2468 hO (ok_4 hq2483 ⟨by omega, by omega⟩ (by omega))
    obtain ⟨a2490, a2493, a2495, a2497, a2499, a2501, a2503, a2505, a2507, a2509, a2511, w2513, w2514, w2515, w2516, hO, hq2491, hq2492, hq2494, hq2496, hq2498, hq2500, hq2502, hq2504, hq2506, hq2508, hq2510, hq2512⟩ := op_15 hI hG0 List.not_mem_nil
    have hI := th_I.weak (a := h0) hI
    have k2517 : (nI (n % 401)).toInt = ((n % 401 : Nat) : Int) := nI_toInt (by omega)
    refine th_get hx hb hts inT11 hown hK hO rfl 8 (by decide) (hts _ (tb_c wd_353)) rfl rfl dX11_so_17 ?_
    refine lv_aload_n hx hb dX11_so_20 rfl (lv_at hl 0 rfl) ?_
    refine th_get hx hb hts inT11 hown hK hO rfl 0 (by decide) (hts _ (tb_c wd_345)) rfl rfl dX11_so_21 ?_
    have hI := th_I.close hI hG0 hO (ok_15 hq2491 hq2492 hq2494 hq2496 hq2498 hq2500 hq2502 hq2504 hq2506 hq2508 hq2510 hq2512)
    obtain ⟨a2518, a2520, a2522, a2524, a2526, a2528, a2530, a2532, a2534, a2536, w2538, w2541, w2542, w2543, hO, hq2519, hq2521, hq2523, hq2525, hq2527, hq2529, hq2531, hq2533, hq2535, hq2537, ⟨k2539, k2540⟩⟩ := op_6 hI hq2491 List.not_mem_nil
    have hI := th_I.weak (a := a2490) hI
    refine th_getN hx hb hts inT6 hown hK hN hO rfl 6 (by decide) wn_74 rfl rfl dX11_so_24 ?_
    refine lv_iload_n hx hb dX11_so_27 rfl (lv_at hl 1 rfl) ?_
    refine lv_iconst (v := 0) hx hb dX11_so_28 (by decide) ?_
    have hI := th_I.close hI hq2491 hO (ok_6 hq2519 hq2521 hq2523 hq2525 hq2527 hq2529 hq2531 hq2533 hq2535 hq2537 ⟨by omega, by omega⟩)
    refine th_cVi (As := [.int x1, .int 0]) (rest := [.ref a2505]) (n := 2) (d := 0) ⟨hx, hb, hml, hown, hts⟩ (c_X4_at l E D G a2530 (10) hq2531 x1 0) wd_518 wd_519 wd_520 wd_3 wd_521 (by decide +kernel) ⟨by rw [hR]; exact Nat.le_of_ble_eq_true rfl, by rw [hR]; exact Nat.le_of_ble_eq_true rfl⟩ hI hN hK hS (rc_4 hI hq2531 List.not_mem_nil) rfl rfl hl.1 rfl (Nat.le_of_ble_eq_true rfl) dX11_so_29 ⟨Nat.zero_le _, Nat.zero_le _⟩ (fun r2544 H locs hp hI hS => ?_)
    refine lv_aload_n hx hb dX11_so_32 rfl (lv_at hl 0 rfl) ?_
    obtain ⟨a2545, a2548, a2550, a2552, a2554, a2556, a2558, a2560, a2562, a2564, a2566, w2568, w2569, w2570, w2571, hO, hq2546, hq2547, hq2549, hq2551, hq2553, hq2555, hq2557, hq2559, hq2561, hq2563, hq2565, hq2567⟩ := op_15 hI hG0 List.not_mem_nil
    have hI := th_I.weak (a := h0) hI
    have k2572 : (nI (n % 401)).toInt = ((n % 401 : Nat) : Int) := nI_toInt (by omega)
    refine th_get hx hb hts inT11 hown hK hO rfl 0 (by decide) (hts _ (tb_c wd_345)) rfl rfl dX11_so_33 ?_
    have hI := th_I.close hI hG0 hO (ok_15 hq2546 hq2547 hq2549 hq2551 hq2553 hq2555 hq2557 hq2559 hq2561 hq2563 hq2565 hq2567)
    obtain ⟨a2573, a2575, a2577, a2579, a2581, a2583, a2585, a2587, a2589, a2591, w2593, w2596, w2597, w2598, hO, hq2574, hq2576, hq2578, hq2580, hq2582, hq2584, hq2586, hq2588, hq2590, hq2592, ⟨k2594, k2595⟩⟩ := op_6 hI hq2546 List.not_mem_nil
    have hI := th_I.weak (a := a2545) hI
    refine th_getN hx hb hts inT6 hown hK hN hO rfl 6 (by decide) wn_74 rfl rfl dX11_so_36 ?_
    refine lv_iload_n hx hb dX11_so_39 rfl (lv_at hl 1 rfl) ?_
    refine lv_iconst (v := 1) hx hb dX11_so_40 (by decide) ?_
    have hI := th_I.close hI hq2546 hO (ok_6 hq2574 hq2576 hq2578 hq2580 hq2582 hq2584 hq2586 hq2588 hq2590 hq2592 ⟨by omega, by omega⟩)
    refine th_cVi (As := [.int x1, .int 1]) (rest := [.int r2544, .ref a2505]) (n := 2) (d := 0) ⟨hx, hb, hml, hown, hts⟩ (c_X4_at l E D G a2585 (10) hq2586 x1 1) wd_518 wd_519 wd_520 wd_3 wd_521 (by decide +kernel) ⟨by rw [hR]; exact Nat.le_of_ble_eq_true rfl, by rw [hR]; exact Nat.le_of_ble_eq_true rfl⟩ hI hN hK hS (rc_4 hI hq2586 List.not_mem_nil) rfl rfl hl.1 rfl (Nat.le_of_ble_eq_true rfl) dX11_so_41 ⟨Nat.zero_le _, Nat.zero_le _⟩ (fun r2599 H locs hp hI hS => ?_)
    refine lv_aload_n hx hb dX11_so_44 rfl (lv_at hl 0 rfl) ?_
    obtain ⟨a2600, a2603, a2605, a2607, a2609, a2611, a2613, a2615, a2617, a2619, a2621, w2623, w2624, w2625, w2626, hO, hq2601, hq2602, hq2604, hq2606, hq2608, hq2610, hq2612, hq2614, hq2616, hq2618, hq2620, hq2622⟩ := op_15 hI hG0 List.not_mem_nil
    have hI := th_I.weak (a := h0) hI
    have k2627 : (nI (n % 401)).toInt = ((n % 401 : Nat) : Int) := nI_toInt (by omega)
    refine th_get hx hb hts inT11 hown hK hO rfl 0 (by decide) (hts _ (tb_c wd_345)) rfl rfl dX11_so_45 ?_
    have hI := th_I.close hI hG0 hO (ok_15 hq2601 hq2602 hq2604 hq2606 hq2608 hq2610 hq2612 hq2614 hq2616 hq2618 hq2620 hq2622)
    obtain ⟨a2628, a2630, a2632, a2634, a2636, a2638, a2640, a2642, a2644, a2646, w2648, w2651, w2652, w2653, hO, hq2629, hq2631, hq2633, hq2635, hq2637, hq2639, hq2641, hq2643, hq2645, hq2647, ⟨k2649, k2650⟩⟩ := op_6 hI hq2601 List.not_mem_nil
    have hI := th_I.weak (a := a2600) hI
    refine th_getN hx hb hts inT6 hown hK hN hO rfl 6 (by decide) wn_74 rfl rfl dX11_so_48 ?_
    refine lv_iload_n hx hb dX11_so_51 rfl (lv_at hl 1 rfl) ?_
    refine lv_iconst (v := 2) hx hb dX11_so_52 (by decide) ?_
    have hI := th_I.close hI hq2601 hO (ok_6 hq2629 hq2631 hq2633 hq2635 hq2637 hq2639 hq2641 hq2643 hq2645 hq2647 ⟨by omega, by omega⟩)
    refine th_cVi (As := [.int x1, .int 2]) (rest := [.int r2599, .int r2544, .ref a2505]) (n := 2) (d := 0) ⟨hx, hb, hml, hown, hts⟩ (c_X4_at l E D G a2640 (10) hq2641 x1 2) wd_518 wd_519 wd_520 wd_3 wd_521 (by decide +kernel) ⟨by rw [hR]; exact Nat.le_of_ble_eq_true rfl, by rw [hR]; exact Nat.le_of_ble_eq_true rfl⟩ hI hN hK hS (rc_4 hI hq2641 List.not_mem_nil) rfl rfl hl.1 rfl (Nat.le_of_ble_eq_true rfl) dX11_so_53 ⟨Nat.zero_le _, Nat.zero_le _⟩ (fun r2654 H locs hp hI hS => ?_)
    refine th_cVi (As := [.int r2544, .int r2599, .int r2654]) (rest := []) (n := 3) (d := 7) ⟨hx, hb, hml, hown, hts⟩ (c_X1_amountAt l E D G a2505 hq2506 r2544 r2599 r2654) wd_916 wd_917 wd_918 wd_9 wd_919 (by decide +kernel) ⟨by rw [hR]; exact Nat.le_of_ble_eq_true rfl, by rw [hR]; exact Nat.le_of_ble_eq_true rfl⟩ hI hN hK hS (rc_11 hI hq2506 List.not_mem_nil) rfl rfl hl.1 rfl (Nat.le_of_ble_eq_true rfl) dX11_so_56 ⟨Nat.zero_le _, Nat.zero_le _⟩ (fun r2655 H locs hp hI hS => ?_)
    refine lv_istore_n (lv' := [(2, .int r2655), (0, .ref h0), (1, .int x1)]) hx hb dX11_so_59 rfl hl (by decide) rfl (fun ls hl => ?_)
    refine lv_aload_n hx hb dX11_so_60 rfl (lv_at hl 1 rfl) ?_
    obtain ⟨a2656, a2659, a2661, a2663, a2665, a2667, a2669, a2671, a2673, a2675, a2677, w2679, w2680, w2681, w2682, hO, hq2657, hq2658, hq2660, hq2662, hq2664, hq2666, hq2668, hq2670, hq2672, hq2674, hq2676, hq2678⟩ := op_15 hI hG0 List.not_mem_nil
    have hI := th_I.weak (a := h0) hI
    have k2683 : (nI (n % 401)).toInt = ((n % 401 : Nat) : Int) := nI_toInt (by omega)
    refine th_get hx hb hts inT11 hown hK hO rfl 0 (by decide) (hts _ (tb_c wd_345)) rfl rfl dX11_so_61 ?_
    have hI := th_I.close hI hG0 hO (ok_15 hq2657 hq2658 hq2660 hq2662 hq2664 hq2666 hq2668 hq2670 hq2672 hq2674 hq2676 hq2678)
    obtain ⟨a2684, a2686, a2688, a2690, a2692, a2694, a2696, a2698, a2700, a2702, w2704, w2707, w2708, w2709, hO, hq2685, hq2687, hq2689, hq2691, hq2693, hq2695, hq2697, hq2699, hq2701, hq2703, ⟨k2705, k2706⟩⟩ := op_6 hI hq2657 List.not_mem_nil
    have hI := th_I.weak (a := a2656) hI
    refine th_getN hx hb hts inT6 hown hK hN hO rfl 6 (by decide) wn_74 rfl rfl dX11_so_64 ?_
    refine lv_iload_n hx hb dX11_so_67 rfl (lv_at hl 2 rfl) ?_
    refine lv_iconst (v := 3) hx hb dX11_so_68 (by decide) ?_
    have hI := th_I.close hI hq2657 hO (ok_6 hq2685 hq2687 hq2689 hq2691 hq2693 hq2695 hq2697 hq2699 hq2701 hq2703 ⟨by omega, by omega⟩)
    refine th_cVi (As := [.int x1, .int 3]) (rest := []) (n := 2) (d := 0) ⟨hx, hb, hml, hown, hts⟩ (c_X4_at l E D G a2696 (10) hq2697 x1 3) wd_518 wd_519 wd_520 wd_3 wd_521 (by decide +kernel) ⟨by rw [hR]; exact Nat.le_of_ble_eq_true rfl, by rw [hR]; exact Nat.le_of_ble_eq_true rfl⟩ hI hN hK hS (rc_4 hI hq2697 List.not_mem_nil) rfl rfl hl.1 rfl (Nat.le_of_ble_eq_true rfl) dX11_so_69 ⟨Nat.zero_le _, Nat.zero_le _⟩ (fun r2710 H locs hp hI hS => ?_)
    refine lv_iconst (v := 1) hx hb dX11_so_72 (by decide) ?_
    have k2711 := iv_lo r2710
    have k2712 := iv_hi r2710
    refine lv_icmp_ne (tgt := 80) hx hb dX11_so_73 (by decide) (fun c2713 => ?_) (fun c2713 => ?_)
    · skip
      have k2714 := iv_ne (X := r2710.toInt) (Y := (1)) rfl (by decide) c2713
      refine lv_iconst (v := 0) hx hb dX11_so_80 (by decide) ?_
      exact J_81 H locs ls r2655 0 (lv_sub hl [0, 1, 2] rfl) ⟨by omega, by omega⟩ ⟨by decide, by decide⟩ hI hS
    · skip
      have k2715 := iv_eq (X := r2710.toInt) (Y := (1)) rfl (by decide) c2713
      refine lv_iconst (v := 1) hx hb dX11_so_76 (by decide) ?_
      refine lv_goto (tgt := 81) hx hb dX11_so_77 (by decide) ?_
      exact J_81 H locs ls r2655 1 (lv_sub hl [0, 1, 2] rfl) ⟨by omega, by omega⟩ ⟨by decide, by decide⟩ hI hS
  · skip
    have hp2716 := hp
    refine lv_if_ne (tgt := 16) hx hb dX11_so_11 (by decide) (fun c => absurd c (by decide)) (fun _ => ?_)
    refine lv_iconst (v := (-1)) hx hb dX11_so_14 (by decide) ?_
    have hI := th_I.close hI hq2468 hO (ok_4 hq2483 ⟨by omega, by omega⟩ (by omega))
    have hpost : True := trivial
    rw [hQ]
    exact W.iret (v := (-1)) hx hb hr (fun t ht hW => ⟨⟨(-1), (), rfl, hpost, by rw [ht]; exact hI, hN.warm hW, va_K.moved hW.alike hK⟩, hS.F ht⟩) hS.2.2 dX11_so_15
