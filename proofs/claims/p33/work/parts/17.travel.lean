theorem wn_1015 : (Cond.methodLinkNest RX9 (34 : Nat) yX11_isMoment "NineRiver") ∈ lw_tbl := List.mem_append_right _ (List.mem_of_getElem? (i := 1015) (by decide +kernel))
theorem wn_1103 : (Cond.methodLinkNest RX9 (74 : Nat) yX11_isPlace "NineRiver") ∈ lw_tbl := List.mem_append_right _ (List.mem_of_getElem? (i := 1103) (by decide +kernel))
theorem wn_67 : (Cond.fieldLinkNest RX9 (38 : Nat) "NineRiver$State" "boats" "LNineRiver$Rows;" "NineRiver") ∈ lw_tbl := List.mem_append_right _ (List.mem_of_getElem? (i := 67) (by decide +kernel))
theorem wp_23 : Cond.selects RX9 yX9_sail yX9_sail ∈ TB := tv 23 (by decide +kernel) (by decide +kernel)
theorem wp_24 : Cond.selects RX9 yX9_isMoored yX9_isMoored ∈ TB := tv 24 (by decide +kernel) (by decide +kernel)
theorem wp_39 : Cond.selects RX9 yX9_stepAll yX9_stepAll ∈ TB := tv 39 (by decide +kernel) (by decide +kernel)
theorem wd_1102 : (Cond.methodLink RX9 (68 : Nat) yJ7_fill_53178) ∈ TB := tw 1102 (by decide +kernel) (by decide +kernel)
theorem wd_1104 : (Cond.methodLink RX9 (77 : Nat) yX9_drift) ∈ TB := tw 1104 (by decide +kernel) (by decide +kernel)
theorem wd_1113 : (Cond.methodLink RX9 (80 : Nat) yX6_strikeIn) ∈ TB := tw 1113 (by decide +kernel) (by decide +kernel)
theorem wd_1114 : (Cond.methodLink RX9 (84 : Nat) yX7_stepIf) ∈ TB := tw 1114 (by decide +kernel) (by decide +kernel)
theorem wd_1115 : (Jvm.Cond.instanceMethod yX7_stepIf) ∈ TB := tw 1115 (by decide +kernel) (by decide +kernel)
theorem wd_1116 : (Cond.selects RX7 yX7_stepIf yX7_stepIf) ∈ TB := tw 1116 (by decide +kernel) (by decide +kernel)
theorem wd_1117 : (Cond.code yX7_stepIf cX7_stepIf 4 (Option.some Jvm.ClassFile.FieldType.int)) ∈ TB := tw 1117 (by decide +kernel) (by decide +kernel)
theorem wd_1186 : (Cond.constantLong RX9 (87 : Nat) (1103 : Int64)) ∈ TB := tw 1186 (by decide +kernel) (by decide +kernel)
theorem wd_1187 : (Cond.constantLong RX9 (89 : Nat) (12345 : Int64)) ∈ TB := tw 1187 (by decide +kernel) (by decide +kernel)
theorem wd_1188 : (Cond.constantLong RX9 (91 : Nat) (1000003 : Int64)) ∈ TB := tw 1188 (by decide +kernel) (by decide +kernel)
theorem wd_1189 : (Cond.constantLong RX9 (93 : Nat) (100 : Int64)) ∈ TB := tw 1189 (by decide +kernel) (by decide +kernel)
theorem wd_1190 : (Cond.methodLink RX9 (95 : Nat) yX9_stepAll) ∈ TB := tw 1190 (by decide +kernel) (by decide +kernel)
theorem wd_1192 : (Jvm.Cond.instanceMethod yX9_stepAll) ∈ TB := tw 1192 (by decide +kernel) (by decide +kernel)
theorem wd_1193 : (Cond.code yX9_stepAll cX9_stepAll 6 (Option.none : Option Jvm.ClassFile.FieldType)) ∈ TB := tw 1193 (by decide +kernel) (by decide +kernel)
theorem wd_217 : (Cond.fieldLink RX9 (18 : Nat) "NineRiver$Travel" "state" "LNineRiver$State;") ∈ TB := tw 217 (by decide +kernel) (by decide +kernel)
theorem wd_218 : (Cond.fieldLink RX9 (22 : Nat) "NineRiver$Travel" "stream" "LNineRiver$Stream;") ∈ TB := tw 218 (by decide +kernel) (by decide +kernel)
theorem wd_219 : (Cond.fieldLink RX9 (9 : Nat) "NineRiver$Travel" "origins" "[I") ∈ TB := tw 219 (by decide +kernel) (by decide +kernel)
theorem wd_220 : (Cond.fieldLink RX9 (15 : Nat) "NineRiver$Travel" "begun" "[I") ∈ TB := tw 220 (by decide +kernel) (by decide +kernel)
theorem wd_8 : (Cond.initialized RX9) ∈ TB := tw 8 (by decide +kernel) (by decide +kernel)
theorem wd_827 : (Jvm.Cond.static yX11_isMoment) ∈ TB := tw 827 (by decide +kernel) (by decide +kernel)
theorem wd_828 : (Cond.code yX11_isMoment cX11_isMoment 1 (Option.some Jvm.ClassFile.FieldType.boolean)) ∈ TB := tw 828 (by decide +kernel) (by decide +kernel)
theorem wd_830 : (Jvm.Cond.instanceMethod yX9_drift) ∈ TB := tw 830 (by decide +kernel) (by decide +kernel)
theorem wd_831 : (Cond.selects RX9 yX9_drift yX9_drift) ∈ TB := tw 831 (by decide +kernel) (by decide +kernel)
theorem wd_832 : (Cond.code yX9_drift cX9_drift 6 (Option.some Jvm.ClassFile.FieldType.int)) ∈ TB := tw 832 (by decide +kernel) (by decide +kernel)
theorem wd_833 : (Cond.methodLink RX9 (26 : Nat) yX7_stepFrom) ∈ TB := tw 833 (by decide +kernel) (by decide +kernel)
theorem wd_848 : (Jvm.Cond.static yX11_isPlace) ∈ TB := tw 848 (by decide +kernel) (by decide +kernel)
theorem wd_849 : (Cond.code yX11_isPlace cX11_isPlace 1 (Option.some Jvm.ClassFile.FieldType.boolean)) ∈ TB := tw 849 (by decide +kernel) (by decide +kernel)
theorem wd_854 : (Cond.constant RX9 (32 : Nat) (16777215 : Int32)) ∈ TB := tw 854 (by decide +kernel) (by decide +kernel)
theorem wd_855 : (Cond.constant RX9 (33 : Nat) (16777216 : Int32)) ∈ TB := tw 855 (by decide +kernel) (by decide +kernel)
theorem wd_873 : (Jvm.Cond.instanceMethod yX9_boatAt) ∈ TB := tw 873 (by decide +kernel) (by decide +kernel)
theorem wd_874 : (Cond.selects RX9 yX9_boatAt yX9_boatAt) ∈ TB := tw 874 (by decide +kernel) (by decide +kernel)
theorem wd_875 : (Cond.code yX9_boatAt cX9_boatAt 5 (Option.some Jvm.ClassFile.FieldType.int)) ∈ TB := tw 875 (by decide +kernel) (by decide +kernel)
theorem wd_876 : (Cond.methodLink RX9 (44 : Nat) yX4_at) ∈ TB := tw 876 (by decide +kernel) (by decide +kernel)
theorem wd_877 : (Cond.methodLink RX9 (49 : Nat) yX9_sail) ∈ TB := tw 877 (by decide +kernel) (by decide +kernel)
theorem wd_879 : (Jvm.Cond.instanceMethod yX9_sail) ∈ TB := tw 879 (by decide +kernel) (by decide +kernel)
theorem wd_880 : (Cond.code yX9_sail cX9_sail 4 (Option.some Jvm.ClassFile.FieldType.int)) ∈ TB := tw 880 (by decide +kernel) (by decide +kernel)
theorem wd_881 : (Cond.methodLink RX9 (53 : Nat) yX9_isMoored) ∈ TB := tw 881 (by decide +kernel) (by decide +kernel)
theorem wd_883 : (Jvm.Cond.instanceMethod yX9_isMoored) ∈ TB := tw 883 (by decide +kernel) (by decide +kernel)
theorem wd_884 : (Cond.code yX9_isMoored cX9_isMoored 3 (Option.some Jvm.ClassFile.FieldType.boolean)) ∈ TB := tw 884 (by decide +kernel) (by decide +kernel)
theorem wd_889 : (Cond.methodLink RX9 (57 : Nat) yX7_tollsFrom) ∈ TB := tw 889 (by decide +kernel) (by decide +kernel)
theorem wd_890 : (Jvm.Cond.instanceMethod yX7_tollsFrom) ∈ TB := tw 890 (by decide +kernel) (by decide +kernel)
theorem wd_891 : (Cond.selects RX7 yX7_tollsFrom yX7_tollsFrom) ∈ TB := tw 891 (by decide +kernel) (by decide +kernel)
theorem wd_892 : (Cond.code yX7_tollsFrom cX7_tollsFrom 6 (Option.some Jvm.ClassFile.FieldType.int)) ∈ TB := tw 892 (by decide +kernel) (by decide +kernel)
theorem wd_902 : (Cond.methodLink RX9 (60 : Nat) Lib.Math.max.name) ∈ TB := tw 902 (by decide +kernel) (by decide +kernel)
theorem wd_903 : (Cond.methodLink RX9 (65 : Nat) yX9_boatAt) ∈ TB := tw 903 (by decide +kernel) (by decide +kernel)
theorem dX9_drift_0g : (decode cX9_drift 0 = .ok (.iload_n 1, 1)) ∧ (decode cX9_drift 1 = .ok (.istore 4, 2)) ∧ (decode cX9_drift 3 = .ok (.iload_n 2, 1)) ∧ (decode cX9_drift 4 = .ok (.istore 5, 2)) ∧ (decode cX9_drift 6 = .ok (.iload 5, 2)) ∧ (decode cX9_drift 8 = .ok (.iload_n 3, 1)) ∧ (decode cX9_drift 9 = .ok (.if_icmp .ge 36, 3)) ∧ (decode cX9_drift 12 = .ok (.iload 5, 2)) ∧ (decode cX9_drift 14 = .ok (.bipush 96, 2)) ∧ (decode cX9_drift 16 = .ok (.if_icmp .ge 29, 3)) := by decide +kernel
theorem dX9_drift_0 : decode cX9_drift 0 = .ok (.iload_n 1, 1) := dX9_drift_0g.1
theorem dX9_drift_1 : decode cX9_drift 1 = .ok (.istore 4, 2) := dX9_drift_0g.2.1
theorem dX9_drift_3 : decode cX9_drift 3 = .ok (.iload_n 2, 1) := dX9_drift_0g.2.2.1
theorem dX9_drift_4 : decode cX9_drift 4 = .ok (.istore 5, 2) := dX9_drift_0g.2.2.2.1
theorem dX9_drift_6 : decode cX9_drift 6 = .ok (.iload 5, 2) := dX9_drift_0g.2.2.2.2.1
theorem dX9_drift_8 : decode cX9_drift 8 = .ok (.iload_n 3, 1) := dX9_drift_0g.2.2.2.2.2.1
theorem dX9_drift_9 : decode cX9_drift 9 = .ok (.if_icmp .ge 36, 3) := dX9_drift_0g.2.2.2.2.2.2.1
theorem dX9_drift_12 : decode cX9_drift 12 = .ok (.iload 5, 2) := dX9_drift_0g.2.2.2.2.2.2.2.1
theorem dX9_drift_14 : decode cX9_drift 14 = .ok (.bipush 96, 2) := dX9_drift_0g.2.2.2.2.2.2.2.2.1
theorem dX9_drift_16 : decode cX9_drift 16 = .ok (.if_icmp .ge 29, 3) := dX9_drift_0g.2.2.2.2.2.2.2.2.2
theorem dX9_drift_19g : (decode cX9_drift 19 = .ok (.iload 4, 2)) ∧ (decode cX9_drift 21 = .ok (.bipush 24, 2)) ∧ (decode cX9_drift 23 = .ok (.if_icmp .eq 22, 3)) ∧ (decode cX9_drift 26 = .ok (.aload_n 0, 1)) ∧ (decode cX9_drift 27 = .ok (.getfield 22, 3)) ∧ (decode cX9_drift 30 = .ok (.iload 4, 2)) ∧ (decode cX9_drift 32 = .ok (.iload 5, 2)) ∧ (decode cX9_drift 34 = .ok (.invokevirtual 26, 3)) ∧ (decode cX9_drift 37 = .ok (.istore 4, 2)) ∧ (decode cX9_drift 39 = .ok (.iinc 5 1, 3)) := by decide +kernel
theorem dX9_drift_19 : decode cX9_drift 19 = .ok (.iload 4, 2) := dX9_drift_19g.1
theorem dX9_drift_21 : decode cX9_drift 21 = .ok (.bipush 24, 2) := dX9_drift_19g.2.1
theorem dX9_drift_23 : decode cX9_drift 23 = .ok (.if_icmp .eq 22, 3) := dX9_drift_19g.2.2.1
theorem dX9_drift_26 : decode cX9_drift 26 = .ok (.aload_n 0, 1) := dX9_drift_19g.2.2.2.1
theorem dX9_drift_27 : decode cX9_drift 27 = .ok (.getfield 22, 3) := dX9_drift_19g.2.2.2.2.1
theorem dX9_drift_30 : decode cX9_drift 30 = .ok (.iload 4, 2) := dX9_drift_19g.2.2.2.2.2.1
theorem dX9_drift_32 : decode cX9_drift 32 = .ok (.iload 5, 2) := dX9_drift_19g.2.2.2.2.2.2.1
theorem dX9_drift_34 : decode cX9_drift 34 = .ok (.invokevirtual 26, 3) := dX9_drift_19g.2.2.2.2.2.2.2.1
theorem dX9_drift_37 : decode cX9_drift 37 = .ok (.istore 4, 2) := dX9_drift_19g.2.2.2.2.2.2.2.2.1
theorem dX9_drift_39 : decode cX9_drift 39 = .ok (.iinc 5 1, 3) := dX9_drift_19g.2.2.2.2.2.2.2.2.2
theorem dX9_drift_42g : (decode cX9_drift 42 = .ok (.goto (-36), 3)) ∧ (decode cX9_drift 45 = .ok (.iload 4, 2)) ∧ (decode cX9_drift 47 = .ok (.ireturn, 1)) := by decide +kernel
theorem dX9_drift_42 : decode cX9_drift 42 = .ok (.goto (-36), 3) := dX9_drift_42g.1
theorem dX9_drift_45 : decode cX9_drift 45 = .ok (.iload 4, 2) := dX9_drift_42g.2.1
theorem dX9_drift_47 : decode cX9_drift 47 = .ok (.ireturn, 1) := dX9_drift_42g.2.2
set_option maxHeartbeats 4000000 in
set_option maxRecDepth 100000 in
theorem c_X9_drift (l : Launch) (E : Nat → Nat) (D : va_G) (G : th_G) (h0 : Nat) (hG0 : G h0 = some (10, 0)) (x1 x2 x3 : Int32) : Met l yX9_drift (tb (.code yX9_drift cX9_drift 6 (some .int))) (rm 5) (va_Pc [.ref h0, .int x1, .int x2, .int x3] (th_P E D G)) (QI E D G (fun r => True)) 0 0 (th_A G) := by
  refine Met.ofW (cc := cX9_drift) (maxL := 6) (ret := (some .int)) (by decide) rfl ?_
  intro p e s m args below meth c s₁ B hml hv
  obtain ⟨hav, hI, hN, hK⟩ := hv
  have hx := B.exec
  have hb := B.bytes
  have hr := B.returns
  have hts := atoms_spec (ws := tb (.code yX9_drift cX9_drift 6 (some .int))) B.pre
  have hown : s.vm.findClass RX9 = some m.cls := findClass_of_methodNamed B.named
  have hlocks := B.notSynchronized
  have hS : va_S (th_A G) s.heap s.heap [] := va_S.rf
  have hl := lv_entry ([.ref h0, .int x1, .int x2, .int x3]) (n := 6) (Nat.le_of_ble_eq_true rfl)
  rw [show entryFrame m args 6 = entryFrame m ([.ref h0, .int x1, .int x2, .int x3] : List Value).toArray 6 from by rw [hav], lg_entry_eq]
  generalize (lg_sl ([.ref h0, .int x1, .int x2, .int x3]) ++ List.replicate (6 - (lg_sl ([.ref h0, .int x1, .int x2, .int x3])).length) Slot.unset).toArray = ls at hl ⊢
  have hl : lv_has ls 6 [(0, .ref h0), (1, .int x1), (2, .int x2), (3, .int x3)] := hl
  generalize hR : (headSpec (tb (.code yX9_drift cX9_drift 6 (some .int))) (rm 5)).room = R
  have hR := hR.symm
  generalize hQ : MQ below (QI E D G (fun r => True)) args s 0 0 (th_A G) = QF
  have hQ := hQ.symm
  have J_6 : ∀ (nn : Nat) (H : Heap) (locs : List Loc) (ls : Array Slot) (v195 : Int32) (v196 : Int32), (Int.toNat (96 - v195.toInt) = nn) → lv_has ls 6 [(5, .int v195), (4, .int v196), (0, .ref h0), (1, .int x1), (2, .int x2), (3, .int x3)] → th_I (okC E) D G [] H → va_S (th_A G) s.heap H locs → W p l e R s m args below meth c H locs 0 0 QF (F0 m 6 ls []) := by
    intro nn
    induction nn using Nat.strongRecOn with
    | ind nn ih_6 =>
      intro H locs ls v195 v196 hm hl  hI hS
      refine lv_iload hx hb dX9_drift_6 (lv_at hl 0 rfl) ?_
      refine lv_iload_n hx hb dX9_drift_8 rfl (lv_at hl 5 rfl) ?_
      have k197 := iv_lo v195
      have k198 := iv_hi v195
      have k199 := iv_lo x3
      have k200 := iv_hi x3
      refine lv_icmp_ge (tgt := 45) hx hb dX9_drift_9 (by decide) (fun c201 => ?_) (fun c201 => ?_)
      · skip
        have k202 := iv_le (X := x3.toInt) (Y := v195.toInt) rfl rfl c201
        refine lv_iload hx hb dX9_drift_45 (lv_at hl 1 rfl) ?_
        have hpost : True := trivial
        rw [hQ]
        exact W.iret (v := v196) hx hb hr (fun t ht hW => ⟨⟨v196, (), rfl, hpost, by rw [ht]; exact hI, hN.warm hW, va_K.moved hW.alike hK⟩, hS.F ht⟩) hS.2.2 dX9_drift_47
      · skip
        have k203 := iv_nle (X := x3.toInt) (Y := v195.toInt) rfl rfl c201
        refine lv_iload hx hb dX9_drift_12 (lv_at hl 0 rfl) ?_
        refine lv_bipush (v := 96) hx hb dX9_drift_14 (by decide) ?_
        refine lv_icmp_ge (tgt := 45) hx hb dX9_drift_16 (by decide) (fun c204 => ?_) (fun c204 => ?_)
        · skip
          have k205 := iv_le (X := (96)) (Y := v195.toInt) (by decide) rfl c204
          refine lv_iload hx hb dX9_drift_45 (lv_at hl 1 rfl) ?_
          have hpost : True := trivial
          rw [hQ]
          exact W.iret (v := v196) hx hb hr (fun t ht hW => ⟨⟨v196, (), rfl, hpost, by rw [ht]; exact hI, hN.warm hW, va_K.moved hW.alike hK⟩, hS.F ht⟩) hS.2.2 dX9_drift_47
        · skip
          have k206 := iv_nle (X := (96)) (Y := v195.toInt) (by decide) rfl c204
          refine lv_iload hx hb dX9_drift_19 (lv_at hl 1 rfl) ?_
          refine lv_bipush (v := 24) hx hb dX9_drift_21 (by decide) ?_
          have k207 := iv_lo v196
          have k208 := iv_hi v196
          refine lv_icmp_eq (tgt := 45) hx hb dX9_drift_23 (by decide) (fun c209 => ?_) (fun c209 => ?_)
          · skip
            have k210 := iv_eq (X := v196.toInt) (Y := (24)) rfl (by decide) c209
            refine lv_iload hx hb dX9_drift_45 (lv_at hl 1 rfl) ?_
            have hpost : True := trivial
            rw [hQ]
            exact W.iret (v := v196) hx hb hr (fun t ht hW => ⟨⟨v196, (), rfl, hpost, by rw [ht]; exact hI, hN.warm hW, va_K.moved hW.alike hK⟩, hS.F ht⟩) hS.2.2 dX9_drift_47
          · skip
            have k211 := iv_ne (X := v196.toInt) (Y := (24)) rfl (by decide) c209
            refine lv_aload_n hx hb dX9_drift_26 rfl (lv_at hl 2 rfl) ?_
            obtain ⟨a212, a214, a216, a218, hO, hq213, hq215, hq217, hq219⟩ := op_10 hI hG0 List.not_mem_nil
            have hI := th_I.weak (a := h0) hI
            refine th_get hx hb hts inT9 hown hK hO rfl 1 (by decide) (hts _ (tb_c wd_218)) rfl rfl dX9_drift_27 ?_
            refine lv_iload hx hb dX9_drift_30 (lv_at hl 1 rfl) ?_
            refine lv_iload hx hb dX9_drift_32 (lv_at hl 0 rfl) ?_
            have hI := th_I.close hI hG0 hO (ok_10 hq213 hq215 hq217 hq219)
            refine th_cVi (As := [.int v196, .int v195]) (rest := []) (n := 2) (d := 4) ⟨hx, hb, hml, hown, hts⟩ (c_X7_stepFrom l E D G a214 hq215 v196 v195) wd_833 wd_531 wd_532 wd_6 wd_533 (by decide +kernel) ⟨by rw [hR]; exact Nat.le_of_ble_eq_true rfl, by rw [hR]; exact Nat.le_of_ble_eq_true rfl⟩ hI hN hK hS (rc_9 hI hq215 List.not_mem_nil) rfl rfl hl.1 rfl (Nat.le_of_ble_eq_true rfl) dX9_drift_34 ⟨Nat.zero_le _, Nat.zero_le _⟩ (fun r220 H locs hp hI hS => ?_)
            refine lv_istore (lv' := [(4, .int r220), (5, .int v195), (0, .ref h0), (1, .int x1), (2, .int x2), (3, .int x3)]) hx hb dX9_drift_37 hl (by decide) rfl (fun ls hl => ?_)
            obtain ⟨v221, e222⟩ : ∃ y : Int32, y = v195 + (1) := ⟨_, rfl⟩
            have tv221 : v221.toInt = v195.toInt + (1) := iv_add rfl (by decide) e222 (by omega) (by omega)
            refine lv_iinc (v := v221) (lv' := [(5, .int v221), (4, .int r220), (0, .ref h0), (1, .int x1), (2, .int x2), (3, .int x3)]) hx hb dX9_drift_39 hl (k := 1) rfl (by rw [e222]; rfl) (by decide) rfl (fun ls hl => ?_)
            refine lv_goto (tgt := 6) hx hb dX9_drift_42 (by decide) ?_
            exact ih_6 _ (by omega) H locs ls v221 r220 rfl (lv_sub hl [0, 1, 2, 3, 4, 5] rfl)  hI hS
  refine lv_iload_n hx hb dX9_drift_0 rfl (lv_at hl 1 rfl) ?_
  refine lv_istore (lv' := [(4, .int x1), (0, .ref h0), (1, .int x1), (2, .int x2), (3, .int x3)]) hx hb dX9_drift_1 hl (by decide) rfl (fun ls hl => ?_)
  refine lv_iload_n hx hb dX9_drift_3 rfl (lv_at hl 3 rfl) ?_
  refine lv_istore (lv' := [(5, .int x2), (4, .int x1), (0, .ref h0), (1, .int x1), (2, .int x2), (3, .int x3)]) hx hb dX9_drift_4 hl (by decide) rfl (fun ls hl => ?_)
  exact J_6 _ s.heap [] ls x2 x1 rfl (lv_sub hl [0, 1, 2, 3, 4, 5] rfl)  hI hS
theorem dX9_downstream_0g : (decode cX9_downstream 0 = .ok (.iload_n 1, 1)) ∧ (decode cX9_downstream 1 = .ok (.istore 4, 2)) ∧ (decode cX9_downstream 3 = .ok (.iconst 1, 1)) ∧ (decode cX9_downstream 4 = .ok (.iload 4, 2)) ∧ (decode cX9_downstream 6 = .ok (.ishl, 1)) ∧ (decode cX9_downstream 7 = .ok (.istore 5, 2)) ∧ (decode cX9_downstream 9 = .ok (.iload_n 2, 1)) ∧ (decode cX9_downstream 10 = .ok (.istore 6, 2)) ∧ (decode cX9_downstream 12 = .ok (.iload 6, 2)) ∧ (decode cX9_downstream 14 = .ok (.iload_n 3, 1)) := by decide +kernel
theorem dX9_downstream_0 : decode cX9_downstream 0 = .ok (.iload_n 1, 1) := dX9_downstream_0g.1
theorem dX9_downstream_1 : decode cX9_downstream 1 = .ok (.istore 4, 2) := dX9_downstream_0g.2.1
theorem dX9_downstream_3 : decode cX9_downstream 3 = .ok (.iconst 1, 1) := dX9_downstream_0g.2.2.1
theorem dX9_downstream_4 : decode cX9_downstream 4 = .ok (.iload 4, 2) := dX9_downstream_0g.2.2.2.1
theorem dX9_downstream_6 : decode cX9_downstream 6 = .ok (.ishl, 1) := dX9_downstream_0g.2.2.2.2.1
theorem dX9_downstream_7 : decode cX9_downstream 7 = .ok (.istore 5, 2) := dX9_downstream_0g.2.2.2.2.2.1
theorem dX9_downstream_9 : decode cX9_downstream 9 = .ok (.iload_n 2, 1) := dX9_downstream_0g.2.2.2.2.2.2.1
theorem dX9_downstream_10 : decode cX9_downstream 10 = .ok (.istore 6, 2) := dX9_downstream_0g.2.2.2.2.2.2.2.1
theorem dX9_downstream_12 : decode cX9_downstream 12 = .ok (.iload 6, 2) := dX9_downstream_0g.2.2.2.2.2.2.2.2.1
theorem dX9_downstream_14 : decode cX9_downstream 14 = .ok (.iload_n 3, 1) := dX9_downstream_0g.2.2.2.2.2.2.2.2.2
theorem dX9_downstream_15g : (decode cX9_downstream 15 = .ok (.if_icmp .ge 45, 3)) ∧ (decode cX9_downstream 18 = .ok (.iload 6, 2)) ∧ (decode cX9_downstream 20 = .ok (.bipush 96, 2)) ∧ (decode cX9_downstream 22 = .ok (.if_icmp .ge 38, 3)) ∧ (decode cX9_downstream 25 = .ok (.iload 4, 2)) ∧ (decode cX9_downstream 27 = .ok (.bipush 24, 2)) ∧ (decode cX9_downstream 29 = .ok (.if_icmp .eq 31, 3)) ∧ (decode cX9_downstream 32 = .ok (.aload_n 0, 1)) ∧ (decode cX9_downstream 33 = .ok (.getfield 22, 3)) ∧ (decode cX9_downstream 36 = .ok (.iload 4, 2)) := by decide +kernel
theorem dX9_downstream_15 : decode cX9_downstream 15 = .ok (.if_icmp .ge 45, 3) := dX9_downstream_15g.1
theorem dX9_downstream_18 : decode cX9_downstream 18 = .ok (.iload 6, 2) := dX9_downstream_15g.2.1
theorem dX9_downstream_20 : decode cX9_downstream 20 = .ok (.bipush 96, 2) := dX9_downstream_15g.2.2.1
theorem dX9_downstream_22 : decode cX9_downstream 22 = .ok (.if_icmp .ge 38, 3) := dX9_downstream_15g.2.2.2.1
theorem dX9_downstream_25 : decode cX9_downstream 25 = .ok (.iload 4, 2) := dX9_downstream_15g.2.2.2.2.1
theorem dX9_downstream_27 : decode cX9_downstream 27 = .ok (.bipush 24, 2) := dX9_downstream_15g.2.2.2.2.2.1
theorem dX9_downstream_29 : decode cX9_downstream 29 = .ok (.if_icmp .eq 31, 3) := dX9_downstream_15g.2.2.2.2.2.2.1
theorem dX9_downstream_32 : decode cX9_downstream 32 = .ok (.aload_n 0, 1) := dX9_downstream_15g.2.2.2.2.2.2.2.1
theorem dX9_downstream_33 : decode cX9_downstream 33 = .ok (.getfield 22, 3) := dX9_downstream_15g.2.2.2.2.2.2.2.2.1
theorem dX9_downstream_36 : decode cX9_downstream 36 = .ok (.iload 4, 2) := dX9_downstream_15g.2.2.2.2.2.2.2.2.2
theorem dX9_downstream_38g : (decode cX9_downstream 38 = .ok (.iload 6, 2)) ∧ (decode cX9_downstream 40 = .ok (.invokevirtual 26, 3)) ∧ (decode cX9_downstream 43 = .ok (.istore 4, 2)) ∧ (decode cX9_downstream 45 = .ok (.iload 5, 2)) ∧ (decode cX9_downstream 47 = .ok (.iconst 1, 1)) ∧ (decode cX9_downstream 48 = .ok (.iload 4, 2)) ∧ (decode cX9_downstream 50 = .ok (.ishl, 1)) ∧ (decode cX9_downstream 51 = .ok (.ior, 1)) ∧ (decode cX9_downstream 52 = .ok (.istore 5, 2)) ∧ (decode cX9_downstream 54 = .ok (.iinc 6 1, 3)) := by decide +kernel
theorem dX9_downstream_38 : decode cX9_downstream 38 = .ok (.iload 6, 2) := dX9_downstream_38g.1
theorem dX9_downstream_40 : decode cX9_downstream 40 = .ok (.invokevirtual 26, 3) := dX9_downstream_38g.2.1
theorem dX9_downstream_43 : decode cX9_downstream 43 = .ok (.istore 4, 2) := dX9_downstream_38g.2.2.1
theorem dX9_downstream_45 : decode cX9_downstream 45 = .ok (.iload 5, 2) := dX9_downstream_38g.2.2.2.1
theorem dX9_downstream_47 : decode cX9_downstream 47 = .ok (.iconst 1, 1) := dX9_downstream_38g.2.2.2.2.1
theorem dX9_downstream_48 : decode cX9_downstream 48 = .ok (.iload 4, 2) := dX9_downstream_38g.2.2.2.2.2.1
theorem dX9_downstream_50 : decode cX9_downstream 50 = .ok (.ishl, 1) := dX9_downstream_38g.2.2.2.2.2.2.1
theorem dX9_downstream_51 : decode cX9_downstream 51 = .ok (.ior, 1) := dX9_downstream_38g.2.2.2.2.2.2.2.1
theorem dX9_downstream_52 : decode cX9_downstream 52 = .ok (.istore 5, 2) := dX9_downstream_38g.2.2.2.2.2.2.2.2.1
theorem dX9_downstream_54 : decode cX9_downstream 54 = .ok (.iinc 6 1, 3) := dX9_downstream_38g.2.2.2.2.2.2.2.2.2
theorem dX9_downstream_57g : (decode cX9_downstream 57 = .ok (.goto (-45), 3)) ∧ (decode cX9_downstream 60 = .ok (.iload 5, 2)) ∧ (decode cX9_downstream 62 = .ok (.ireturn, 1)) := by decide +kernel
theorem dX9_downstream_57 : decode cX9_downstream 57 = .ok (.goto (-45), 3) := dX9_downstream_57g.1
theorem dX9_downstream_60 : decode cX9_downstream 60 = .ok (.iload 5, 2) := dX9_downstream_57g.2.1
theorem dX9_downstream_62 : decode cX9_downstream 62 = .ok (.ireturn, 1) := dX9_downstream_57g.2.2
set_option maxHeartbeats 4000000 in
set_option maxRecDepth 100000 in
theorem c_X9_downstream (l : Launch) (E : Nat → Nat) (D : va_G) (G : th_G) (h0 : Nat) (hG0 : G h0 = some (10, 0)) (x1 x2 x3 : Int32) : Met l yX9_downstream (tb (.code yX9_downstream cX9_downstream 7 (some .int))) (rm 5) (va_Pc [.ref h0, .int x1, .int x2, .int x3] (th_P E D G)) (QI E D G (fun r => True)) 0 0 (th_A G) := by
  refine Met.ofW (cc := cX9_downstream) (maxL := 7) (ret := (some .int)) (by decide) rfl ?_
  intro p e s m args below meth c s₁ B hml hv
  obtain ⟨hav, hI, hN, hK⟩ := hv
  have hx := B.exec
  have hb := B.bytes
  have hr := B.returns
  have hts := atoms_spec (ws := tb (.code yX9_downstream cX9_downstream 7 (some .int))) B.pre
  have hown : s.vm.findClass RX9 = some m.cls := findClass_of_methodNamed B.named
  have hlocks := B.notSynchronized
  have hS : va_S (th_A G) s.heap s.heap [] := va_S.rf
  have hl := lv_entry ([.ref h0, .int x1, .int x2, .int x3]) (n := 7) (Nat.le_of_ble_eq_true rfl)
  rw [show entryFrame m args 7 = entryFrame m ([.ref h0, .int x1, .int x2, .int x3] : List Value).toArray 7 from by rw [hav], lg_entry_eq]
  generalize (lg_sl ([.ref h0, .int x1, .int x2, .int x3]) ++ List.replicate (7 - (lg_sl ([.ref h0, .int x1, .int x2, .int x3])).length) Slot.unset).toArray = ls at hl ⊢
  have hl : lv_has ls 7 [(0, .ref h0), (1, .int x1), (2, .int x2), (3, .int x3)] := hl
  generalize hR : (headSpec (tb (.code yX9_downstream cX9_downstream 7 (some .int))) (rm 5)).room = R
  have hR := hR.symm
  generalize hQ : MQ below (QI E D G (fun r => True)) args s 0 0 (th_A G) = QF
  have hQ := hQ.symm
  have J_12 : ∀ (nn : Nat) (H : Heap) (locs : List Loc) (ls : Array Slot) (v246 : Int32) (v247 : Int32) (v248 : Int32), (Int.toNat (96 - v246.toInt) = nn) → lv_has ls 7 [(6, .int v246), (5, .int v247), (4, .int v248), (0, .ref h0), (1, .int x1), (2, .int x2), (3, .int x3)] → th_I (okC E) D G [] H → va_S (th_A G) s.heap H locs → W p l e R s m args below meth c H locs 0 0 QF (F0 m 12 ls []) := by
    intro nn
    induction nn using Nat.strongRecOn with
    | ind nn ih_12 =>
      intro H locs ls v246 v247 v248 hm hl  hI hS
      refine lv_iload hx hb dX9_downstream_12 (lv_at hl 0 rfl) ?_
      refine lv_iload_n hx hb dX9_downstream_14 rfl (lv_at hl 6 rfl) ?_
      have k249 := iv_lo v246
      have k250 := iv_hi v246
      have k251 := iv_lo x3
      have k252 := iv_hi x3
      refine lv_icmp_ge (tgt := 60) hx hb dX9_downstream_15 (by decide) (fun c253 => ?_) (fun c253 => ?_)
      · skip
        have k254 := iv_le (X := x3.toInt) (Y := v246.toInt) rfl rfl c253
        refine lv_iload hx hb dX9_downstream_60 (lv_at hl 1 rfl) ?_
        have hpost : True := trivial
        rw [hQ]
        exact W.iret (v := v247) hx hb hr (fun t ht hW => ⟨⟨v247, (), rfl, hpost, by rw [ht]; exact hI, hN.warm hW, va_K.moved hW.alike hK⟩, hS.F ht⟩) hS.2.2 dX9_downstream_62
      · skip
        have k255 := iv_nle (X := x3.toInt) (Y := v246.toInt) rfl rfl c253
        refine lv_iload hx hb dX9_downstream_18 (lv_at hl 0 rfl) ?_
        refine lv_bipush (v := 96) hx hb dX9_downstream_20 (by decide) ?_
        refine lv_icmp_ge (tgt := 60) hx hb dX9_downstream_22 (by decide) (fun c256 => ?_) (fun c256 => ?_)
        · skip
          have k257 := iv_le (X := (96)) (Y := v246.toInt) (by decide) rfl c256
          refine lv_iload hx hb dX9_downstream_60 (lv_at hl 1 rfl) ?_
          have hpost : True := trivial
          rw [hQ]
          exact W.iret (v := v247) hx hb hr (fun t ht hW => ⟨⟨v247, (), rfl, hpost, by rw [ht]; exact hI, hN.warm hW, va_K.moved hW.alike hK⟩, hS.F ht⟩) hS.2.2 dX9_downstream_62
        · skip
          have k258 := iv_nle (X := (96)) (Y := v246.toInt) (by decide) rfl c256
          refine lv_iload hx hb dX9_downstream_25 (lv_at hl 2 rfl) ?_
          refine lv_bipush (v := 24) hx hb dX9_downstream_27 (by decide) ?_
          have k259 := iv_lo v248
          have k260 := iv_hi v248
          refine lv_icmp_eq (tgt := 60) hx hb dX9_downstream_29 (by decide) (fun c261 => ?_) (fun c261 => ?_)
          · skip
            have k262 := iv_eq (X := v248.toInt) (Y := (24)) rfl (by decide) c261
            refine lv_iload hx hb dX9_downstream_60 (lv_at hl 1 rfl) ?_
            have hpost : True := trivial
            rw [hQ]
            exact W.iret (v := v247) hx hb hr (fun t ht hW => ⟨⟨v247, (), rfl, hpost, by rw [ht]; exact hI, hN.warm hW, va_K.moved hW.alike hK⟩, hS.F ht⟩) hS.2.2 dX9_downstream_62
          · skip
            have k263 := iv_ne (X := v248.toInt) (Y := (24)) rfl (by decide) c261
            refine lv_aload_n hx hb dX9_downstream_32 rfl (lv_at hl 3 rfl) ?_
            obtain ⟨a264, a266, a268, a270, hO, hq265, hq267, hq269, hq271⟩ := op_10 hI hG0 List.not_mem_nil
            have hI := th_I.weak (a := h0) hI
            refine th_get hx hb hts inT9 hown hK hO rfl 1 (by decide) (hts _ (tb_c wd_218)) rfl rfl dX9_downstream_33 ?_
            refine lv_iload hx hb dX9_downstream_36 (lv_at hl 2 rfl) ?_
            refine lv_iload hx hb dX9_downstream_38 (lv_at hl 0 rfl) ?_
            have hI := th_I.close hI hG0 hO (ok_10 hq265 hq267 hq269 hq271)
            refine th_cVi (As := [.int v248, .int v246]) (rest := []) (n := 2) (d := 4) ⟨hx, hb, hml, hown, hts⟩ (c_X7_stepFrom l E D G a266 hq267 v248 v246) wd_833 wd_531 wd_532 wd_6 wd_533 (by decide +kernel) ⟨by rw [hR]; exact Nat.le_of_ble_eq_true rfl, by rw [hR]; exact Nat.le_of_ble_eq_true rfl⟩ hI hN hK hS (rc_9 hI hq267 List.not_mem_nil) rfl rfl hl.1 rfl (Nat.le_of_ble_eq_true rfl) dX9_downstream_40 ⟨Nat.zero_le _, Nat.zero_le _⟩ (fun r272 H locs hp hI hS => ?_)
            refine lv_istore (lv' := [(4, .int r272), (6, .int v246), (5, .int v247), (0, .ref h0), (1, .int x1), (2, .int x2), (3, .int x3)]) hx hb dX9_downstream_43 hl (by decide) rfl (fun ls hl => ?_)
            refine lv_iload hx hb dX9_downstream_45 (lv_at hl 2 rfl) ?_
            refine lv_iconst (v := 1) hx hb dX9_downstream_47 (by decide) ?_
            refine lv_iload hx hb dX9_downstream_48 (lv_at hl 0 rfl) ?_
            refine lv_ishl hx hb dX9_downstream_50 ?_
            refine lv_topi (fun v273 e274 => ?_)
            refine lv_ior hx hb dX9_downstream_51 ?_
            refine lv_topi (fun v275 e276 => ?_)
            refine lv_istore (lv' := [(5, .int v275), (4, .int r272), (6, .int v246), (0, .ref h0), (1, .int x1), (2, .int x2), (3, .int x3)]) hx hb dX9_downstream_52 hl (by decide) rfl (fun ls hl => ?_)
            obtain ⟨v277, e278⟩ : ∃ y : Int32, y = v246 + (1) := ⟨_, rfl⟩
            have tv277 : v277.toInt = v246.toInt + (1) := iv_add rfl (by decide) e278 (by omega) (by omega)
            refine lv_iinc (v := v277) (lv' := [(6, .int v277), (5, .int v275), (4, .int r272), (0, .ref h0), (1, .int x1), (2, .int x2), (3, .int x3)]) hx hb dX9_downstream_54 hl (k := 2) rfl (by rw [e278]; rfl) (by decide) rfl (fun ls hl => ?_)
            refine lv_goto (tgt := 12) hx hb dX9_downstream_57 (by decide) ?_
            exact ih_12 _ (by omega) H locs ls v277 v275 r272 rfl (lv_sub hl [0, 1, 2, 3, 4, 5, 6] rfl)  hI hS
  refine lv_iload_n hx hb dX9_downstream_0 rfl (lv_at hl 1 rfl) ?_
  refine lv_istore (lv' := [(4, .int x1), (0, .ref h0), (1, .int x1), (2, .int x2), (3, .int x3)]) hx hb dX9_downstream_1 hl (by decide) rfl (fun ls hl => ?_)
  refine lv_iconst (v := 1) hx hb dX9_downstream_3 (by decide) ?_
  refine lv_iload hx hb dX9_downstream_4 (lv_at hl 0 rfl) ?_
  refine lv_ishl hx hb dX9_downstream_6 ?_
  refine lv_topi (fun v279 e280 => ?_)
  refine lv_istore (lv' := [(5, .int v279), (4, .int x1), (0, .ref h0), (1, .int x1), (2, .int x2), (3, .int x3)]) hx hb dX9_downstream_7 hl (by decide) rfl (fun ls hl => ?_)
  refine lv_iload_n hx hb dX9_downstream_9 rfl (lv_at hl 4 rfl) ?_
  refine lv_istore (lv' := [(6, .int x2), (5, .int v279), (4, .int x1), (0, .ref h0), (1, .int x1), (2, .int x2), (3, .int x3)]) hx hb dX9_downstream_10 hl (by decide) rfl (fun ls hl => ?_)
  exact J_12 _ s.heap [] ls x2 v279 x1 rfl (lv_sub hl [0, 1, 2, 3, 4, 5, 6] rfl)  hI hS
theorem dX9_traceBack_0g : (decode cX9_traceBack 0 = .ok (.iload_n 2, 1)) ∧ (decode cX9_traceBack 1 = .ok (.ifCond .lt 18, 3)) ∧ (decode cX9_traceBack 4 = .ok (.iload_n 2, 1)) ∧ (decode cX9_traceBack 5 = .ok (.bipush 96, 2)) ∧ (decode cX9_traceBack 7 = .ok (.if_icmp .gt 12, 3)) ∧ (decode cX9_traceBack 10 = .ok (.iload_n 3, 1)) ∧ (decode cX9_traceBack 11 = .ok (.ifCond .lt 8, 3)) ∧ (decode cX9_traceBack 14 = .ok (.iload_n 3, 1)) ∧ (decode cX9_traceBack 15 = .ok (.iload_n 2, 1)) ∧ (decode cX9_traceBack 16 = .ok (.if_icmp .le 5, 3)) := by decide +kernel
theorem dX9_traceBack_0 : decode cX9_traceBack 0 = .ok (.iload_n 2, 1) := dX9_traceBack_0g.1
theorem dX9_traceBack_1 : decode cX9_traceBack 1 = .ok (.ifCond .lt 18, 3) := dX9_traceBack_0g.2.1
theorem dX9_traceBack_4 : decode cX9_traceBack 4 = .ok (.iload_n 2, 1) := dX9_traceBack_0g.2.2.1
theorem dX9_traceBack_5 : decode cX9_traceBack 5 = .ok (.bipush 96, 2) := dX9_traceBack_0g.2.2.2.1
theorem dX9_traceBack_7 : decode cX9_traceBack 7 = .ok (.if_icmp .gt 12, 3) := dX9_traceBack_0g.2.2.2.2.1
theorem dX9_traceBack_10 : decode cX9_traceBack 10 = .ok (.iload_n 3, 1) := dX9_traceBack_0g.2.2.2.2.2.1
theorem dX9_traceBack_11 : decode cX9_traceBack 11 = .ok (.ifCond .lt 8, 3) := dX9_traceBack_0g.2.2.2.2.2.2.1
theorem dX9_traceBack_14 : decode cX9_traceBack 14 = .ok (.iload_n 3, 1) := dX9_traceBack_0g.2.2.2.2.2.2.2.1
theorem dX9_traceBack_15 : decode cX9_traceBack 15 = .ok (.iload_n 2, 1) := dX9_traceBack_0g.2.2.2.2.2.2.2.2.1
theorem dX9_traceBack_16 : decode cX9_traceBack 16 = .ok (.if_icmp .le 5, 3) := dX9_traceBack_0g.2.2.2.2.2.2.2.2.2
theorem dX9_traceBack_19g : (decode cX9_traceBack 19 = .ok (.iconst 0, 1)) ∧ (decode cX9_traceBack 20 = .ok (.ireturn, 1)) ∧ (decode cX9_traceBack 21 = .ok (.iconst 1, 1)) ∧ (decode cX9_traceBack 22 = .ok (.iload_n 1, 1)) ∧ (decode cX9_traceBack 23 = .ok (.ishl, 1)) ∧ (decode cX9_traceBack 24 = .ok (.istore 4, 2)) ∧ (decode cX9_traceBack 26 = .ok (.aload_n 0, 1)) ∧ (decode cX9_traceBack 27 = .ok (.getfield 9, 3)) ∧ (decode cX9_traceBack 30 = .ok (.iload_n 2, 1)) ∧ (decode cX9_traceBack 31 = .ok (.iload 4, 2)) := by decide +kernel
theorem dX9_traceBack_19 : decode cX9_traceBack 19 = .ok (.iconst 0, 1) := dX9_traceBack_19g.1
theorem dX9_traceBack_20 : decode cX9_traceBack 20 = .ok (.ireturn, 1) := dX9_traceBack_19g.2.1
theorem dX9_traceBack_21 : decode cX9_traceBack 21 = .ok (.iconst 1, 1) := dX9_traceBack_19g.2.2.1
theorem dX9_traceBack_22 : decode cX9_traceBack 22 = .ok (.iload_n 1, 1) := dX9_traceBack_19g.2.2.2.1
theorem dX9_traceBack_23 : decode cX9_traceBack 23 = .ok (.ishl, 1) := dX9_traceBack_19g.2.2.2.2.1
theorem dX9_traceBack_24 : decode cX9_traceBack 24 = .ok (.istore 4, 2) := dX9_traceBack_19g.2.2.2.2.2.1
theorem dX9_traceBack_26 : decode cX9_traceBack 26 = .ok (.aload_n 0, 1) := dX9_traceBack_19g.2.2.2.2.2.2.1
theorem dX9_traceBack_27 : decode cX9_traceBack 27 = .ok (.getfield 9, 3) := dX9_traceBack_19g.2.2.2.2.2.2.2.1
theorem dX9_traceBack_30 : decode cX9_traceBack 30 = .ok (.iload_n 2, 1) := dX9_traceBack_19g.2.2.2.2.2.2.2.2.1
theorem dX9_traceBack_31 : decode cX9_traceBack 31 = .ok (.iload 4, 2) := dX9_traceBack_19g.2.2.2.2.2.2.2.2.2
theorem dX9_traceBack_33g : (decode cX9_traceBack 33 = .ok (.ldc 32, 2)) ∧ (decode cX9_traceBack 35 = .ok (.iand, 1)) ∧ (decode cX9_traceBack 36 = .ok (.iastore, 1)) ∧ (decode cX9_traceBack 37 = .ok (.iload_n 2, 1)) ∧ (decode cX9_traceBack 38 = .ok (.iconst 1, 1)) ∧ (decode cX9_traceBack 39 = .ok (.isub, 1)) ∧ (decode cX9_traceBack 40 = .ok (.istore 5, 2)) ∧ (decode cX9_traceBack 42 = .ok (.iload 5, 2)) ∧ (decode cX9_traceBack 44 = .ok (.iload_n 3, 1)) ∧ (decode cX9_traceBack 45 = .ok (.if_icmp .lt 77, 3)) := by decide +kernel
theorem dX9_traceBack_33 : decode cX9_traceBack 33 = .ok (.ldc 32, 2) := dX9_traceBack_33g.1
theorem dX9_traceBack_35 : decode cX9_traceBack 35 = .ok (.iand, 1) := dX9_traceBack_33g.2.1
theorem dX9_traceBack_36 : decode cX9_traceBack 36 = .ok (.iastore, 1) := dX9_traceBack_33g.2.2.1
theorem dX9_traceBack_37 : decode cX9_traceBack 37 = .ok (.iload_n 2, 1) := dX9_traceBack_33g.2.2.2.1
theorem dX9_traceBack_38 : decode cX9_traceBack 38 = .ok (.iconst 1, 1) := dX9_traceBack_33g.2.2.2.2.1
theorem dX9_traceBack_39 : decode cX9_traceBack 39 = .ok (.isub, 1) := dX9_traceBack_33g.2.2.2.2.2.1
theorem dX9_traceBack_40 : decode cX9_traceBack 40 = .ok (.istore 5, 2) := dX9_traceBack_33g.2.2.2.2.2.2.1
theorem dX9_traceBack_42 : decode cX9_traceBack 42 = .ok (.iload 5, 2) := dX9_traceBack_33g.2.2.2.2.2.2.2.1
theorem dX9_traceBack_44 : decode cX9_traceBack 44 = .ok (.iload_n 3, 1) := dX9_traceBack_33g.2.2.2.2.2.2.2.2.1
theorem dX9_traceBack_45 : decode cX9_traceBack 45 = .ok (.if_icmp .lt 77, 3) := dX9_traceBack_33g.2.2.2.2.2.2.2.2.2
theorem dX9_traceBack_48g : (decode cX9_traceBack 48 = .ok (.iload 4, 2)) ∧ (decode cX9_traceBack 50 = .ok (.ldc 33, 2)) ∧ (decode cX9_traceBack 52 = .ok (.iand, 1)) ∧ (decode cX9_traceBack 53 = .ok (.istore 6, 2)) ∧ (decode cX9_traceBack 55 = .ok (.iconst 0, 1)) ∧ (decode cX9_traceBack 56 = .ok (.istore 7, 2)) ∧ (decode cX9_traceBack 58 = .ok (.iload 4, 2)) ∧ (decode cX9_traceBack 60 = .ok (.ifCond .eq 40, 3)) ∧ (decode cX9_traceBack 63 = .ok (.iload 7, 2)) ∧ (decode cX9_traceBack 65 = .ok (.bipush 24, 2)) := by decide +kernel
theorem dX9_traceBack_48 : decode cX9_traceBack 48 = .ok (.iload 4, 2) := dX9_traceBack_48g.1
theorem dX9_traceBack_50 : decode cX9_traceBack 50 = .ok (.ldc 33, 2) := dX9_traceBack_48g.2.1
theorem dX9_traceBack_52 : decode cX9_traceBack 52 = .ok (.iand, 1) := dX9_traceBack_48g.2.2.1
theorem dX9_traceBack_53 : decode cX9_traceBack 53 = .ok (.istore 6, 2) := dX9_traceBack_48g.2.2.2.1
theorem dX9_traceBack_55 : decode cX9_traceBack 55 = .ok (.iconst 0, 1) := dX9_traceBack_48g.2.2.2.2.1
theorem dX9_traceBack_56 : decode cX9_traceBack 56 = .ok (.istore 7, 2) := dX9_traceBack_48g.2.2.2.2.2.1
theorem dX9_traceBack_58 : decode cX9_traceBack 58 = .ok (.iload 4, 2) := dX9_traceBack_48g.2.2.2.2.2.2.1
theorem dX9_traceBack_60 : decode cX9_traceBack 60 = .ok (.ifCond .eq 40, 3) := dX9_traceBack_48g.2.2.2.2.2.2.2.1
theorem dX9_traceBack_63 : decode cX9_traceBack 63 = .ok (.iload 7, 2) := dX9_traceBack_48g.2.2.2.2.2.2.2.2.1
theorem dX9_traceBack_65 : decode cX9_traceBack 65 = .ok (.bipush 24, 2) := dX9_traceBack_48g.2.2.2.2.2.2.2.2.2
theorem dX9_traceBack_67g : (decode cX9_traceBack 67 = .ok (.if_icmp .ge 33, 3)) ∧ (decode cX9_traceBack 70 = .ok (.iload 6, 2)) ∧ (decode cX9_traceBack 72 = .ok (.iload 4, 2)) ∧ (decode cX9_traceBack 74 = .ok (.aload_n 0, 1)) ∧ (decode cX9_traceBack 75 = .ok (.getfield 22, 3)) ∧ (decode cX9_traceBack 78 = .ok (.iload 7, 2)) ∧ (decode cX9_traceBack 80 = .ok (.iload 5, 2)) ∧ (decode cX9_traceBack 82 = .ok (.invokevirtual 26, 3)) ∧ (decode cX9_traceBack 85 = .ok (.ishr, 1)) ∧ (decode cX9_traceBack 86 = .ok (.iconst 1, 1)) := by decide +kernel
theorem dX9_traceBack_67 : decode cX9_traceBack 67 = .ok (.if_icmp .ge 33, 3) := dX9_traceBack_67g.1
theorem dX9_traceBack_70 : decode cX9_traceBack 70 = .ok (.iload 6, 2) := dX9_traceBack_67g.2.1
theorem dX9_traceBack_72 : decode cX9_traceBack 72 = .ok (.iload 4, 2) := dX9_traceBack_67g.2.2.1
theorem dX9_traceBack_74 : decode cX9_traceBack 74 = .ok (.aload_n 0, 1) := dX9_traceBack_67g.2.2.2.1
theorem dX9_traceBack_75 : decode cX9_traceBack 75 = .ok (.getfield 22, 3) := dX9_traceBack_67g.2.2.2.2.1
theorem dX9_traceBack_78 : decode cX9_traceBack 78 = .ok (.iload 7, 2) := dX9_traceBack_67g.2.2.2.2.2.1
theorem dX9_traceBack_80 : decode cX9_traceBack 80 = .ok (.iload 5, 2) := dX9_traceBack_67g.2.2.2.2.2.2.1
theorem dX9_traceBack_82 : decode cX9_traceBack 82 = .ok (.invokevirtual 26, 3) := dX9_traceBack_67g.2.2.2.2.2.2.2.1
theorem dX9_traceBack_85 : decode cX9_traceBack 85 = .ok (.ishr, 1) := dX9_traceBack_67g.2.2.2.2.2.2.2.2.1
theorem dX9_traceBack_86 : decode cX9_traceBack 86 = .ok (.iconst 1, 1) := dX9_traceBack_67g.2.2.2.2.2.2.2.2.2
theorem dX9_traceBack_87g : (decode cX9_traceBack 87 = .ok (.iand, 1)) ∧ (decode cX9_traceBack 88 = .ok (.iload 7, 2)) ∧ (decode cX9_traceBack 90 = .ok (.ishl, 1)) ∧ (decode cX9_traceBack 91 = .ok (.ior, 1)) ∧ (decode cX9_traceBack 92 = .ok (.istore 6, 2)) ∧ (decode cX9_traceBack 94 = .ok (.iinc 7 1, 3)) ∧ (decode cX9_traceBack 97 = .ok (.goto (-39), 3)) ∧ (decode cX9_traceBack 100 = .ok (.iload 6, 2)) ∧ (decode cX9_traceBack 102 = .ok (.istore 4, 2)) ∧ (decode cX9_traceBack 104 = .ok (.aload_n 0, 1)) := by decide +kernel
theorem dX9_traceBack_87 : decode cX9_traceBack 87 = .ok (.iand, 1) := dX9_traceBack_87g.1
theorem dX9_traceBack_88 : decode cX9_traceBack 88 = .ok (.iload 7, 2) := dX9_traceBack_87g.2.1
theorem dX9_traceBack_90 : decode cX9_traceBack 90 = .ok (.ishl, 1) := dX9_traceBack_87g.2.2.1
theorem dX9_traceBack_91 : decode cX9_traceBack 91 = .ok (.ior, 1) := dX9_traceBack_87g.2.2.2.1
theorem dX9_traceBack_92 : decode cX9_traceBack 92 = .ok (.istore 6, 2) := dX9_traceBack_87g.2.2.2.2.1
theorem dX9_traceBack_94 : decode cX9_traceBack 94 = .ok (.iinc 7 1, 3) := dX9_traceBack_87g.2.2.2.2.2.1
theorem dX9_traceBack_97 : decode cX9_traceBack 97 = .ok (.goto (-39), 3) := dX9_traceBack_87g.2.2.2.2.2.2.1
theorem dX9_traceBack_100 : decode cX9_traceBack 100 = .ok (.iload 6, 2) := dX9_traceBack_87g.2.2.2.2.2.2.2.1
theorem dX9_traceBack_102 : decode cX9_traceBack 102 = .ok (.istore 4, 2) := dX9_traceBack_87g.2.2.2.2.2.2.2.2.1
theorem dX9_traceBack_104 : decode cX9_traceBack 104 = .ok (.aload_n 0, 1) := dX9_traceBack_87g.2.2.2.2.2.2.2.2.2
theorem dX9_traceBack_105g : (decode cX9_traceBack 105 = .ok (.getfield 9, 3)) ∧ (decode cX9_traceBack 108 = .ok (.iload 5, 2)) ∧ (decode cX9_traceBack 110 = .ok (.iload 4, 2)) ∧ (decode cX9_traceBack 112 = .ok (.ldc 32, 2)) ∧ (decode cX9_traceBack 114 = .ok (.iand, 1)) ∧ (decode cX9_traceBack 115 = .ok (.iastore, 1)) ∧ (decode cX9_traceBack 116 = .ok (.iinc 5 (-1), 3)) ∧ (decode cX9_traceBack 119 = .ok (.goto (-77), 3)) ∧ (decode cX9_traceBack 122 = .ok (.aload_n 0, 1)) ∧ (decode cX9_traceBack 123 = .ok (.getfield 9, 3)) := by decide +kernel
theorem dX9_traceBack_105 : decode cX9_traceBack 105 = .ok (.getfield 9, 3) := dX9_traceBack_105g.1
theorem dX9_traceBack_108 : decode cX9_traceBack 108 = .ok (.iload 5, 2) := dX9_traceBack_105g.2.1
theorem dX9_traceBack_110 : decode cX9_traceBack 110 = .ok (.iload 4, 2) := dX9_traceBack_105g.2.2.1
theorem dX9_traceBack_112 : decode cX9_traceBack 112 = .ok (.ldc 32, 2) := dX9_traceBack_105g.2.2.2.1
theorem dX9_traceBack_114 : decode cX9_traceBack 114 = .ok (.iand, 1) := dX9_traceBack_105g.2.2.2.2.1
theorem dX9_traceBack_115 : decode cX9_traceBack 115 = .ok (.iastore, 1) := dX9_traceBack_105g.2.2.2.2.2.1
theorem dX9_traceBack_116 : decode cX9_traceBack 116 = .ok (.iinc 5 (-1), 3) := dX9_traceBack_105g.2.2.2.2.2.2.1
theorem dX9_traceBack_119 : decode cX9_traceBack 119 = .ok (.goto (-77), 3) := dX9_traceBack_105g.2.2.2.2.2.2.2.1
theorem dX9_traceBack_122 : decode cX9_traceBack 122 = .ok (.aload_n 0, 1) := dX9_traceBack_105g.2.2.2.2.2.2.2.2.1
theorem dX9_traceBack_123 : decode cX9_traceBack 123 = .ok (.getfield 9, 3) := dX9_traceBack_105g.2.2.2.2.2.2.2.2.2
theorem dX9_traceBack_126g : (decode cX9_traceBack 126 = .ok (.iload_n 3, 1)) ∧ (decode cX9_traceBack 127 = .ok (.iaload, 1)) ∧ (decode cX9_traceBack 128 = .ok (.ireturn, 1)) := by decide +kernel
theorem dX9_traceBack_126 : decode cX9_traceBack 126 = .ok (.iload_n 3, 1) := dX9_traceBack_126g.1
theorem dX9_traceBack_127 : decode cX9_traceBack 127 = .ok (.iaload, 1) := dX9_traceBack_126g.2.1
theorem dX9_traceBack_128 : decode cX9_traceBack 128 = .ok (.ireturn, 1) := dX9_traceBack_126g.2.2
set_option maxHeartbeats 4000000 in
set_option maxRecDepth 100000 in
theorem c_X9_traceBack (l : Launch) (E : Nat → Nat) (D : va_G) (G : th_G) (h0 : Nat) (hG0 : G h0 = some (10, 0)) (x1 x2 x3 : Int32) : Met l yX9_traceBack (tb (.code yX9_traceBack cX9_traceBack 8 (some .int))) (rm 5) (va_Pc [.ref h0, .int x1, .int x2, .int x3] (th_P E D G)) (QI E D G (fun r => True)) 0 0 (th_A G) := by
  refine Met.ofW (cc := cX9_traceBack) (maxL := 8) (ret := (some .int)) (by decide) rfl ?_
  intro p e s m args below meth c s₁ B hml hv
  obtain ⟨hav, hI, hN, hK⟩ := hv
  have hx := B.exec
  have hb := B.bytes
  have hr := B.returns
  have hts := atoms_spec (ws := tb (.code yX9_traceBack cX9_traceBack 8 (some .int))) B.pre
  have hown : s.vm.findClass RX9 = some m.cls := findClass_of_methodNamed B.named
  have hlocks := B.notSynchronized
  have hS : va_S (th_A G) s.heap s.heap [] := va_S.rf
  have hl := lv_entry ([.ref h0, .int x1, .int x2, .int x3]) (n := 8) (Nat.le_of_ble_eq_true rfl)
  rw [show entryFrame m args 8 = entryFrame m ([.ref h0, .int x1, .int x2, .int x3] : List Value).toArray 8 from by rw [hav], lg_entry_eq]
  generalize (lg_sl ([.ref h0, .int x1, .int x2, .int x3]) ++ List.replicate (8 - (lg_sl ([.ref h0, .int x1, .int x2, .int x3])).length) Slot.unset).toArray = ls at hl ⊢
  have hl : lv_has ls 8 [(0, .ref h0), (1, .int x1), (2, .int x2), (3, .int x3)] := hl
  generalize hR : (headSpec (tb (.code yX9_traceBack cX9_traceBack 8 (some .int))) (rm 5)).room = R
  have hR := hR.symm
  generalize hQ : MQ below (QI E D G (fun r => True)) args s 0 0 (th_A G) = QF
  have hQ := hQ.symm
  have J_42 : ∀ (nn : Nat) (H : Heap) (locs : List Loc) (ls : Array Slot) (v2077 : Int32) (v2078 : Int32), (Int.toNat (v2077.toInt - (-1)) = nn) → lv_has ls 8 [(5, .int v2077), (4, .int v2078), (0, .ref h0), (1, .int x1), (2, .int x2), (3, .int x3)] → ((-1 : Int) ≤ v2077.toInt ∧ v2077.toInt ≤ 95) → ((0 : Int) ≤ x2.toInt ∧ x2.toInt ≤ 96) → ((0 : Int) ≤ x3.toInt ∧ x3.toInt ≤ 96) → th_I (okC E) D G [] H → va_S (th_A G) s.heap H locs → W p l e R s m args below meth c H locs 0 0 QF (F0 m 42 ls []) := by
    intro nn
    induction nn using Nat.strongRecOn with
    | ind nn ih_42 =>
      intro H locs ls v2077 v2078 hm hl k2079 k2080 k2081 hI hS
      have J_100 : ∀ (H : Heap) (locs : List Loc) (ls : Array Slot) (v2082 : Int32) (v2083 : Int32), lv_has ls 8 [(7, .int v2082), (6, .int v2083), (5, .int v2077), (4, .int v2078), (0, .ref h0), (1, .int x1), (2, .int x2), (3, .int x3)] → ((0 : Int) ≤ v2082.toInt ∧ v2082.toInt ≤ 24) → ((0 : Int) ≤ v2077.toInt ∧ v2077.toInt ≤ 95) → ((0 : Int) ≤ x3.toInt ∧ x3.toInt ≤ 95) → th_I (okC E) D G [] H → va_S (th_A G) s.heap H locs → W p l e R s m args below meth c H locs 0 0 QF (F0 m 100 ls []) := by
        intro H locs ls v2082 v2083 hl k2086 k2087 k2088 hI hS
        refine lv_iload hx hb dX9_traceBack_100 (lv_at hl 1 rfl) ?_
        refine lv_istore (lv' := [(4, .int v2083), (7, .int v2082), (6, .int v2083), (5, .int v2077), (0, .ref h0), (1, .int x1), (2, .int x2), (3, .int x3)]) hx hb dX9_traceBack_102 hl (by decide) rfl (fun ls hl => ?_)
        refine lv_aload_n hx hb dX9_traceBack_104 rfl (lv_at hl 4 rfl) ?_
        obtain ⟨a2089, a2091, a2093, a2095, hO, hq2090, hq2092, hq2094, hq2096⟩ := op_10 hI hG0 List.not_mem_nil
        have hI := th_I.weak (a := h0) hI
        refine th_get hx hb hts inT9 hown hK hO rfl 2 (by decide) (hts _ (tb_c wd_219)) rfl rfl dX9_traceBack_105 ?_
        refine lv_iload hx hb dX9_traceBack_108 (lv_at hl 3 rfl) ?_
        refine lv_iload hx hb dX9_traceBack_110 (lv_at hl 0 rfl) ?_
        refine lv_ldc hx hb hown (hts _ (tb_c wd_854)) dX9_traceBack_112 ?_
        refine lv_iand hx hb dX9_traceBack_114 ?_
        refine lv_topi (fun v2097 e2098 => ?_)
        have tv2097 := iv_andr (m := 16777215) (M := 16777215) e2098 (by decide) (by decide)
        obtain ⟨_, hA2099⟩ := op_0 hI hq2094 (th_ne hG0 hq2094 (show (10 : Nat) ≠ 0 by decide))
        refine th_iast hx hb hK hA2099 0 rfl hS ⟨_, hq2094⟩ (iv_in (X := v2077.toInt) rfl (by omega) (by omega)) dX9_traceBack_115 (fun H locs hA2099 oq hS => ?_)
        have hI := th_I.put hI hq2094 hA2099 ok_0 oq
        have hO := hO.kept (oq _ (fun z => th_ne hG0 hq2094 (show (10 : Nat) ≠ 0 by decide) (List.mem_singleton.mpr z.symm)))
        obtain ⟨v2100, e2101⟩ : ∃ y : Int32, y = v2077 + (-1) := ⟨_, rfl⟩
        have tv2100 : v2100.toInt = v2077.toInt + (-1) := iv_add rfl (by decide) e2101 (by omega) (by omega)
        refine lv_iinc (v := v2100) (lv' := [(5, .int v2100), (4, .int v2083), (7, .int v2082), (6, .int v2083), (0, .ref h0), (1, .int x1), (2, .int x2), (3, .int x3)]) hx hb dX9_traceBack_116 hl (k := 3) rfl (by rw [e2101]; rfl) (by decide) rfl (fun ls hl => ?_)
        refine lv_goto (tgt := 42) hx hb dX9_traceBack_119 (by decide) ?_
        have hI := th_I.close hI hG0 hO (ok_10 hq2090 hq2092 hq2094 hq2096)
        exact ih_42 _ (by omega) H locs ls v2100 v2083 rfl (lv_sub hl [0, 1, 4, 5, 6, 7] rfl) ⟨by omega, by omega⟩ ⟨by omega, by omega⟩ ⟨by omega, by omega⟩ hI hS
      have J_58 : ∀ (nn : Nat) (H : Heap) (locs : List Loc) (ls : Array Slot) (v2102 : Int32) (v2103 : Int32), (Int.toNat (24 - v2102.toInt) = nn) → lv_has ls 8 [(7, .int v2102), (6, .int v2103), (5, .int v2077), (4, .int v2078), (0, .ref h0), (1, .int x1), (2, .int x2), (3, .int x3)] → ((0 : Int) ≤ v2102.toInt ∧ v2102.toInt ≤ 24) → ((0 : Int) ≤ v2077.toInt ∧ v2077.toInt ≤ 95) → ((0 : Int) ≤ x3.toInt ∧ x3.toInt ≤ 95) → th_I (okC E) D G [] H → va_S (th_A G) s.heap H locs → W p l e R s m args below meth c H locs 0 0 QF (F0 m 58 ls []) := by
        intro nn
        induction nn using Nat.strongRecOn with
        | ind nn ih_58 =>
          intro H locs ls v2102 v2103 hm hl k2106 k2107 k2108 hI hS
          refine lv_iload hx hb dX9_traceBack_58 (lv_at hl 3 rfl) ?_
          have k2109 := iv_lo v2078
          have k2110 := iv_hi v2078
          refine lv_if_eq (tgt := 100) hx hb dX9_traceBack_60 (by decide) (fun c2111 => ?_) (fun c2111 => ?_)
          · skip
            have k2112 := iv_eq (X := v2078.toInt) (Y := (0)) rfl (by decide) c2111
            exact J_100 H locs ls v2102 v2103 (lv_sub hl [0, 1, 2, 3, 4, 5, 6, 7] rfl) ⟨by omega, by omega⟩ ⟨by omega, by omega⟩ ⟨by omega, by omega⟩ hI hS
          · skip
            have k2113 := iv_ne (X := v2078.toInt) (Y := (0)) rfl (by decide) c2111
            refine lv_iload hx hb dX9_traceBack_63 (lv_at hl 0 rfl) ?_
            refine lv_bipush (v := 24) hx hb dX9_traceBack_65 (by decide) ?_
            refine lv_icmp_ge (tgt := 100) hx hb dX9_traceBack_67 (by decide) (fun c2114 => ?_) (fun c2114 => ?_)
            · skip
              have k2115 := iv_le (X := (24)) (Y := v2102.toInt) (by decide) rfl c2114
              exact J_100 H locs ls v2102 v2103 (lv_sub hl [0, 1, 2, 3, 4, 5, 6, 7] rfl) ⟨by omega, by omega⟩ ⟨by omega, by omega⟩ ⟨by omega, by omega⟩ hI hS
            · skip
              have k2116 := iv_nle (X := (24)) (Y := v2102.toInt) (by decide) rfl c2114
              refine lv_iload hx hb dX9_traceBack_70 (lv_at hl 1 rfl) ?_
              refine lv_iload hx hb dX9_traceBack_72 (lv_at hl 3 rfl) ?_
              refine lv_aload_n hx hb dX9_traceBack_74 rfl (lv_at hl 4 rfl) ?_
              obtain ⟨a2117, a2119, a2121, a2123, hO, hq2118, hq2120, hq2122, hq2124⟩ := op_10 hI hG0 List.not_mem_nil
              have hI := th_I.weak (a := h0) hI
              refine th_get hx hb hts inT9 hown hK hO rfl 1 (by decide) (hts _ (tb_c wd_218)) rfl rfl dX9_traceBack_75 ?_
              refine lv_iload hx hb dX9_traceBack_78 (lv_at hl 0 rfl) ?_
              refine lv_iload hx hb dX9_traceBack_80 (lv_at hl 2 rfl) ?_
              have hI := th_I.close hI hG0 hO (ok_10 hq2118 hq2120 hq2122 hq2124)
              refine th_cVi (As := [.int v2102, .int v2077]) (rest := [.int v2078, .int v2103]) (n := 2) (d := 4) ⟨hx, hb, hml, hown, hts⟩ (c_X7_stepFrom l E D G a2119 hq2120 v2102 v2077) wd_833 wd_531 wd_532 wd_6 wd_533 (by decide +kernel) ⟨by rw [hR]; exact Nat.le_of_ble_eq_true rfl, by rw [hR]; exact Nat.le_of_ble_eq_true rfl⟩ hI hN hK hS (rc_9 hI hq2120 List.not_mem_nil) rfl rfl hl.1 rfl (Nat.le_of_ble_eq_true rfl) dX9_traceBack_82 ⟨Nat.zero_le _, Nat.zero_le _⟩ (fun r2125 H locs hp hI hS => ?_)
              refine lv_ishr hx hb dX9_traceBack_85 ?_
              refine lv_topi (fun v2126 e2127 => ?_)
              refine lv_iconst (v := 1) hx hb dX9_traceBack_86 (by decide) ?_
              refine lv_iand hx hb dX9_traceBack_87 ?_
              refine lv_topi (fun v2128 e2129 => ?_)
              have tv2128 := iv_andr (m := 1) (M := 1) e2129 (by decide) (by decide)
              refine lv_iload hx hb dX9_traceBack_88 (lv_at hl 0 rfl) ?_
              refine lv_ishl hx hb dX9_traceBack_90 ?_
              refine lv_topi (fun v2130 e2131 => ?_)
              refine lv_ior hx hb dX9_traceBack_91 ?_
              refine lv_topi (fun v2132 e2133 => ?_)
              refine lv_istore (lv' := [(6, .int v2132), (7, .int v2102), (5, .int v2077), (4, .int v2078), (0, .ref h0), (1, .int x1), (2, .int x2), (3, .int x3)]) hx hb dX9_traceBack_92 hl (by decide) rfl (fun ls hl => ?_)
              obtain ⟨v2134, e2135⟩ : ∃ y : Int32, y = v2102 + (1) := ⟨_, rfl⟩
              have tv2134 : v2134.toInt = v2102.toInt + (1) := iv_add rfl (by decide) e2135 (by omega) (by omega)
              refine lv_iinc (v := v2134) (lv' := [(7, .int v2134), (6, .int v2132), (5, .int v2077), (4, .int v2078), (0, .ref h0), (1, .int x1), (2, .int x2), (3, .int x3)]) hx hb dX9_traceBack_94 hl (k := 1) rfl (by rw [e2135]; rfl) (by decide) rfl (fun ls hl => ?_)
              refine lv_goto (tgt := 58) hx hb dX9_traceBack_97 (by decide) ?_
              exact ih_58 _ (by omega) H locs ls v2134 v2132 rfl (lv_sub hl [0, 1, 2, 3, 4, 5, 6, 7] rfl) ⟨by omega, by omega⟩ ⟨by omega, by omega⟩ ⟨by omega, by omega⟩ hI hS
      refine lv_iload hx hb dX9_traceBack_42 (lv_at hl 0 rfl) ?_
      refine lv_iload_n hx hb dX9_traceBack_44 rfl (lv_at hl 5 rfl) ?_
      refine lv_icmp_lt (tgt := 122) hx hb dX9_traceBack_45 (by decide) (fun c2136 => ?_) (fun c2136 => ?_)
      · skip
        have k2137 := iv_lt (X := v2077.toInt) (Y := x3.toInt) rfl rfl c2136
        refine lv_aload_n hx hb dX9_traceBack_122 rfl (lv_at hl 2 rfl) ?_
        obtain ⟨a2138, a2140, a2142, a2144, hO, hq2139, hq2141, hq2143, hq2145⟩ := op_10 hI hG0 List.not_mem_nil
        have hI := th_I.weak (a := h0) hI
        refine th_get hx hb hts inT9 hown hK hO rfl 2 (by decide) (hts _ (tb_c wd_219)) rfl rfl dX9_traceBack_123 ?_
        refine lv_iload_n hx hb dX9_traceBack_126 rfl (lv_at hl 5 rfl) ?_
        obtain ⟨_, hA2146⟩ := op_0 hI hq2143 (th_ne hG0 hq2143 (show (10 : Nat) ≠ 0 by decide))
        refine th_iald hx hb hK hA2146 0 rfl (iv_in (X := x3.toInt) rfl (by omega) (by omega)) dX9_traceBack_127 (fun v2147 _ => ?_)
        have hI := th_I.close hI hG0 hO (ok_10 hq2139 hq2141 hq2143 hq2145)
        have hpost : True := trivial
        rw [hQ]
        exact W.iret (v := v2147) hx hb hr (fun t ht hW => ⟨⟨v2147, (), rfl, hpost, by rw [ht]; exact hI, hN.warm hW, va_K.moved hW.alike hK⟩, hS.F ht⟩) hS.2.2 dX9_traceBack_128
      · skip
        have k2148 := iv_nlt (X := v2077.toInt) (Y := x3.toInt) rfl rfl c2136
        refine lv_iload hx hb dX9_traceBack_48 (lv_at hl 1 rfl) ?_
        refine lv_ldc hx hb hown (hts _ (tb_c wd_855)) dX9_traceBack_50 ?_
        refine lv_iand hx hb dX9_traceBack_52 ?_
        refine lv_topi (fun v2149 e2150 => ?_)
        have tv2149 := iv_andr (m := 16777216) (M := 16777216) e2150 (by decide) (by decide)
        refine lv_istore (lv' := [(6, .int v2149), (5, .int v2077), (4, .int v2078), (0, .ref h0), (1, .int x1), (2, .int x2), (3, .int x3)]) hx hb dX9_traceBack_53 hl (by decide) rfl (fun ls hl => ?_)
        refine lv_iconst (v := 0) hx hb dX9_traceBack_55 (by decide) ?_
        refine lv_istore (lv' := [(7, .int 0), (6, .int v2149), (5, .int v2077), (4, .int v2078), (0, .ref h0), (1, .int x1), (2, .int x2), (3, .int x3)]) hx hb dX9_traceBack_56 hl (by decide) rfl (fun ls hl => ?_)
        have zl : (0 : Int32).toInt = 0 := by decide
        exact J_58 _ H locs ls 0 v2149 rfl (lv_sub hl [0, 1, 2, 3, 4, 5, 6, 7] rfl) ⟨by decide, by decide⟩ ⟨by omega, by omega⟩ ⟨by omega, by omega⟩ hI hS
  have J_19 : ∀ (H : Heap) (locs : List Loc) (ls : Array Slot) , lv_has ls 8 [(0, .ref h0), (1, .int x1), (2, .int x2), (3, .int x3)] → th_I (okC E) D G [] H → va_S (th_A G) s.heap H locs → W p l e R s m args below meth c H locs 0 0 QF (F0 m 19 ls []) := by
    intro H locs ls  hl  hI hS
    refine lv_iconst (v := 0) hx hb dX9_traceBack_19 (by decide) ?_
    have hpost : True := trivial
    rw [hQ]
    exact W.iret (v := 0) hx hb hr (fun t ht hW => ⟨⟨0, (), rfl, hpost, by rw [ht]; exact hI, hN.warm hW, va_K.moved hW.alike hK⟩, hS.F ht⟩) hS.2.2 dX9_traceBack_20
  refine lv_iload_n hx hb dX9_traceBack_0 rfl (lv_at hl 2 rfl) ?_
  have k2151 := iv_lo x2
  have k2152 := iv_hi x2
  refine lv_if_lt (tgt := 19) hx hb dX9_traceBack_1 (by decide) (fun c2153 => ?_) (fun c2153 => ?_)
  · skip
    have k2154 := iv_lt (X := x2.toInt) (Y := (0)) rfl (by decide) c2153
    exact J_19 s.heap [] ls  (lv_sub hl [0, 1, 2, 3] rfl)  hI hS
  · skip
    have k2155 := iv_nlt (X := x2.toInt) (Y := (0)) rfl (by decide) c2153
    refine lv_iload_n hx hb dX9_traceBack_4 rfl (lv_at hl 2 rfl) ?_
    refine lv_bipush (v := 96) hx hb dX9_traceBack_5 (by decide) ?_
    refine lv_icmp_gt (tgt := 19) hx hb dX9_traceBack_7 (by decide) (fun c2156 => ?_) (fun c2156 => ?_)
    · skip
      have k2157 := iv_lt (X := (96)) (Y := x2.toInt) (by decide) rfl c2156
      exact J_19 s.heap [] ls  (lv_sub hl [0, 1, 2, 3] rfl)  hI hS
    · skip
      have k2158 := iv_nlt (X := (96)) (Y := x2.toInt) (by decide) rfl c2156
      refine lv_iload_n hx hb dX9_traceBack_10 rfl (lv_at hl 3 rfl) ?_
      have k2159 := iv_lo x3
      have k2160 := iv_hi x3
      refine lv_if_lt (tgt := 19) hx hb dX9_traceBack_11 (by decide) (fun c2161 => ?_) (fun c2161 => ?_)
      · skip
        have k2162 := iv_lt (X := x3.toInt) (Y := (0)) rfl (by decide) c2161
        exact J_19 s.heap [] ls  (lv_sub hl [0, 1, 2, 3] rfl)  hI hS
      · skip
        have k2163 := iv_nlt (X := x3.toInt) (Y := (0)) rfl (by decide) c2161
        refine lv_iload_n hx hb dX9_traceBack_14 rfl (lv_at hl 3 rfl) ?_
        refine lv_iload_n hx hb dX9_traceBack_15 rfl (lv_at hl 2 rfl) ?_
        refine lv_icmp_le (tgt := 21) hx hb dX9_traceBack_16 (by decide) (fun c2164 => ?_) (fun c2164 => ?_)
        · skip
          have k2165 := iv_le (X := x3.toInt) (Y := x2.toInt) rfl rfl c2164
          refine lv_iconst (v := 1) hx hb dX9_traceBack_21 (by decide) ?_
          refine lv_iload_n hx hb dX9_traceBack_22 rfl (lv_at hl 1 rfl) ?_
          refine lv_ishl hx hb dX9_traceBack_23 ?_
          refine lv_topi (fun v2166 e2167 => ?_)
          refine lv_istore (lv' := [(4, .int v2166), (0, .ref h0), (1, .int x1), (2, .int x2), (3, .int x3)]) hx hb dX9_traceBack_24 hl (by decide) rfl (fun ls hl => ?_)
          refine lv_aload_n hx hb dX9_traceBack_26 rfl (lv_at hl 1 rfl) ?_
          obtain ⟨a2168, a2170, a2172, a2174, hO, hq2169, hq2171, hq2173, hq2175⟩ := op_10 hI hG0 List.not_mem_nil
          have hI := th_I.weak (a := h0) hI
          refine th_get hx hb hts inT9 hown hK hO rfl 2 (by decide) (hts _ (tb_c wd_219)) rfl rfl dX9_traceBack_27 ?_
          refine lv_iload_n hx hb dX9_traceBack_30 rfl (lv_at hl 3 rfl) ?_
          refine lv_iload hx hb dX9_traceBack_31 (lv_at hl 0 rfl) ?_
          refine lv_ldc hx hb hown (hts _ (tb_c wd_854)) dX9_traceBack_33 ?_
          refine lv_iand hx hb dX9_traceBack_35 ?_
          refine lv_topi (fun v2176 e2177 => ?_)
          have tv2176 := iv_andr (m := 16777215) (M := 16777215) e2177 (by decide) (by decide)
          obtain ⟨_, hA2178⟩ := op_0 hI hq2173 (th_ne hG0 hq2173 (show (10 : Nat) ≠ 0 by decide))
          refine th_iast hx hb hK hA2178 0 rfl hS ⟨_, hq2173⟩ (iv_in (X := x2.toInt) rfl (by omega) (by omega)) dX9_traceBack_36 (fun H locs hA2178 oq hS => ?_)
          have hI := th_I.put hI hq2173 hA2178 ok_0 oq
          have hO := hO.kept (oq _ (fun z => th_ne hG0 hq2173 (show (10 : Nat) ≠ 0 by decide) (List.mem_singleton.mpr z.symm)))
          refine lv_iload_n hx hb dX9_traceBack_37 rfl (lv_at hl 3 rfl) ?_
          refine lv_iconst (v := 1) hx hb dX9_traceBack_38 (by decide) ?_
          refine lv_isub hx hb dX9_traceBack_39 ?_
          refine lv_topi (fun v2179 e2180 => ?_)
          have tv2179 : v2179.toInt = x2.toInt - (1) := iv_sub rfl (by decide) e2180 (by omega) (by omega)
          refine lv_istore (lv' := [(5, .int v2179), (4, .int v2166), (0, .ref h0), (1, .int x1), (2, .int x2), (3, .int x3)]) hx hb dX9_traceBack_40 hl (by decide) rfl (fun ls hl => ?_)
          have hI := th_I.close hI hG0 hO (ok_10 hq2169 hq2171 hq2173 hq2175)
          exact J_42 _ H locs ls v2179 v2166 rfl (lv_sub hl [0, 1, 2, 3, 4, 5] rfl) ⟨by omega, by omega⟩ ⟨by omega, by omega⟩ ⟨by omega, by omega⟩ hI hS
        · skip
          have k2181 := iv_nle (X := x3.toInt) (Y := x2.toInt) rfl rfl c2164
          exact J_19 s.heap [] ls  (lv_sub hl [0, 1, 2, 3] rfl)  hI hS
theorem dX9_originsAt_0g : (decode cX9_originsAt 0 = .ok (.iload_n 1, 1)) ∧ (decode cX9_originsAt 1 = .ok (.invokestatic 34, 3)) ∧ (decode cX9_originsAt 4 = .ok (.ifCond .eq 12, 3)) ∧ (decode cX9_originsAt 7 = .ok (.aload_n 0, 1)) ∧ (decode cX9_originsAt 8 = .ok (.getfield 9, 3)) ∧ (decode cX9_originsAt 11 = .ok (.iload_n 1, 1)) ∧ (decode cX9_originsAt 12 = .ok (.iaload, 1)) ∧ (decode cX9_originsAt 13 = .ok (.goto 4, 3)) ∧ (decode cX9_originsAt 16 = .ok (.iconst 0, 1)) ∧ (decode cX9_originsAt 17 = .ok (.ireturn, 1)) := by decide +kernel
theorem dX9_originsAt_0 : decode cX9_originsAt 0 = .ok (.iload_n 1, 1) := dX9_originsAt_0g.1
theorem dX9_originsAt_1 : decode cX9_originsAt 1 = .ok (.invokestatic 34, 3) := dX9_originsAt_0g.2.1
theorem dX9_originsAt_4 : decode cX9_originsAt 4 = .ok (.ifCond .eq 12, 3) := dX9_originsAt_0g.2.2.1
theorem dX9_originsAt_7 : decode cX9_originsAt 7 = .ok (.aload_n 0, 1) := dX9_originsAt_0g.2.2.2.1
theorem dX9_originsAt_8 : decode cX9_originsAt 8 = .ok (.getfield 9, 3) := dX9_originsAt_0g.2.2.2.2.1
theorem dX9_originsAt_11 : decode cX9_originsAt 11 = .ok (.iload_n 1, 1) := dX9_originsAt_0g.2.2.2.2.2.1
theorem dX9_originsAt_12 : decode cX9_originsAt 12 = .ok (.iaload, 1) := dX9_originsAt_0g.2.2.2.2.2.2.1
theorem dX9_originsAt_13 : decode cX9_originsAt 13 = .ok (.goto 4, 3) := dX9_originsAt_0g.2.2.2.2.2.2.2.1
theorem dX9_originsAt_16 : decode cX9_originsAt 16 = .ok (.iconst 0, 1) := dX9_originsAt_0g.2.2.2.2.2.2.2.2.1
theorem dX9_originsAt_17 : decode cX9_originsAt 17 = .ok (.ireturn, 1) := dX9_originsAt_0g.2.2.2.2.2.2.2.2.2
set_option maxHeartbeats 4000000 in
set_option maxRecDepth 100000 in
theorem c_X9_originsAt (l : Launch) (E : Nat → Nat) (D : va_G) (G : th_G) (h0 : Nat) (hG0 : G h0 = some (10, 0)) (x1 : Int32) : Met l yX9_originsAt (tb (.code yX9_originsAt cX9_originsAt 2 (some .int))) (rm 1) (va_Pc [.ref h0, .int x1] (th_P E D G)) (QI E D G (fun r => True)) 0 0 (th_A G) := by
  refine Met.ofW (cc := cX9_originsAt) (maxL := 2) (ret := (some .int)) (by decide) rfl ?_
  intro p e s m args below meth c s₁ B hml hv
  obtain ⟨hav, hI, hN, hK⟩ := hv
  have hx := B.exec
  have hb := B.bytes
  have hr := B.returns
  have hts := atoms_spec (ws := tb (.code yX9_originsAt cX9_originsAt 2 (some .int))) B.pre
  have hown : s.vm.findClass RX9 = some m.cls := findClass_of_methodNamed B.named
  have hlocks := B.notSynchronized
  have hS : va_S (th_A G) s.heap s.heap [] := va_S.rf
  have hl := lv_entry ([.ref h0, .int x1]) (n := 2) (Nat.le_of_ble_eq_true rfl)
  rw [show entryFrame m args 2 = entryFrame m ([.ref h0, .int x1] : List Value).toArray 2 from by rw [hav], lg_entry_eq]
  generalize (lg_sl ([.ref h0, .int x1]) ++ List.replicate (2 - (lg_sl ([.ref h0, .int x1])).length) Slot.unset).toArray = ls at hl ⊢
  have hl : lv_has ls 2 [(0, .ref h0), (1, .int x1)] := hl
  generalize hR : (headSpec (tb (.code yX9_originsAt cX9_originsAt 2 (some .int))) (rm 1)).room = R
  have hR := hR.symm
  generalize hQ : MQ below (QI E D G (fun r => True)) args s 0 0 (th_A G) = QF
  have hQ := hQ.symm
  refine lv_iload_n hx hb dX9_originsAt_0 rfl (lv_at hl 1 rfl) ?_
  refine th_cSN (As := [.int x1]) (rest := []) (n := 1) (d := 0) ⟨hx, hb, hml, hown, hts⟩ (c_X11_isMoment l s.heap x1) wn_1015 wd_827 wd_1 wd_828 (by decide +kernel) ⟨by rw [hR]; exact Nat.le_of_ble_eq_true rfl, by rw [hR]; exact Nat.le_of_ble_eq_true rfl⟩ hN hS rfl hl.1 rfl (Nat.le_of_ble_eq_true rfl) dX9_originsAt_1 ⟨Nat.zero_le _, Nat.zero_le _⟩ (fun r1 locs hp hS => ?_)
  rcases hp with ⟨rfl, hp⟩ | ⟨rfl, hp⟩
  · skip
    try simp only [rg, not_and, Int.not_le] at hp
    have hp2 := hp
    refine lv_if_eq (tgt := 16) hx hb dX9_originsAt_4 (by decide) (fun c => absurd c (by decide)) (fun _ => ?_)
    refine lv_aload_n hx hb dX9_originsAt_7 rfl (lv_at hl 0 rfl) ?_
    obtain ⟨a3, a5, a7, a9, hO, hq4, hq6, hq8, hq10⟩ := op_10 hI hG0 List.not_mem_nil
    have hI := th_I.weak (a := h0) hI
    refine th_get hx hb hts inT9 hown hK hO rfl 2 (by decide) (hts _ (tb_c wd_219)) rfl rfl dX9_originsAt_8 ?_
    refine lv_iload_n hx hb dX9_originsAt_11 rfl (lv_at hl 1 rfl) ?_
    obtain ⟨_, hA11⟩ := op_0 hI hq8 (th_ne hG0 hq8 (show (10 : Nat) ≠ 0 by decide))
    refine th_iald hx hb hK hA11 0 rfl (iv_in (X := x1.toInt) rfl (by omega) (by omega)) dX9_originsAt_12 (fun v12 _ => ?_)
    refine lv_goto (tgt := 17) hx hb dX9_originsAt_13 (by decide) ?_
    have hI := th_I.close hI hG0 hO (ok_10 hq4 hq6 hq8 hq10)
    have hpost : True := trivial
    rw [hQ]
    exact W.iret (v := v12) hx hb hr (fun t ht hW => ⟨⟨v12, (), rfl, hpost, by rw [ht]; exact hI, hN.warm hW, va_K.moved hW.alike hK⟩, hS.F ht⟩) hS.2.2 dX9_originsAt_17
  · skip
    try simp only [rg, not_and, Int.not_le] at hp
    have hp13 := hp
    refine lv_if_eq (tgt := 16) hx hb dX9_originsAt_4 (by decide) (fun _ => ?_) (fun c => absurd c (by decide))
    refine lv_iconst (v := 0) hx hb dX9_originsAt_16 (by decide) ?_
    have hpost : True := trivial
    rw [hQ]
    exact W.iret (v := 0) hx hb hr (fun t ht hW => ⟨⟨0, (), rfl, hpost, by rw [ht]; exact hI, hN.warm hW, va_K.moved hW.alike hK⟩, hS.F ht⟩) hS.2.2 dX9_originsAt_17
theorem dX9_isMoored_0g : (decode cX9_isMoored 0 = .ok (.iload_n 2, 1)) ∧ (decode cX9_isMoored 1 = .ok (.aload_n 0, 1)) ∧ (decode cX9_isMoored 2 = .ok (.getfield 18, 3)) ∧ (decode cX9_isMoored 5 = .ok (.getfield 38, 3)) ∧ (decode cX9_isMoored 8 = .ok (.iload_n 1, 1)) ∧ (decode cX9_isMoored 9 = .ok (.iconst 2, 1)) ∧ (decode cX9_isMoored 10 = .ok (.invokevirtual 44, 3)) ∧ (decode cX9_isMoored 13 = .ok (.if_icmp .lt 23, 3)) ∧ (decode cX9_isMoored 16 = .ok (.iload_n 2, 1)) ∧ (decode cX9_isMoored 17 = .ok (.aload_n 0, 1)) := by decide +kernel
theorem dX9_isMoored_0 : decode cX9_isMoored 0 = .ok (.iload_n 2, 1) := dX9_isMoored_0g.1
theorem dX9_isMoored_1 : decode cX9_isMoored 1 = .ok (.aload_n 0, 1) := dX9_isMoored_0g.2.1
theorem dX9_isMoored_2 : decode cX9_isMoored 2 = .ok (.getfield 18, 3) := dX9_isMoored_0g.2.2.1
theorem dX9_isMoored_5 : decode cX9_isMoored 5 = .ok (.getfield 38, 3) := dX9_isMoored_0g.2.2.2.1
theorem dX9_isMoored_8 : decode cX9_isMoored 8 = .ok (.iload_n 1, 1) := dX9_isMoored_0g.2.2.2.2.1
theorem dX9_isMoored_9 : decode cX9_isMoored 9 = .ok (.iconst 2, 1) := dX9_isMoored_0g.2.2.2.2.2.1
theorem dX9_isMoored_10 : decode cX9_isMoored 10 = .ok (.invokevirtual 44, 3) := dX9_isMoored_0g.2.2.2.2.2.2.1
theorem dX9_isMoored_13 : decode cX9_isMoored 13 = .ok (.if_icmp .lt 23, 3) := dX9_isMoored_0g.2.2.2.2.2.2.2.1
theorem dX9_isMoored_16 : decode cX9_isMoored 16 = .ok (.iload_n 2, 1) := dX9_isMoored_0g.2.2.2.2.2.2.2.2.1
theorem dX9_isMoored_17 : decode cX9_isMoored 17 = .ok (.aload_n 0, 1) := dX9_isMoored_0g.2.2.2.2.2.2.2.2.2
theorem dX9_isMoored_18g : (decode cX9_isMoored 18 = .ok (.getfield 18, 3)) ∧ (decode cX9_isMoored 21 = .ok (.getfield 38, 3)) ∧ (decode cX9_isMoored 24 = .ok (.iload_n 1, 1)) ∧ (decode cX9_isMoored 25 = .ok (.iconst 3, 1)) ∧ (decode cX9_isMoored 26 = .ok (.invokevirtual 44, 3)) ∧ (decode cX9_isMoored 29 = .ok (.if_icmp .gt 7, 3)) ∧ (decode cX9_isMoored 32 = .ok (.iconst 1, 1)) ∧ (decode cX9_isMoored 33 = .ok (.goto 4, 3)) ∧ (decode cX9_isMoored 36 = .ok (.iconst 0, 1)) ∧ (decode cX9_isMoored 37 = .ok (.ireturn, 1)) := by decide +kernel
theorem dX9_isMoored_18 : decode cX9_isMoored 18 = .ok (.getfield 18, 3) := dX9_isMoored_18g.1
theorem dX9_isMoored_21 : decode cX9_isMoored 21 = .ok (.getfield 38, 3) := dX9_isMoored_18g.2.1
theorem dX9_isMoored_24 : decode cX9_isMoored 24 = .ok (.iload_n 1, 1) := dX9_isMoored_18g.2.2.1
theorem dX9_isMoored_25 : decode cX9_isMoored 25 = .ok (.iconst 3, 1) := dX9_isMoored_18g.2.2.2.1
theorem dX9_isMoored_26 : decode cX9_isMoored 26 = .ok (.invokevirtual 44, 3) := dX9_isMoored_18g.2.2.2.2.1
theorem dX9_isMoored_29 : decode cX9_isMoored 29 = .ok (.if_icmp .gt 7, 3) := dX9_isMoored_18g.2.2.2.2.2.1
theorem dX9_isMoored_32 : decode cX9_isMoored 32 = .ok (.iconst 1, 1) := dX9_isMoored_18g.2.2.2.2.2.2.1
theorem dX9_isMoored_33 : decode cX9_isMoored 33 = .ok (.goto 4, 3) := dX9_isMoored_18g.2.2.2.2.2.2.2.1
theorem dX9_isMoored_36 : decode cX9_isMoored 36 = .ok (.iconst 0, 1) := dX9_isMoored_18g.2.2.2.2.2.2.2.2.1
theorem dX9_isMoored_37 : decode cX9_isMoored 37 = .ok (.ireturn, 1) := dX9_isMoored_18g.2.2.2.2.2.2.2.2.2
set_option maxHeartbeats 4000000 in
set_option maxRecDepth 100000 in
theorem c_X9_isMoored (l : Launch) (E : Nat → Nat) (D : va_G) (G : th_G) (h0 : Nat) (hG0 : G h0 = some (10, 0)) (x1 x2 : Int32) : Met l yX9_isMoored (tb (.code yX9_isMoored cX9_isMoored 3 (some .boolean))) (rm 1) (va_Pc [.ref h0, .int x1, .int x2] (th_P E D G)) (QI E D G (fun r => 0 ≤ (r : Int32).toInt ∧ (r : Int32).toInt ≤ 1)) 0 0 (th_A G) := by
  refine Met.ofW (cc := cX9_isMoored) (maxL := 3) (ret := (some .boolean)) (by decide) rfl ?_
  intro p e s m args below meth c s₁ B hml hv
  obtain ⟨hav, hI, hN, hK⟩ := hv
  have hx := B.exec
  have hb := B.bytes
  have hr := B.returns
  have hts := atoms_spec (ws := tb (.code yX9_isMoored cX9_isMoored 3 (some .boolean))) B.pre
  have hown : s.vm.findClass RX9 = some m.cls := findClass_of_methodNamed B.named
  have hlocks := B.notSynchronized
  have hS : va_S (th_A G) s.heap s.heap [] := va_S.rf
  have hl := lv_entry ([.ref h0, .int x1, .int x2]) (n := 3) (Nat.le_of_ble_eq_true rfl)
  rw [show entryFrame m args 3 = entryFrame m ([.ref h0, .int x1, .int x2] : List Value).toArray 3 from by rw [hav], lg_entry_eq]
  generalize (lg_sl ([.ref h0, .int x1, .int x2]) ++ List.replicate (3 - (lg_sl ([.ref h0, .int x1, .int x2])).length) Slot.unset).toArray = ls at hl ⊢
  have hl : lv_has ls 3 [(0, .ref h0), (1, .int x1), (2, .int x2)] := hl
  generalize hR : (headSpec (tb (.code yX9_isMoored cX9_isMoored 3 (some .boolean))) (rm 1)).room = R
  have hR := hR.symm
  generalize hQ : MQ below (QI E D G (fun r => 0 ≤ (r : Int32).toInt ∧ (r : Int32).toInt ≤ 1)) args s 0 0 (th_A G) = QF
  have hQ := hQ.symm
  refine lv_iload_n hx hb dX9_isMoored_0 rfl (lv_at hl 2 rfl) ?_
  refine lv_aload_n hx hb dX9_isMoored_1 rfl (lv_at hl 0 rfl) ?_
  obtain ⟨a1, a3, a5, a7, hO, hq2, hq4, hq6, hq8⟩ := op_10 hI hG0 List.not_mem_nil
  have hI := th_I.weak (a := h0) hI
  refine th_get hx hb hts inT9 hown hK hO rfl 0 (by decide) (hts _ (tb_c wd_217)) rfl rfl dX9_isMoored_2 ?_
  have hI := th_I.close hI hG0 hO (ok_10 hq2 hq4 hq6 hq8)
  obtain ⟨a9, a11, a13, a15, a17, a19, a21, a23, a25, a27, w29, w32, w33, w34, hO, hq10, hq12, hq14, hq16, hq18, hq20, hq22, hq24, hq26, hq28, ⟨k30, k31⟩, k35⟩ := op_6 hI hq2 List.not_mem_nil
  have hI := th_I.weak (a := a1) hI
  refine th_getN hx hb hts inT6 hown hK hN hO rfl 4 (by decide) wn_67 rfl rfl dX9_isMoored_5 ?_
  refine lv_iload_n hx hb dX9_isMoored_8 rfl (lv_at hl 1 rfl) ?_
  refine lv_iconst (v := 2) hx hb dX9_isMoored_9 (by decide) ?_
  have hI := th_I.close hI hq2 hO (ok_6 hq10 hq12 hq14 hq16 hq18 hq20 hq22 hq24 hq26 hq28 ⟨by omega, by omega⟩ k35)
  refine th_cVi (As := [.int x1, .int 2]) (rest := [.int x2]) (n := 2) (d := 0) ⟨hx, hb, hml, hown, hts⟩ (c_X4_at l E D G a17 (6) hq18 x1 2) wd_876 wd_519 wd_520 wd_3 wd_521 (by decide +kernel) ⟨by rw [hR]; exact Nat.le_of_ble_eq_true rfl, by rw [hR]; exact Nat.le_of_ble_eq_true rfl⟩ hI hN hK hS (rc_4 hI hq18 List.not_mem_nil) rfl rfl hl.1 rfl (Nat.le_of_ble_eq_true rfl) dX9_isMoored_10 ⟨Nat.zero_le _, Nat.zero_le _⟩ (fun r36 H locs hp hI hS => ?_)
  have k37 := iv_lo x2
  have k38 := iv_hi x2
  have k39 := iv_lo r36
  have k40 := iv_hi r36
  refine lv_icmp_lt (tgt := 36) hx hb dX9_isMoored_13 (by decide) (fun c41 => ?_) (fun c41 => ?_)
  · skip
    have k42 := iv_lt (X := x2.toInt) (Y := r36.toInt) rfl rfl c41
    refine lv_iconst (v := 0) hx hb dX9_isMoored_36 (by decide) ?_
    have hpost : 0 ≤ (0 : Int32).toInt ∧ (0 : Int32).toInt ≤ 1 := by first | decide | omega
    rw [hQ]
    exact W.zret (v := 0) hx hb hr (by decide) (fun t ht hW => ⟨⟨0, (), rfl, hpost, by rw [ht]; exact hI, hN.warm hW, va_K.moved hW.alike hK⟩, hS.F ht⟩) hS.2.2 dX9_isMoored_37
  · skip
    have k43 := iv_nlt (X := x2.toInt) (Y := r36.toInt) rfl rfl c41
    refine lv_iload_n hx hb dX9_isMoored_16 rfl (lv_at hl 2 rfl) ?_
    refine lv_aload_n hx hb dX9_isMoored_17 rfl (lv_at hl 0 rfl) ?_
    obtain ⟨a44, a46, a48, a50, hO, hq45, hq47, hq49, hq51⟩ := op_10 hI hG0 List.not_mem_nil
    have hI := th_I.weak (a := h0) hI
    refine th_get hx hb hts inT9 hown hK hO rfl 0 (by decide) (hts _ (tb_c wd_217)) rfl rfl dX9_isMoored_18 ?_
    have hI := th_I.close hI hG0 hO (ok_10 hq45 hq47 hq49 hq51)
    obtain ⟨a52, a54, a56, a58, a60, a62, a64, a66, a68, a70, w72, w75, w76, w77, hO, hq53, hq55, hq57, hq59, hq61, hq63, hq65, hq67, hq69, hq71, ⟨k73, k74⟩, k78⟩ := op_6 hI hq45 List.not_mem_nil
    have hI := th_I.weak (a := a44) hI
    refine th_getN hx hb hts inT6 hown hK hN hO rfl 4 (by decide) wn_67 rfl rfl dX9_isMoored_21 ?_
    refine lv_iload_n hx hb dX9_isMoored_24 rfl (lv_at hl 1 rfl) ?_
    refine lv_iconst (v := 3) hx hb dX9_isMoored_25 (by decide) ?_
    have hI := th_I.close hI hq45 hO (ok_6 hq53 hq55 hq57 hq59 hq61 hq63 hq65 hq67 hq69 hq71 ⟨by omega, by omega⟩ k78)
    refine th_cVi (As := [.int x1, .int 3]) (rest := [.int x2]) (n := 2) (d := 0) ⟨hx, hb, hml, hown, hts⟩ (c_X4_at l E D G a60 (6) hq61 x1 3) wd_876 wd_519 wd_520 wd_3 wd_521 (by decide +kernel) ⟨by rw [hR]; exact Nat.le_of_ble_eq_true rfl, by rw [hR]; exact Nat.le_of_ble_eq_true rfl⟩ hI hN hK hS (rc_4 hI hq61 List.not_mem_nil) rfl rfl hl.1 rfl (Nat.le_of_ble_eq_true rfl) dX9_isMoored_26 ⟨Nat.zero_le _, Nat.zero_le _⟩ (fun r79 H locs hp hI hS => ?_)
    have k80 := iv_lo r79
    have k81 := iv_hi r79
    refine lv_icmp_gt (tgt := 36) hx hb dX9_isMoored_29 (by decide) (fun c82 => ?_) (fun c82 => ?_)
    · skip
      have k83 := iv_lt (X := r79.toInt) (Y := x2.toInt) rfl rfl c82
      refine lv_iconst (v := 0) hx hb dX9_isMoored_36 (by decide) ?_
      have hpost : 0 ≤ (0 : Int32).toInt ∧ (0 : Int32).toInt ≤ 1 := by first | decide | omega
      rw [hQ]
      exact W.zret (v := 0) hx hb hr (by decide) (fun t ht hW => ⟨⟨0, (), rfl, hpost, by rw [ht]; exact hI, hN.warm hW, va_K.moved hW.alike hK⟩, hS.F ht⟩) hS.2.2 dX9_isMoored_37
    · skip
      have k84 := iv_nlt (X := r79.toInt) (Y := x2.toInt) rfl rfl c82
      refine lv_iconst (v := 1) hx hb dX9_isMoored_32 (by decide) ?_
      refine lv_goto (tgt := 37) hx hb dX9_isMoored_33 (by decide) ?_
      have hpost : 0 ≤ (1 : Int32).toInt ∧ (1 : Int32).toInt ≤ 1 := by first | decide | omega
      rw [hQ]
      exact W.zret (v := 1) hx hb hr (by decide) (fun t ht hW => ⟨⟨1, (), rfl, hpost, by rw [ht]; exact hI, hN.warm hW, va_K.moved hW.alike hK⟩, hS.F ht⟩) hS.2.2 dX9_isMoored_37
theorem dX9_sail_0g : (decode cX9_sail 0 = .ok (.aload_n 0, 1)) ∧ (decode cX9_sail 1 = .ok (.iload_n 1, 1)) ∧ (decode cX9_sail 2 = .ok (.iload_n 3, 1)) ∧ (decode cX9_sail 3 = .ok (.invokevirtual 53, 3)) ∧ (decode cX9_sail 6 = .ok (.ifCond .eq 7, 3)) ∧ (decode cX9_sail 9 = .ok (.iload_n 2, 1)) ∧ (decode cX9_sail 10 = .ok (.goto 12, 3)) ∧ (decode cX9_sail 13 = .ok (.aload_n 0, 1)) ∧ (decode cX9_sail 14 = .ok (.getfield 22, 3)) ∧ (decode cX9_sail 17 = .ok (.iload_n 2, 1)) := by decide +kernel
theorem dX9_sail_0 : decode cX9_sail 0 = .ok (.aload_n 0, 1) := dX9_sail_0g.1
theorem dX9_sail_1 : decode cX9_sail 1 = .ok (.iload_n 1, 1) := dX9_sail_0g.2.1
theorem dX9_sail_2 : decode cX9_sail 2 = .ok (.iload_n 3, 1) := dX9_sail_0g.2.2.1
theorem dX9_sail_3 : decode cX9_sail 3 = .ok (.invokevirtual 53, 3) := dX9_sail_0g.2.2.2.1
theorem dX9_sail_6 : decode cX9_sail 6 = .ok (.ifCond .eq 7, 3) := dX9_sail_0g.2.2.2.2.1
theorem dX9_sail_9 : decode cX9_sail 9 = .ok (.iload_n 2, 1) := dX9_sail_0g.2.2.2.2.2.1
theorem dX9_sail_10 : decode cX9_sail 10 = .ok (.goto 12, 3) := dX9_sail_0g.2.2.2.2.2.2.1
theorem dX9_sail_13 : decode cX9_sail 13 = .ok (.aload_n 0, 1) := dX9_sail_0g.2.2.2.2.2.2.2.1
theorem dX9_sail_14 : decode cX9_sail 14 = .ok (.getfield 22, 3) := dX9_sail_0g.2.2.2.2.2.2.2.2.1
theorem dX9_sail_17 : decode cX9_sail 17 = .ok (.iload_n 2, 1) := dX9_sail_0g.2.2.2.2.2.2.2.2.2
theorem dX9_sail_18g : (decode cX9_sail 18 = .ok (.iload_n 3, 1)) ∧ (decode cX9_sail 19 = .ok (.invokevirtual 26, 3)) ∧ (decode cX9_sail 22 = .ok (.ireturn, 1)) := by decide +kernel
theorem dX9_sail_18 : decode cX9_sail 18 = .ok (.iload_n 3, 1) := dX9_sail_18g.1
theorem dX9_sail_19 : decode cX9_sail 19 = .ok (.invokevirtual 26, 3) := dX9_sail_18g.2.1
theorem dX9_sail_22 : decode cX9_sail 22 = .ok (.ireturn, 1) := dX9_sail_18g.2.2
set_option maxHeartbeats 4000000 in
set_option maxRecDepth 100000 in
theorem c_X9_sail (l : Launch) (E : Nat → Nat) (D : va_G) (G : th_G) (h0 : Nat) (hG0 : G h0 = some (10, 0)) (x1 x2 x3 : Int32) : Met l yX9_sail (tb (.code yX9_sail cX9_sail 4 (some .int))) (rm 5) (va_Pc [.ref h0, .int x1, .int x2, .int x3] (th_P E D G)) (QI E D G (fun r => True)) 0 0 (th_A G) := by
  refine Met.ofW (cc := cX9_sail) (maxL := 4) (ret := (some .int)) (by decide) rfl ?_
  intro p e s m args below meth c s₁ B hml hv
  obtain ⟨hav, hI, hN, hK⟩ := hv
  have hx := B.exec
  have hb := B.bytes
  have hr := B.returns
  have hts := atoms_spec (ws := tb (.code yX9_sail cX9_sail 4 (some .int))) B.pre
  have hown : s.vm.findClass RX9 = some m.cls := findClass_of_methodNamed B.named
  have hlocks := B.notSynchronized
  have hS : va_S (th_A G) s.heap s.heap [] := va_S.rf
  have hl := lv_entry ([.ref h0, .int x1, .int x2, .int x3]) (n := 4) (Nat.le_of_ble_eq_true rfl)
  rw [show entryFrame m args 4 = entryFrame m ([.ref h0, .int x1, .int x2, .int x3] : List Value).toArray 4 from by rw [hav], lg_entry_eq]
  generalize (lg_sl ([.ref h0, .int x1, .int x2, .int x3]) ++ List.replicate (4 - (lg_sl ([.ref h0, .int x1, .int x2, .int x3])).length) Slot.unset).toArray = ls at hl ⊢
  have hl : lv_has ls 4 [(0, .ref h0), (1, .int x1), (2, .int x2), (3, .int x3)] := hl
  generalize hR : (headSpec (tb (.code yX9_sail cX9_sail 4 (some .int))) (rm 5)).room = R
  have hR := hR.symm
  generalize hQ : MQ below (QI E D G (fun r => True)) args s 0 0 (th_A G) = QF
  have hQ := hQ.symm
  refine lv_aload_n hx hb dX9_sail_0 rfl (lv_at hl 0 rfl) ?_
  refine lv_iload_n hx hb dX9_sail_1 rfl (lv_at hl 1 rfl) ?_
  refine lv_iload_n hx hb dX9_sail_2 rfl (lv_at hl 3 rfl) ?_
  refine th_cVi (As := [.int x1, .int x3]) (rest := []) (n := 2) (d := 1) ⟨hx, hb, hml, hown, hts⟩ (c_X9_isMoored l E D G h0 hG0 x1 x3) wd_881 wd_883 wp_24 wd_8 wd_884 (by decide +kernel) ⟨by rw [hR]; exact Nat.le_of_ble_eq_true rfl, by rw [hR]; exact Nat.le_of_ble_eq_true rfl⟩ hI hN hK hS (rc_10 hI hG0 List.not_mem_nil) rfl rfl hl.1 rfl (Nat.le_of_ble_eq_true rfl) dX9_sail_3 ⟨Nat.zero_le _, Nat.zero_le _⟩ (fun r1 H locs hp hI hS => ?_)
  have hp2 := hp
  refine lv_if_eq (tgt := 13) hx hb dX9_sail_6 (by decide) (fun c3 => ?_) (fun c3 => ?_)
  · skip
    have k4 := iv_eq (X := r1.toInt) (Y := (0)) rfl (by decide) c3
    refine lv_aload_n hx hb dX9_sail_13 rfl (lv_at hl 0 rfl) ?_
    obtain ⟨a5, a7, a9, a11, hO, hq6, hq8, hq10, hq12⟩ := op_10 hI hG0 List.not_mem_nil
    have hI := th_I.weak (a := h0) hI
    refine th_get hx hb hts inT9 hown hK hO rfl 1 (by decide) (hts _ (tb_c wd_218)) rfl rfl dX9_sail_14 ?_
    refine lv_iload_n hx hb dX9_sail_17 rfl (lv_at hl 2 rfl) ?_
    refine lv_iload_n hx hb dX9_sail_18 rfl (lv_at hl 3 rfl) ?_
    have hI := th_I.close hI hG0 hO (ok_10 hq6 hq8 hq10 hq12)
    refine th_cVi (As := [.int x2, .int x3]) (rest := []) (n := 2) (d := 4) ⟨hx, hb, hml, hown, hts⟩ (c_X7_stepFrom l E D G a7 hq8 x2 x3) wd_833 wd_531 wd_532 wd_6 wd_533 (by decide +kernel) ⟨by rw [hR]; exact Nat.le_of_ble_eq_true rfl, by rw [hR]; exact Nat.le_of_ble_eq_true rfl⟩ hI hN hK hS (rc_9 hI hq8 List.not_mem_nil) rfl rfl hl.1 rfl (Nat.le_of_ble_eq_true rfl) dX9_sail_19 ⟨Nat.zero_le _, Nat.zero_le _⟩ (fun r13 H locs hp hI hS => ?_)
    have hpost : True := trivial
    rw [hQ]
    exact W.iret (v := r13) hx hb hr (fun t ht hW => ⟨⟨r13, (), rfl, hpost, by rw [ht]; exact hI, hN.warm hW, va_K.moved hW.alike hK⟩, hS.F ht⟩) hS.2.2 dX9_sail_22
  · skip
    have k14 := iv_ne (X := r1.toInt) (Y := (0)) rfl (by decide) c3
    refine lv_iload_n hx hb dX9_sail_9 rfl (lv_at hl 2 rfl) ?_
    refine lv_goto (tgt := 22) hx hb dX9_sail_10 (by decide) ?_
    have hpost : True := trivial
    rw [hQ]
    exact W.iret (v := x2) hx hb hr (fun t ht hW => ⟨⟨x2, (), rfl, hpost, by rw [ht]; exact hI, hN.warm hW, va_K.moved hW.alike hK⟩, hS.F ht⟩) hS.2.2 dX9_sail_22
theorem dX9_boatAt_0g : (decode cX9_boatAt 0 = .ok (.aload_n 0, 1)) ∧ (decode cX9_boatAt 1 = .ok (.getfield 18, 3)) ∧ (decode cX9_boatAt 4 = .ok (.getfield 38, 3)) ∧ (decode cX9_boatAt 7 = .ok (.iload_n 1, 1)) ∧ (decode cX9_boatAt 8 = .ok (.iconst 0, 1)) ∧ (decode cX9_boatAt 9 = .ok (.invokevirtual 44, 3)) ∧ (decode cX9_boatAt 12 = .ok (.istore_n 3, 1)) ∧ (decode cX9_boatAt 13 = .ok (.aload_n 0, 1)) ∧ (decode cX9_boatAt 14 = .ok (.getfield 18, 3)) ∧ (decode cX9_boatAt 17 = .ok (.getfield 38, 3)) := by decide +kernel
theorem dX9_boatAt_0 : decode cX9_boatAt 0 = .ok (.aload_n 0, 1) := dX9_boatAt_0g.1
theorem dX9_boatAt_1 : decode cX9_boatAt 1 = .ok (.getfield 18, 3) := dX9_boatAt_0g.2.1
theorem dX9_boatAt_4 : decode cX9_boatAt 4 = .ok (.getfield 38, 3) := dX9_boatAt_0g.2.2.1
theorem dX9_boatAt_7 : decode cX9_boatAt 7 = .ok (.iload_n 1, 1) := dX9_boatAt_0g.2.2.2.1
theorem dX9_boatAt_8 : decode cX9_boatAt 8 = .ok (.iconst 0, 1) := dX9_boatAt_0g.2.2.2.2.1
theorem dX9_boatAt_9 : decode cX9_boatAt 9 = .ok (.invokevirtual 44, 3) := dX9_boatAt_0g.2.2.2.2.2.1
theorem dX9_boatAt_12 : decode cX9_boatAt 12 = .ok (.istore_n 3, 1) := dX9_boatAt_0g.2.2.2.2.2.2.1
theorem dX9_boatAt_13 : decode cX9_boatAt 13 = .ok (.aload_n 0, 1) := dX9_boatAt_0g.2.2.2.2.2.2.2.1
theorem dX9_boatAt_14 : decode cX9_boatAt 14 = .ok (.getfield 18, 3) := dX9_boatAt_0g.2.2.2.2.2.2.2.2.1
theorem dX9_boatAt_17 : decode cX9_boatAt 17 = .ok (.getfield 38, 3) := dX9_boatAt_0g.2.2.2.2.2.2.2.2.2
theorem dX9_boatAt_20g : (decode cX9_boatAt 20 = .ok (.iload_n 1, 1)) ∧ (decode cX9_boatAt 21 = .ok (.iconst 1, 1)) ∧ (decode cX9_boatAt 22 = .ok (.invokevirtual 44, 3)) ∧ (decode cX9_boatAt 25 = .ok (.istore 4, 2)) ∧ (decode cX9_boatAt 27 = .ok (.iload 4, 2)) ∧ (decode cX9_boatAt 29 = .ok (.iload_n 2, 1)) ∧ (decode cX9_boatAt 30 = .ok (.if_icmp .ge 25, 3)) ∧ (decode cX9_boatAt 33 = .ok (.iload 4, 2)) ∧ (decode cX9_boatAt 35 = .ok (.bipush 96, 2)) ∧ (decode cX9_boatAt 37 = .ok (.if_icmp .ge 18, 3)) := by decide +kernel
theorem dX9_boatAt_20 : decode cX9_boatAt 20 = .ok (.iload_n 1, 1) := dX9_boatAt_20g.1
theorem dX9_boatAt_21 : decode cX9_boatAt 21 = .ok (.iconst 1, 1) := dX9_boatAt_20g.2.1
theorem dX9_boatAt_22 : decode cX9_boatAt 22 = .ok (.invokevirtual 44, 3) := dX9_boatAt_20g.2.2.1
theorem dX9_boatAt_25 : decode cX9_boatAt 25 = .ok (.istore 4, 2) := dX9_boatAt_20g.2.2.2.1
theorem dX9_boatAt_27 : decode cX9_boatAt 27 = .ok (.iload 4, 2) := dX9_boatAt_20g.2.2.2.2.1
theorem dX9_boatAt_29 : decode cX9_boatAt 29 = .ok (.iload_n 2, 1) := dX9_boatAt_20g.2.2.2.2.2.1
theorem dX9_boatAt_30 : decode cX9_boatAt 30 = .ok (.if_icmp .ge 25, 3) := dX9_boatAt_20g.2.2.2.2.2.2.1
theorem dX9_boatAt_33 : decode cX9_boatAt 33 = .ok (.iload 4, 2) := dX9_boatAt_20g.2.2.2.2.2.2.2.1
theorem dX9_boatAt_35 : decode cX9_boatAt 35 = .ok (.bipush 96, 2) := dX9_boatAt_20g.2.2.2.2.2.2.2.2.1
theorem dX9_boatAt_37 : decode cX9_boatAt 37 = .ok (.if_icmp .ge 18, 3) := dX9_boatAt_20g.2.2.2.2.2.2.2.2.2
theorem dX9_boatAt_40g : (decode cX9_boatAt 40 = .ok (.aload_n 0, 1)) ∧ (decode cX9_boatAt 41 = .ok (.iload_n 1, 1)) ∧ (decode cX9_boatAt 42 = .ok (.iload_n 3, 1)) ∧ (decode cX9_boatAt 43 = .ok (.iload 4, 2)) ∧ (decode cX9_boatAt 45 = .ok (.invokevirtual 49, 3)) ∧ (decode cX9_boatAt 48 = .ok (.istore_n 3, 1)) ∧ (decode cX9_boatAt 49 = .ok (.iinc 4 1, 3)) ∧ (decode cX9_boatAt 52 = .ok (.goto (-25), 3)) ∧ (decode cX9_boatAt 55 = .ok (.iload_n 3, 1)) ∧ (decode cX9_boatAt 56 = .ok (.ireturn, 1)) := by decide +kernel
theorem dX9_boatAt_40 : decode cX9_boatAt 40 = .ok (.aload_n 0, 1) := dX9_boatAt_40g.1
theorem dX9_boatAt_41 : decode cX9_boatAt 41 = .ok (.iload_n 1, 1) := dX9_boatAt_40g.2.1
theorem dX9_boatAt_42 : decode cX9_boatAt 42 = .ok (.iload_n 3, 1) := dX9_boatAt_40g.2.2.1
theorem dX9_boatAt_43 : decode cX9_boatAt 43 = .ok (.iload 4, 2) := dX9_boatAt_40g.2.2.2.1
theorem dX9_boatAt_45 : decode cX9_boatAt 45 = .ok (.invokevirtual 49, 3) := dX9_boatAt_40g.2.2.2.2.1
theorem dX9_boatAt_48 : decode cX9_boatAt 48 = .ok (.istore_n 3, 1) := dX9_boatAt_40g.2.2.2.2.2.1
theorem dX9_boatAt_49 : decode cX9_boatAt 49 = .ok (.iinc 4 1, 3) := dX9_boatAt_40g.2.2.2.2.2.2.1
theorem dX9_boatAt_52 : decode cX9_boatAt 52 = .ok (.goto (-25), 3) := dX9_boatAt_40g.2.2.2.2.2.2.2.1
theorem dX9_boatAt_55 : decode cX9_boatAt 55 = .ok (.iload_n 3, 1) := dX9_boatAt_40g.2.2.2.2.2.2.2.2.1
theorem dX9_boatAt_56 : decode cX9_boatAt 56 = .ok (.ireturn, 1) := dX9_boatAt_40g.2.2.2.2.2.2.2.2.2
set_option maxHeartbeats 4000000 in
set_option maxRecDepth 100000 in
theorem c_X9_boatAt (l : Launch) (E : Nat → Nat) (D : va_G) (G : th_G) (h0 : Nat) (hG0 : G h0 = some (10, 0)) (x1 x2 : Int32) : Met l yX9_boatAt (tb (.code yX9_boatAt cX9_boatAt 5 (some .int))) (rm 6) (va_Pc [.ref h0, .int x1, .int x2] (th_P E D G)) (QI E D G (fun r => True)) 0 0 (th_A G) := by
  refine Met.ofW (cc := cX9_boatAt) (maxL := 5) (ret := (some .int)) (by decide) rfl ?_
  intro p e s m args below meth c s₁ B hml hv
  obtain ⟨hav, hI, hN, hK⟩ := hv
  have hx := B.exec
  have hb := B.bytes
  have hr := B.returns
  have hts := atoms_spec (ws := tb (.code yX9_boatAt cX9_boatAt 5 (some .int))) B.pre
  have hown : s.vm.findClass RX9 = some m.cls := findClass_of_methodNamed B.named
  have hlocks := B.notSynchronized
  have hS : va_S (th_A G) s.heap s.heap [] := va_S.rf
  have hl := lv_entry ([.ref h0, .int x1, .int x2]) (n := 5) (Nat.le_of_ble_eq_true rfl)
  rw [show entryFrame m args 5 = entryFrame m ([.ref h0, .int x1, .int x2] : List Value).toArray 5 from by rw [hav], lg_entry_eq]
  generalize (lg_sl ([.ref h0, .int x1, .int x2]) ++ List.replicate (5 - (lg_sl ([.ref h0, .int x1, .int x2])).length) Slot.unset).toArray = ls at hl ⊢
  have hl : lv_has ls 5 [(0, .ref h0), (1, .int x1), (2, .int x2)] := hl
  generalize hR : (headSpec (tb (.code yX9_boatAt cX9_boatAt 5 (some .int))) (rm 6)).room = R
  have hR := hR.symm
  generalize hQ : MQ below (QI E D G (fun r => True)) args s 0 0 (th_A G) = QF
  have hQ := hQ.symm
  have J_27 : ∀ (nn : Nat) (H : Heap) (locs : List Loc) (ls : Array Slot) (v682 : Int32) (v683 : Int32), (Int.toNat (96 - v682.toInt) = nn) → lv_has ls 5 [(4, .int v682), (3, .int v683), (0, .ref h0), (1, .int x1), (2, .int x2)] → th_I (okC E) D G [] H → va_S (th_A G) s.heap H locs → W p l e R s m args below meth c H locs 0 0 QF (F0 m 27 ls []) := by
    intro nn
    induction nn using Nat.strongRecOn with
    | ind nn ih_27 =>
      intro H locs ls v682 v683 hm hl  hI hS
      refine lv_iload hx hb dX9_boatAt_27 (lv_at hl 0 rfl) ?_
      refine lv_iload_n hx hb dX9_boatAt_29 rfl (lv_at hl 4 rfl) ?_
      have k684 := iv_lo v682
      have k685 := iv_hi v682
      have k686 := iv_lo x2
      have k687 := iv_hi x2
      refine lv_icmp_ge (tgt := 55) hx hb dX9_boatAt_30 (by decide) (fun c688 => ?_) (fun c688 => ?_)
      · skip
        have k689 := iv_le (X := x2.toInt) (Y := v682.toInt) rfl rfl c688
        refine lv_iload_n hx hb dX9_boatAt_55 rfl (lv_at hl 1 rfl) ?_
        have hpost : True := trivial
        rw [hQ]
        exact W.iret (v := v683) hx hb hr (fun t ht hW => ⟨⟨v683, (), rfl, hpost, by rw [ht]; exact hI, hN.warm hW, va_K.moved hW.alike hK⟩, hS.F ht⟩) hS.2.2 dX9_boatAt_56
      · skip
        have k690 := iv_nle (X := x2.toInt) (Y := v682.toInt) rfl rfl c688
        refine lv_iload hx hb dX9_boatAt_33 (lv_at hl 0 rfl) ?_
        refine lv_bipush (v := 96) hx hb dX9_boatAt_35 (by decide) ?_
        refine lv_icmp_ge (tgt := 55) hx hb dX9_boatAt_37 (by decide) (fun c691 => ?_) (fun c691 => ?_)
        · skip
          have k692 := iv_le (X := (96)) (Y := v682.toInt) (by decide) rfl c691
          refine lv_iload_n hx hb dX9_boatAt_55 rfl (lv_at hl 1 rfl) ?_
          have hpost : True := trivial
          rw [hQ]
          exact W.iret (v := v683) hx hb hr (fun t ht hW => ⟨⟨v683, (), rfl, hpost, by rw [ht]; exact hI, hN.warm hW, va_K.moved hW.alike hK⟩, hS.F ht⟩) hS.2.2 dX9_boatAt_56
        · skip
          have k693 := iv_nle (X := (96)) (Y := v682.toInt) (by decide) rfl c691
          refine lv_aload_n hx hb dX9_boatAt_40 rfl (lv_at hl 2 rfl) ?_
          refine lv_iload_n hx hb dX9_boatAt_41 rfl (lv_at hl 3 rfl) ?_
          refine lv_iload_n hx hb dX9_boatAt_42 rfl (lv_at hl 1 rfl) ?_
          refine lv_iload hx hb dX9_boatAt_43 (lv_at hl 0 rfl) ?_
          refine th_cVi (As := [.int x1, .int v683, .int v682]) (rest := []) (n := 3) (d := 5) ⟨hx, hb, hml, hown, hts⟩ (c_X9_sail l E D G h0 hG0 x1 v683 v682) wd_877 wd_879 wp_23 wd_8 wd_880 (by decide +kernel) ⟨by rw [hR]; exact Nat.le_of_ble_eq_true rfl, by rw [hR]; exact Nat.le_of_ble_eq_true rfl⟩ hI hN hK hS (rc_10 hI hG0 List.not_mem_nil) rfl rfl hl.1 rfl (Nat.le_of_ble_eq_true rfl) dX9_boatAt_45 ⟨Nat.zero_le _, Nat.zero_le _⟩ (fun r694 H locs hp hI hS => ?_)
          refine lv_istore_n (lv' := [(3, .int r694), (4, .int v682), (0, .ref h0), (1, .int x1), (2, .int x2)]) hx hb dX9_boatAt_48 rfl hl (by decide) rfl (fun ls hl => ?_)
          obtain ⟨v695, e696⟩ : ∃ y : Int32, y = v682 + (1) := ⟨_, rfl⟩
          have tv695 : v695.toInt = v682.toInt + (1) := iv_add rfl (by decide) e696 (by omega) (by omega)
          refine lv_iinc (v := v695) (lv' := [(4, .int v695), (3, .int r694), (0, .ref h0), (1, .int x1), (2, .int x2)]) hx hb dX9_boatAt_49 hl (k := 1) rfl (by rw [e696]; rfl) (by decide) rfl (fun ls hl => ?_)
          refine lv_goto (tgt := 27) hx hb dX9_boatAt_52 (by decide) ?_
          exact ih_27 _ (by omega) H locs ls v695 r694 rfl (lv_sub hl [0, 1, 2, 3, 4] rfl)  hI hS
  refine lv_aload_n hx hb dX9_boatAt_0 rfl (lv_at hl 0 rfl) ?_
  obtain ⟨a697, a699, a701, a703, hO, hq698, hq700, hq702, hq704⟩ := op_10 hI hG0 List.not_mem_nil
  have hI := th_I.weak (a := h0) hI
  refine th_get hx hb hts inT9 hown hK hO rfl 0 (by decide) (hts _ (tb_c wd_217)) rfl rfl dX9_boatAt_1 ?_
  have hI := th_I.close hI hG0 hO (ok_10 hq698 hq700 hq702 hq704)
  obtain ⟨a705, a707, a709, a711, a713, a715, a717, a719, a721, a723, w725, w728, w729, w730, hO, hq706, hq708, hq710, hq712, hq714, hq716, hq718, hq720, hq722, hq724, ⟨k726, k727⟩, k731⟩ := op_6 hI hq698 List.not_mem_nil
  have hI := th_I.weak (a := a697) hI
  refine th_getN hx hb hts inT6 hown hK hN hO rfl 4 (by decide) wn_67 rfl rfl dX9_boatAt_4 ?_
  refine lv_iload_n hx hb dX9_boatAt_7 rfl (lv_at hl 1 rfl) ?_
  refine lv_iconst (v := 0) hx hb dX9_boatAt_8 (by decide) ?_
  have hI := th_I.close hI hq698 hO (ok_6 hq706 hq708 hq710 hq712 hq714 hq716 hq718 hq720 hq722 hq724 ⟨by omega, by omega⟩ k731)
  refine th_cVi (As := [.int x1, .int 0]) (rest := []) (n := 2) (d := 0) ⟨hx, hb, hml, hown, hts⟩ (c_X4_at l E D G a713 (6) hq714 x1 0) wd_876 wd_519 wd_520 wd_3 wd_521 (by decide +kernel) ⟨by rw [hR]; exact Nat.le_of_ble_eq_true rfl, by rw [hR]; exact Nat.le_of_ble_eq_true rfl⟩ hI hN hK hS (rc_4 hI hq714 List.not_mem_nil) rfl rfl hl.1 rfl (Nat.le_of_ble_eq_true rfl) dX9_boatAt_9 ⟨Nat.zero_le _, Nat.zero_le _⟩ (fun r732 H locs hp hI hS => ?_)
  refine lv_istore_n (lv' := [(3, .int r732), (0, .ref h0), (1, .int x1), (2, .int x2)]) hx hb dX9_boatAt_12 rfl hl (by decide) rfl (fun ls hl => ?_)
  refine lv_aload_n hx hb dX9_boatAt_13 rfl (lv_at hl 1 rfl) ?_
  obtain ⟨a733, a735, a737, a739, hO, hq734, hq736, hq738, hq740⟩ := op_10 hI hG0 List.not_mem_nil
  have hI := th_I.weak (a := h0) hI
  refine th_get hx hb hts inT9 hown hK hO rfl 0 (by decide) (hts _ (tb_c wd_217)) rfl rfl dX9_boatAt_14 ?_
  have hI := th_I.close hI hG0 hO (ok_10 hq734 hq736 hq738 hq740)
  obtain ⟨a741, a743, a745, a747, a749, a751, a753, a755, a757, a759, w761, w764, w765, w766, hO, hq742, hq744, hq746, hq748, hq750, hq752, hq754, hq756, hq758, hq760, ⟨k762, k763⟩, k767⟩ := op_6 hI hq734 List.not_mem_nil
  have hI := th_I.weak (a := a733) hI
  refine th_getN hx hb hts inT6 hown hK hN hO rfl 4 (by decide) wn_67 rfl rfl dX9_boatAt_17 ?_
  refine lv_iload_n hx hb dX9_boatAt_20 rfl (lv_at hl 2 rfl) ?_
  refine lv_iconst (v := 1) hx hb dX9_boatAt_21 (by decide) ?_
  have hI := th_I.close hI hq734 hO (ok_6 hq742 hq744 hq746 hq748 hq750 hq752 hq754 hq756 hq758 hq760 ⟨by omega, by omega⟩ k767)
  refine th_cVi (As := [.int x1, .int 1]) (rest := []) (n := 2) (d := 0) ⟨hx, hb, hml, hown, hts⟩ (c_X4_at l E D G a749 (6) hq750 x1 1) wd_876 wd_519 wd_520 wd_3 wd_521 (by decide +kernel) ⟨by rw [hR]; exact Nat.le_of_ble_eq_true rfl, by rw [hR]; exact Nat.le_of_ble_eq_true rfl⟩ hI hN hK hS (rc_4 hI hq750 List.not_mem_nil) rfl rfl hl.1 rfl (Nat.le_of_ble_eq_true rfl) dX9_boatAt_22 ⟨Nat.zero_le _, Nat.zero_le _⟩ (fun r768 H locs hp hI hS => ?_)
  refine lv_istore (lv' := [(4, .int r768), (3, .int r732), (0, .ref h0), (1, .int x1), (2, .int x2)]) hx hb dX9_boatAt_25 hl (by decide) rfl (fun ls hl => ?_)
  exact J_27 _ H locs ls r768 r732 rfl (lv_sub hl [0, 1, 2, 3, 4] rfl)  hI hS
theorem dX9_tollTill_0g : (decode cX9_tollTill 0 = .ok (.aload_n 0, 1)) ∧ (decode cX9_tollTill 1 = .ok (.getfield 18, 3)) ∧ (decode cX9_tollTill 4 = .ok (.getfield 38, 3)) ∧ (decode cX9_tollTill 7 = .ok (.iload_n 1, 1)) ∧ (decode cX9_tollTill 8 = .ok (.iconst 0, 1)) ∧ (decode cX9_tollTill 9 = .ok (.invokevirtual 44, 3)) ∧ (decode cX9_tollTill 12 = .ok (.istore_n 3, 1)) ∧ (decode cX9_tollTill 13 = .ok (.iconst 0, 1)) ∧ (decode cX9_tollTill 14 = .ok (.istore 4, 2)) ∧ (decode cX9_tollTill 16 = .ok (.aload_n 0, 1)) := by decide +kernel
theorem dX9_tollTill_0 : decode cX9_tollTill 0 = .ok (.aload_n 0, 1) := dX9_tollTill_0g.1
theorem dX9_tollTill_1 : decode cX9_tollTill 1 = .ok (.getfield 18, 3) := dX9_tollTill_0g.2.1
theorem dX9_tollTill_4 : decode cX9_tollTill 4 = .ok (.getfield 38, 3) := dX9_tollTill_0g.2.2.1
theorem dX9_tollTill_7 : decode cX9_tollTill 7 = .ok (.iload_n 1, 1) := dX9_tollTill_0g.2.2.2.1
theorem dX9_tollTill_8 : decode cX9_tollTill 8 = .ok (.iconst 0, 1) := dX9_tollTill_0g.2.2.2.2.1
theorem dX9_tollTill_9 : decode cX9_tollTill 9 = .ok (.invokevirtual 44, 3) := dX9_tollTill_0g.2.2.2.2.2.1
theorem dX9_tollTill_12 : decode cX9_tollTill 12 = .ok (.istore_n 3, 1) := dX9_tollTill_0g.2.2.2.2.2.2.1
theorem dX9_tollTill_13 : decode cX9_tollTill 13 = .ok (.iconst 0, 1) := dX9_tollTill_0g.2.2.2.2.2.2.2.1
theorem dX9_tollTill_14 : decode cX9_tollTill 14 = .ok (.istore 4, 2) := dX9_tollTill_0g.2.2.2.2.2.2.2.2.1
theorem dX9_tollTill_16 : decode cX9_tollTill 16 = .ok (.aload_n 0, 1) := dX9_tollTill_0g.2.2.2.2.2.2.2.2.2
theorem dX9_tollTill_17g : (decode cX9_tollTill 17 = .ok (.getfield 18, 3)) ∧ (decode cX9_tollTill 20 = .ok (.getfield 38, 3)) ∧ (decode cX9_tollTill 23 = .ok (.iload_n 1, 1)) ∧ (decode cX9_tollTill 24 = .ok (.iconst 1, 1)) ∧ (decode cX9_tollTill 25 = .ok (.invokevirtual 44, 3)) ∧ (decode cX9_tollTill 28 = .ok (.istore 5, 2)) ∧ (decode cX9_tollTill 30 = .ok (.iload 5, 2)) ∧ (decode cX9_tollTill 32 = .ok (.iload_n 2, 1)) ∧ (decode cX9_tollTill 33 = .ok (.if_icmp .ge 60, 3)) ∧ (decode cX9_tollTill 36 = .ok (.iload 5, 2)) := by decide +kernel
theorem dX9_tollTill_17 : decode cX9_tollTill 17 = .ok (.getfield 18, 3) := dX9_tollTill_17g.1
theorem dX9_tollTill_20 : decode cX9_tollTill 20 = .ok (.getfield 38, 3) := dX9_tollTill_17g.2.1
theorem dX9_tollTill_23 : decode cX9_tollTill 23 = .ok (.iload_n 1, 1) := dX9_tollTill_17g.2.2.1
theorem dX9_tollTill_24 : decode cX9_tollTill 24 = .ok (.iconst 1, 1) := dX9_tollTill_17g.2.2.2.1
theorem dX9_tollTill_25 : decode cX9_tollTill 25 = .ok (.invokevirtual 44, 3) := dX9_tollTill_17g.2.2.2.2.1
theorem dX9_tollTill_28 : decode cX9_tollTill 28 = .ok (.istore 5, 2) := dX9_tollTill_17g.2.2.2.2.2.1
theorem dX9_tollTill_30 : decode cX9_tollTill 30 = .ok (.iload 5, 2) := dX9_tollTill_17g.2.2.2.2.2.2.1
theorem dX9_tollTill_32 : decode cX9_tollTill 32 = .ok (.iload_n 2, 1) := dX9_tollTill_17g.2.2.2.2.2.2.2.1
theorem dX9_tollTill_33 : decode cX9_tollTill 33 = .ok (.if_icmp .ge 60, 3) := dX9_tollTill_17g.2.2.2.2.2.2.2.2.1
theorem dX9_tollTill_36 : decode cX9_tollTill 36 = .ok (.iload 5, 2) := dX9_tollTill_17g.2.2.2.2.2.2.2.2.2
theorem dX9_tollTill_38g : (decode cX9_tollTill 38 = .ok (.bipush 96, 2)) ∧ (decode cX9_tollTill 40 = .ok (.if_icmp .ge 53, 3)) ∧ (decode cX9_tollTill 43 = .ok (.iload_n 3, 1)) ∧ (decode cX9_tollTill 44 = .ok (.bipush 24, 2)) ∧ (decode cX9_tollTill 46 = .ok (.if_icmp .eq 47, 3)) ∧ (decode cX9_tollTill 49 = .ok (.iload 4, 2)) ∧ (decode cX9_tollTill 51 = .ok (.aload_n 0, 1)) ∧ (decode cX9_tollTill 52 = .ok (.iload_n 1, 1)) ∧ (decode cX9_tollTill 53 = .ok (.iload 5, 2)) ∧ (decode cX9_tollTill 55 = .ok (.invokevirtual 53, 3)) := by decide +kernel
theorem dX9_tollTill_38 : decode cX9_tollTill 38 = .ok (.bipush 96, 2) := dX9_tollTill_38g.1
theorem dX9_tollTill_40 : decode cX9_tollTill 40 = .ok (.if_icmp .ge 53, 3) := dX9_tollTill_38g.2.1
theorem dX9_tollTill_43 : decode cX9_tollTill 43 = .ok (.iload_n 3, 1) := dX9_tollTill_38g.2.2.1
theorem dX9_tollTill_44 : decode cX9_tollTill 44 = .ok (.bipush 24, 2) := dX9_tollTill_38g.2.2.2.1
theorem dX9_tollTill_46 : decode cX9_tollTill 46 = .ok (.if_icmp .eq 47, 3) := dX9_tollTill_38g.2.2.2.2.1
theorem dX9_tollTill_49 : decode cX9_tollTill 49 = .ok (.iload 4, 2) := dX9_tollTill_38g.2.2.2.2.2.1
theorem dX9_tollTill_51 : decode cX9_tollTill 51 = .ok (.aload_n 0, 1) := dX9_tollTill_38g.2.2.2.2.2.2.1
theorem dX9_tollTill_52 : decode cX9_tollTill 52 = .ok (.iload_n 1, 1) := dX9_tollTill_38g.2.2.2.2.2.2.2.1
theorem dX9_tollTill_53 : decode cX9_tollTill 53 = .ok (.iload 5, 2) := dX9_tollTill_38g.2.2.2.2.2.2.2.2.1
theorem dX9_tollTill_55 : decode cX9_tollTill 55 = .ok (.invokevirtual 53, 3) := dX9_tollTill_38g.2.2.2.2.2.2.2.2.2
theorem dX9_tollTill_58g : (decode cX9_tollTill 58 = .ok (.ifCond .eq 7, 3)) ∧ (decode cX9_tollTill 61 = .ok (.iconst 0, 1)) ∧ (decode cX9_tollTill 62 = .ok (.goto 13, 3)) ∧ (decode cX9_tollTill 65 = .ok (.aload_n 0, 1)) ∧ (decode cX9_tollTill 66 = .ok (.getfield 22, 3)) ∧ (decode cX9_tollTill 69 = .ok (.iload_n 3, 1)) ∧ (decode cX9_tollTill 70 = .ok (.iload 5, 2)) ∧ (decode cX9_tollTill 72 = .ok (.invokevirtual 57, 3)) ∧ (decode cX9_tollTill 75 = .ok (.iadd, 1)) ∧ (decode cX9_tollTill 76 = .ok (.istore 4, 2)) := by decide +kernel
theorem dX9_tollTill_58 : decode cX9_tollTill 58 = .ok (.ifCond .eq 7, 3) := dX9_tollTill_58g.1
theorem dX9_tollTill_61 : decode cX9_tollTill 61 = .ok (.iconst 0, 1) := dX9_tollTill_58g.2.1
theorem dX9_tollTill_62 : decode cX9_tollTill 62 = .ok (.goto 13, 3) := dX9_tollTill_58g.2.2.1
theorem dX9_tollTill_65 : decode cX9_tollTill 65 = .ok (.aload_n 0, 1) := dX9_tollTill_58g.2.2.2.1
theorem dX9_tollTill_66 : decode cX9_tollTill 66 = .ok (.getfield 22, 3) := dX9_tollTill_58g.2.2.2.2.1
theorem dX9_tollTill_69 : decode cX9_tollTill 69 = .ok (.iload_n 3, 1) := dX9_tollTill_58g.2.2.2.2.2.1
theorem dX9_tollTill_70 : decode cX9_tollTill 70 = .ok (.iload 5, 2) := dX9_tollTill_58g.2.2.2.2.2.2.1
theorem dX9_tollTill_72 : decode cX9_tollTill 72 = .ok (.invokevirtual 57, 3) := dX9_tollTill_58g.2.2.2.2.2.2.2.1
theorem dX9_tollTill_75 : decode cX9_tollTill 75 = .ok (.iadd, 1) := dX9_tollTill_58g.2.2.2.2.2.2.2.2.1
theorem dX9_tollTill_76 : decode cX9_tollTill 76 = .ok (.istore 4, 2) := dX9_tollTill_58g.2.2.2.2.2.2.2.2.2
theorem dX9_tollTill_78g : (decode cX9_tollTill 78 = .ok (.aload_n 0, 1)) ∧ (decode cX9_tollTill 79 = .ok (.iload_n 1, 1)) ∧ (decode cX9_tollTill 80 = .ok (.iload_n 3, 1)) ∧ (decode cX9_tollTill 81 = .ok (.iload 5, 2)) ∧ (decode cX9_tollTill 83 = .ok (.invokevirtual 49, 3)) ∧ (decode cX9_tollTill 86 = .ok (.istore_n 3, 1)) ∧ (decode cX9_tollTill 87 = .ok (.iinc 5 1, 3)) ∧ (decode cX9_tollTill 90 = .ok (.goto (-60), 3)) ∧ (decode cX9_tollTill 93 = .ok (.iload 4, 2)) ∧ (decode cX9_tollTill 95 = .ok (.ireturn, 1)) := by decide +kernel
theorem dX9_tollTill_78 : decode cX9_tollTill 78 = .ok (.aload_n 0, 1) := dX9_tollTill_78g.1
theorem dX9_tollTill_79 : decode cX9_tollTill 79 = .ok (.iload_n 1, 1) := dX9_tollTill_78g.2.1
theorem dX9_tollTill_80 : decode cX9_tollTill 80 = .ok (.iload_n 3, 1) := dX9_tollTill_78g.2.2.1
theorem dX9_tollTill_81 : decode cX9_tollTill 81 = .ok (.iload 5, 2) := dX9_tollTill_78g.2.2.2.1
theorem dX9_tollTill_83 : decode cX9_tollTill 83 = .ok (.invokevirtual 49, 3) := dX9_tollTill_78g.2.2.2.2.1
theorem dX9_tollTill_86 : decode cX9_tollTill 86 = .ok (.istore_n 3, 1) := dX9_tollTill_78g.2.2.2.2.2.1
theorem dX9_tollTill_87 : decode cX9_tollTill 87 = .ok (.iinc 5 1, 3) := dX9_tollTill_78g.2.2.2.2.2.2.1
theorem dX9_tollTill_90 : decode cX9_tollTill 90 = .ok (.goto (-60), 3) := dX9_tollTill_78g.2.2.2.2.2.2.2.1
theorem dX9_tollTill_93 : decode cX9_tollTill 93 = .ok (.iload 4, 2) := dX9_tollTill_78g.2.2.2.2.2.2.2.2.1
theorem dX9_tollTill_95 : decode cX9_tollTill 95 = .ok (.ireturn, 1) := dX9_tollTill_78g.2.2.2.2.2.2.2.2.2
set_option maxHeartbeats 4000000 in
set_option maxRecDepth 100000 in
theorem c_X9_tollTill (l : Launch) (E : Nat → Nat) (D : va_G) (G : th_G) (h0 : Nat) (hG0 : G h0 = some (10, 0)) (x1 x2 : Int32) : Met l yX9_tollTill (tb (.code yX9_tollTill cX9_tollTill 6 (some .int))) (rm 6) (va_Pc [.ref h0, .int x1, .int x2] (th_P E D G)) (QI E D G (fun r => True)) 0 0 (th_A G) := by
  refine Met.ofW (cc := cX9_tollTill) (maxL := 6) (ret := (some .int)) (by decide) rfl ?_
  intro p e s m args below meth c s₁ B hml hv
  obtain ⟨hav, hI, hN, hK⟩ := hv
  have hx := B.exec
  have hb := B.bytes
  have hr := B.returns
  have hts := atoms_spec (ws := tb (.code yX9_tollTill cX9_tollTill 6 (some .int))) B.pre
  have hown : s.vm.findClass RX9 = some m.cls := findClass_of_methodNamed B.named
  have hlocks := B.notSynchronized
  have hS : va_S (th_A G) s.heap s.heap [] := va_S.rf
  have hl := lv_entry ([.ref h0, .int x1, .int x2]) (n := 6) (Nat.le_of_ble_eq_true rfl)
  rw [show entryFrame m args 6 = entryFrame m ([.ref h0, .int x1, .int x2] : List Value).toArray 6 from by rw [hav], lg_entry_eq]
  generalize (lg_sl ([.ref h0, .int x1, .int x2]) ++ List.replicate (6 - (lg_sl ([.ref h0, .int x1, .int x2])).length) Slot.unset).toArray = ls at hl ⊢
  have hl : lv_has ls 6 [(0, .ref h0), (1, .int x1), (2, .int x2)] := hl
  generalize hR : (headSpec (tb (.code yX9_tollTill cX9_tollTill 6 (some .int))) (rm 6)).room = R
  have hR := hR.symm
  generalize hQ : MQ below (QI E D G (fun r => True)) args s 0 0 (th_A G) = QF
  have hQ := hQ.symm
  have J_30 : ∀ (nn : Nat) (H : Heap) (locs : List Loc) (ls : Array Slot) (v1219 : Int32) (v1220 : Int32) (v1221 : Int32), (Int.toNat (96 - v1219.toInt) = nn) → lv_has ls 6 [(5, .int v1219), (4, .int v1220), (3, .int v1221), (0, .ref h0), (1, .int x1), (2, .int x2)] → th_I (okC E) D G [] H → va_S (th_A G) s.heap H locs → W p l e R s m args below meth c H locs 0 0 QF (F0 m 30 ls []) := by
    intro nn
    induction nn using Nat.strongRecOn with
    | ind nn ih_30 =>
      intro H locs ls v1219 v1220 v1221 hm hl  hI hS
      have J_75 : ∀ (H : Heap) (locs : List Loc) (ls : Array Slot) (v1225 : Int32) (v1226 : Int32), lv_has ls 6 [(5, .int v1219), (4, .int v1220), (3, .int v1221), (0, .ref h0), (1, .int x1), (2, .int x2)] → (v1219.toInt ≤ 95) → th_I (okC E) D G [] H → va_S (th_A G) s.heap H locs → W p l e R s m args below meth c H locs 0 0 QF (F0 m 75 ls [.int v1225, .int v1226]) := by
        intro H locs ls v1225 v1226 hl k1227 hI hS
        refine lv_iadd hx hb dX9_tollTill_75 ?_
        refine lv_topi (fun v1228 e1229 => ?_)
        try have tv1228 : v1228.toInt = v1226.toInt + v1225.toInt := iv_add rfl rfl e1229 (by omega) (by omega)
        refine lv_istore (lv' := [(4, .int v1228), (5, .int v1219), (3, .int v1221), (0, .ref h0), (1, .int x1), (2, .int x2)]) hx hb dX9_tollTill_76 hl (by decide) rfl (fun ls hl => ?_)
        refine lv_aload_n hx hb dX9_tollTill_78 rfl (lv_at hl 3 rfl) ?_
        refine lv_iload_n hx hb dX9_tollTill_79 rfl (lv_at hl 4 rfl) ?_
        refine lv_iload_n hx hb dX9_tollTill_80 rfl (lv_at hl 2 rfl) ?_
        refine lv_iload hx hb dX9_tollTill_81 (lv_at hl 1 rfl) ?_
        refine th_cVi (As := [.int x1, .int v1221, .int v1219]) (rest := []) (n := 3) (d := 5) ⟨hx, hb, hml, hown, hts⟩ (c_X9_sail l E D G h0 hG0 x1 v1221 v1219) wd_877 wd_879 wp_23 wd_8 wd_880 (by decide +kernel) ⟨by rw [hR]; exact Nat.le_of_ble_eq_true rfl, by rw [hR]; exact Nat.le_of_ble_eq_true rfl⟩ hI hN hK hS (rc_10 hI hG0 List.not_mem_nil) rfl rfl hl.1 rfl (Nat.le_of_ble_eq_true rfl) dX9_tollTill_83 ⟨Nat.zero_le _, Nat.zero_le _⟩ (fun r1230 H locs hp hI hS => ?_)
        refine lv_istore_n (lv' := [(3, .int r1230), (4, .int v1228), (5, .int v1219), (0, .ref h0), (1, .int x1), (2, .int x2)]) hx hb dX9_tollTill_86 rfl hl (by decide) rfl (fun ls hl => ?_)
        obtain ⟨v1231, e1232⟩ : ∃ y : Int32, y = v1219 + (1) := ⟨_, rfl⟩
        have k1233 := iv_lo v1219
        have k1234 := iv_hi v1219
        have tv1231 : v1231.toInt = v1219.toInt + (1) := iv_add rfl (by decide) e1232 (by omega) (by omega)
        refine lv_iinc (v := v1231) (lv' := [(5, .int v1231), (3, .int r1230), (4, .int v1228), (0, .ref h0), (1, .int x1), (2, .int x2)]) hx hb dX9_tollTill_87 hl (k := 2) rfl (by rw [e1232]; rfl) (by decide) rfl (fun ls hl => ?_)
        refine lv_goto (tgt := 30) hx hb dX9_tollTill_90 (by decide) ?_
        exact ih_30 _ (by omega) H locs ls v1231 v1228 r1230 rfl (lv_sub hl [0, 2, 1, 3, 4, 5] rfl)  hI hS
      refine lv_iload hx hb dX9_tollTill_30 (lv_at hl 0 rfl) ?_
      refine lv_iload_n hx hb dX9_tollTill_32 rfl (lv_at hl 5 rfl) ?_
      have k1235 := iv_lo v1219
      have k1236 := iv_hi v1219
      have k1237 := iv_lo x2
      have k1238 := iv_hi x2
      refine lv_icmp_ge (tgt := 93) hx hb dX9_tollTill_33 (by decide) (fun c1239 => ?_) (fun c1239 => ?_)
      · skip
        have k1240 := iv_le (X := x2.toInt) (Y := v1219.toInt) rfl rfl c1239
        refine lv_iload hx hb dX9_tollTill_93 (lv_at hl 1 rfl) ?_
        have hpost : True := trivial
        rw [hQ]
        exact W.iret (v := v1220) hx hb hr (fun t ht hW => ⟨⟨v1220, (), rfl, hpost, by rw [ht]; exact hI, hN.warm hW, va_K.moved hW.alike hK⟩, hS.F ht⟩) hS.2.2 dX9_tollTill_95
      · skip
        have k1241 := iv_nle (X := x2.toInt) (Y := v1219.toInt) rfl rfl c1239
        refine lv_iload hx hb dX9_tollTill_36 (lv_at hl 0 rfl) ?_
        refine lv_bipush (v := 96) hx hb dX9_tollTill_38 (by decide) ?_
        refine lv_icmp_ge (tgt := 93) hx hb dX9_tollTill_40 (by decide) (fun c1242 => ?_) (fun c1242 => ?_)
        · skip
          have k1243 := iv_le (X := (96)) (Y := v1219.toInt) (by decide) rfl c1242
          refine lv_iload hx hb dX9_tollTill_93 (lv_at hl 1 rfl) ?_
          have hpost : True := trivial
          rw [hQ]
          exact W.iret (v := v1220) hx hb hr (fun t ht hW => ⟨⟨v1220, (), rfl, hpost, by rw [ht]; exact hI, hN.warm hW, va_K.moved hW.alike hK⟩, hS.F ht⟩) hS.2.2 dX9_tollTill_95
        · skip
          have k1244 := iv_nle (X := (96)) (Y := v1219.toInt) (by decide) rfl c1242
          refine lv_iload_n hx hb dX9_tollTill_43 rfl (lv_at hl 2 rfl) ?_
          refine lv_bipush (v := 24) hx hb dX9_tollTill_44 (by decide) ?_
          have k1245 := iv_lo v1221
          have k1246 := iv_hi v1221
          refine lv_icmp_eq (tgt := 93) hx hb dX9_tollTill_46 (by decide) (fun c1247 => ?_) (fun c1247 => ?_)
          · skip
            have k1248 := iv_eq (X := v1221.toInt) (Y := (24)) rfl (by decide) c1247
            refine lv_iload hx hb dX9_tollTill_93 (lv_at hl 1 rfl) ?_
            have hpost : True := trivial
            rw [hQ]
            exact W.iret (v := v1220) hx hb hr (fun t ht hW => ⟨⟨v1220, (), rfl, hpost, by rw [ht]; exact hI, hN.warm hW, va_K.moved hW.alike hK⟩, hS.F ht⟩) hS.2.2 dX9_tollTill_95
          · skip
            have k1249 := iv_ne (X := v1221.toInt) (Y := (24)) rfl (by decide) c1247
            refine lv_iload hx hb dX9_tollTill_49 (lv_at hl 1 rfl) ?_
            refine lv_aload_n hx hb dX9_tollTill_51 rfl (lv_at hl 3 rfl) ?_
            refine lv_iload_n hx hb dX9_tollTill_52 rfl (lv_at hl 4 rfl) ?_
            refine lv_iload hx hb dX9_tollTill_53 (lv_at hl 0 rfl) ?_
            refine th_cVi (As := [.int x1, .int v1219]) (rest := [.int v1220]) (n := 2) (d := 1) ⟨hx, hb, hml, hown, hts⟩ (c_X9_isMoored l E D G h0 hG0 x1 v1219) wd_881 wd_883 wp_24 wd_8 wd_884 (by decide +kernel) ⟨by rw [hR]; exact Nat.le_of_ble_eq_true rfl, by rw [hR]; exact Nat.le_of_ble_eq_true rfl⟩ hI hN hK hS (rc_10 hI hG0 List.not_mem_nil) rfl rfl hl.1 rfl (Nat.le_of_ble_eq_true rfl) dX9_tollTill_55 ⟨Nat.zero_le _, Nat.zero_le _⟩ (fun r1250 H locs hp hI hS => ?_)
            have hp1251 := hp
            refine lv_if_eq (tgt := 65) hx hb dX9_tollTill_58 (by decide) (fun c1252 => ?_) (fun c1252 => ?_)
            · skip
              have k1253 := iv_eq (X := r1250.toInt) (Y := (0)) rfl (by decide) c1252
              refine lv_aload_n hx hb dX9_tollTill_65 rfl (lv_at hl 3 rfl) ?_
              obtain ⟨a1254, a1256, a1258, a1260, hO, hq1255, hq1257, hq1259, hq1261⟩ := op_10 hI hG0 List.not_mem_nil
              have hI := th_I.weak (a := h0) hI
              refine th_get hx hb hts inT9 hown hK hO rfl 1 (by decide) (hts _ (tb_c wd_218)) rfl rfl dX9_tollTill_66 ?_
              refine lv_iload_n hx hb dX9_tollTill_69 rfl (lv_at hl 2 rfl) ?_
              refine lv_iload hx hb dX9_tollTill_70 (lv_at hl 0 rfl) ?_
              have hI := th_I.close hI hG0 hO (ok_10 hq1255 hq1257 hq1259 hq1261)
              refine th_cVi (As := [.int v1221, .int v1219]) (rest := [.int v1220]) (n := 2) (d := 5) ⟨hx, hb, hml, hown, hts⟩ (c_X7_tollsFrom l E D G a1256 hq1257 v1221 v1219) wd_889 wd_890 wd_891 wd_6 wd_892 (by decide +kernel) ⟨by rw [hR]; exact Nat.le_of_ble_eq_true rfl, by rw [hR]; exact Nat.le_of_ble_eq_true rfl⟩ hI hN hK hS (rc_9 hI hq1257 List.not_mem_nil) rfl rfl hl.1 rfl (Nat.le_of_ble_eq_true rfl) dX9_tollTill_72 ⟨Nat.zero_le _, Nat.zero_le _⟩ (fun r1262 H locs hp hI hS => ?_)
              exact J_75 H locs ls r1262 v1220 (lv_sub hl [0, 1, 2, 3, 4, 5] rfl) (by omega) hI hS
            · skip
              have k1263 := iv_ne (X := r1250.toInt) (Y := (0)) rfl (by decide) c1252
              refine lv_iconst (v := 0) hx hb dX9_tollTill_61 (by decide) ?_
              refine lv_goto (tgt := 75) hx hb dX9_tollTill_62 (by decide) ?_
              exact J_75 H locs ls 0 v1220 (lv_sub hl [0, 1, 2, 3, 4, 5] rfl) (by omega) hI hS
  refine lv_aload_n hx hb dX9_tollTill_0 rfl (lv_at hl 0 rfl) ?_
  obtain ⟨a1264, a1266, a1268, a1270, hO, hq1265, hq1267, hq1269, hq1271⟩ := op_10 hI hG0 List.not_mem_nil
  have hI := th_I.weak (a := h0) hI
  refine th_get hx hb hts inT9 hown hK hO rfl 0 (by decide) (hts _ (tb_c wd_217)) rfl rfl dX9_tollTill_1 ?_
  have hI := th_I.close hI hG0 hO (ok_10 hq1265 hq1267 hq1269 hq1271)
  obtain ⟨a1272, a1274, a1276, a1278, a1280, a1282, a1284, a1286, a1288, a1290, w1292, w1295, w1296, w1297, hO, hq1273, hq1275, hq1277, hq1279, hq1281, hq1283, hq1285, hq1287, hq1289, hq1291, ⟨k1293, k1294⟩, k1298⟩ := op_6 hI hq1265 List.not_mem_nil
  have hI := th_I.weak (a := a1264) hI
  refine th_getN hx hb hts inT6 hown hK hN hO rfl 4 (by decide) wn_67 rfl rfl dX9_tollTill_4 ?_
  refine lv_iload_n hx hb dX9_tollTill_7 rfl (lv_at hl 1 rfl) ?_
  refine lv_iconst (v := 0) hx hb dX9_tollTill_8 (by decide) ?_
  have hI := th_I.close hI hq1265 hO (ok_6 hq1273 hq1275 hq1277 hq1279 hq1281 hq1283 hq1285 hq1287 hq1289 hq1291 ⟨by omega, by omega⟩ k1298)
  refine th_cVi (As := [.int x1, .int 0]) (rest := []) (n := 2) (d := 0) ⟨hx, hb, hml, hown, hts⟩ (c_X4_at l E D G a1280 (6) hq1281 x1 0) wd_876 wd_519 wd_520 wd_3 wd_521 (by decide +kernel) ⟨by rw [hR]; exact Nat.le_of_ble_eq_true rfl, by rw [hR]; exact Nat.le_of_ble_eq_true rfl⟩ hI hN hK hS (rc_4 hI hq1281 List.not_mem_nil) rfl rfl hl.1 rfl (Nat.le_of_ble_eq_true rfl) dX9_tollTill_9 ⟨Nat.zero_le _, Nat.zero_le _⟩ (fun r1299 H locs hp hI hS => ?_)
  refine lv_istore_n (lv' := [(3, .int r1299), (0, .ref h0), (1, .int x1), (2, .int x2)]) hx hb dX9_tollTill_12 rfl hl (by decide) rfl (fun ls hl => ?_)
  refine lv_iconst (v := 0) hx hb dX9_tollTill_13 (by decide) ?_
  refine lv_istore (lv' := [(4, .int 0), (3, .int r1299), (0, .ref h0), (1, .int x1), (2, .int x2)]) hx hb dX9_tollTill_14 hl (by decide) rfl (fun ls hl => ?_)
  refine lv_aload_n hx hb dX9_tollTill_16 rfl (lv_at hl 2 rfl) ?_
  obtain ⟨a1300, a1302, a1304, a1306, hO, hq1301, hq1303, hq1305, hq1307⟩ := op_10 hI hG0 List.not_mem_nil
  have hI := th_I.weak (a := h0) hI
  refine th_get hx hb hts inT9 hown hK hO rfl 0 (by decide) (hts _ (tb_c wd_217)) rfl rfl dX9_tollTill_17 ?_
  have hI := th_I.close hI hG0 hO (ok_10 hq1301 hq1303 hq1305 hq1307)
  obtain ⟨a1308, a1310, a1312, a1314, a1316, a1318, a1320, a1322, a1324, a1326, w1328, w1331, w1332, w1333, hO, hq1309, hq1311, hq1313, hq1315, hq1317, hq1319, hq1321, hq1323, hq1325, hq1327, ⟨k1329, k1330⟩, k1334⟩ := op_6 hI hq1301 List.not_mem_nil
  have hI := th_I.weak (a := a1300) hI
  refine th_getN hx hb hts inT6 hown hK hN hO rfl 4 (by decide) wn_67 rfl rfl dX9_tollTill_20 ?_
  refine lv_iload_n hx hb dX9_tollTill_23 rfl (lv_at hl 3 rfl) ?_
  refine lv_iconst (v := 1) hx hb dX9_tollTill_24 (by decide) ?_
  have hI := th_I.close hI hq1301 hO (ok_6 hq1309 hq1311 hq1313 hq1315 hq1317 hq1319 hq1321 hq1323 hq1325 hq1327 ⟨by omega, by omega⟩ k1334)
  refine th_cVi (As := [.int x1, .int 1]) (rest := []) (n := 2) (d := 0) ⟨hx, hb, hml, hown, hts⟩ (c_X4_at l E D G a1316 (6) hq1317 x1 1) wd_876 wd_519 wd_520 wd_3 wd_521 (by decide +kernel) ⟨by rw [hR]; exact Nat.le_of_ble_eq_true rfl, by rw [hR]; exact Nat.le_of_ble_eq_true rfl⟩ hI hN hK hS (rc_4 hI hq1317 List.not_mem_nil) rfl rfl hl.1 rfl (Nat.le_of_ble_eq_true rfl) dX9_tollTill_25 ⟨Nat.zero_le _, Nat.zero_le _⟩ (fun r1335 H locs hp hI hS => ?_)
  refine lv_istore (lv' := [(5, .int r1335), (4, .int 0), (3, .int r1299), (0, .ref h0), (1, .int x1), (2, .int x2)]) hx hb dX9_tollTill_28 hl (by decide) rfl (fun ls hl => ?_)
  exact J_30 _ H locs ls r1335 0 r1299 rfl (lv_sub hl [0, 1, 2, 3, 4, 5] rfl)  hI hS
theorem dX9_meeting_0g : (decode cX9_meeting 0 = .ok (.aload_n 0, 1)) ∧ (decode cX9_meeting 1 = .ok (.getfield 18, 3)) ∧ (decode cX9_meeting 4 = .ok (.getfield 38, 3)) ∧ (decode cX9_meeting 7 = .ok (.iload_n 1, 1)) ∧ (decode cX9_meeting 8 = .ok (.iconst 1, 1)) ∧ (decode cX9_meeting 9 = .ok (.invokevirtual 44, 3)) ∧ (decode cX9_meeting 12 = .ok (.aload_n 0, 1)) ∧ (decode cX9_meeting 13 = .ok (.getfield 18, 3)) ∧ (decode cX9_meeting 16 = .ok (.getfield 38, 3)) ∧ (decode cX9_meeting 19 = .ok (.iload_n 2, 1)) := by decide +kernel
theorem dX9_meeting_0 : decode cX9_meeting 0 = .ok (.aload_n 0, 1) := dX9_meeting_0g.1
theorem dX9_meeting_1 : decode cX9_meeting 1 = .ok (.getfield 18, 3) := dX9_meeting_0g.2.1
theorem dX9_meeting_4 : decode cX9_meeting 4 = .ok (.getfield 38, 3) := dX9_meeting_0g.2.2.1
theorem dX9_meeting_7 : decode cX9_meeting 7 = .ok (.iload_n 1, 1) := dX9_meeting_0g.2.2.2.1
theorem dX9_meeting_8 : decode cX9_meeting 8 = .ok (.iconst 1, 1) := dX9_meeting_0g.2.2.2.2.1
theorem dX9_meeting_9 : decode cX9_meeting 9 = .ok (.invokevirtual 44, 3) := dX9_meeting_0g.2.2.2.2.2.1
theorem dX9_meeting_12 : decode cX9_meeting 12 = .ok (.aload_n 0, 1) := dX9_meeting_0g.2.2.2.2.2.2.1
theorem dX9_meeting_13 : decode cX9_meeting 13 = .ok (.getfield 18, 3) := dX9_meeting_0g.2.2.2.2.2.2.2.1
theorem dX9_meeting_16 : decode cX9_meeting 16 = .ok (.getfield 38, 3) := dX9_meeting_0g.2.2.2.2.2.2.2.2.1
theorem dX9_meeting_19 : decode cX9_meeting 19 = .ok (.iload_n 2, 1) := dX9_meeting_0g.2.2.2.2.2.2.2.2.2
theorem dX9_meeting_20g : (decode cX9_meeting 20 = .ok (.iconst 1, 1)) ∧ (decode cX9_meeting 21 = .ok (.invokevirtual 44, 3)) ∧ (decode cX9_meeting 24 = .ok (.invokestatic 60, 3)) ∧ (decode cX9_meeting 27 = .ok (.istore_n 3, 1)) ∧ (decode cX9_meeting 28 = .ok (.aload_n 0, 1)) ∧ (decode cX9_meeting 29 = .ok (.iload_n 1, 1)) ∧ (decode cX9_meeting 30 = .ok (.iload_n 3, 1)) ∧ (decode cX9_meeting 31 = .ok (.invokevirtual 65, 3)) ∧ (decode cX9_meeting 34 = .ok (.istore 4, 2)) ∧ (decode cX9_meeting 36 = .ok (.aload_n 0, 1)) := by decide +kernel
theorem dX9_meeting_20 : decode cX9_meeting 20 = .ok (.iconst 1, 1) := dX9_meeting_20g.1
theorem dX9_meeting_21 : decode cX9_meeting 21 = .ok (.invokevirtual 44, 3) := dX9_meeting_20g.2.1
theorem dX9_meeting_24 : decode cX9_meeting 24 = .ok (.invokestatic 60, 3) := dX9_meeting_20g.2.2.1
theorem dX9_meeting_27 : decode cX9_meeting 27 = .ok (.istore_n 3, 1) := dX9_meeting_20g.2.2.2.1
theorem dX9_meeting_28 : decode cX9_meeting 28 = .ok (.aload_n 0, 1) := dX9_meeting_20g.2.2.2.2.1
theorem dX9_meeting_29 : decode cX9_meeting 29 = .ok (.iload_n 1, 1) := dX9_meeting_20g.2.2.2.2.2.1
theorem dX9_meeting_30 : decode cX9_meeting 30 = .ok (.iload_n 3, 1) := dX9_meeting_20g.2.2.2.2.2.2.1
theorem dX9_meeting_31 : decode cX9_meeting 31 = .ok (.invokevirtual 65, 3) := dX9_meeting_20g.2.2.2.2.2.2.2.1
theorem dX9_meeting_34 : decode cX9_meeting 34 = .ok (.istore 4, 2) := dX9_meeting_20g.2.2.2.2.2.2.2.2.1
theorem dX9_meeting_36 : decode cX9_meeting 36 = .ok (.aload_n 0, 1) := dX9_meeting_20g.2.2.2.2.2.2.2.2.2
theorem dX9_meeting_37g : (decode cX9_meeting 37 = .ok (.iload_n 2, 1)) ∧ (decode cX9_meeting 38 = .ok (.iload_n 3, 1)) ∧ (decode cX9_meeting 39 = .ok (.invokevirtual 65, 3)) ∧ (decode cX9_meeting 42 = .ok (.istore 5, 2)) ∧ (decode cX9_meeting 44 = .ok (.iload_n 3, 1)) ∧ (decode cX9_meeting 45 = .ok (.bipush 96, 2)) ∧ (decode cX9_meeting 47 = .ok (.if_icmp .gt 52, 3)) ∧ (decode cX9_meeting 50 = .ok (.iload 4, 2)) ∧ (decode cX9_meeting 52 = .ok (.bipush 24, 2)) ∧ (decode cX9_meeting 54 = .ok (.if_icmp .eq 45, 3)) := by decide +kernel
theorem dX9_meeting_37 : decode cX9_meeting 37 = .ok (.iload_n 2, 1) := dX9_meeting_37g.1
theorem dX9_meeting_38 : decode cX9_meeting 38 = .ok (.iload_n 3, 1) := dX9_meeting_37g.2.1
theorem dX9_meeting_39 : decode cX9_meeting 39 = .ok (.invokevirtual 65, 3) := dX9_meeting_37g.2.2.1
theorem dX9_meeting_42 : decode cX9_meeting 42 = .ok (.istore 5, 2) := dX9_meeting_37g.2.2.2.1
theorem dX9_meeting_44 : decode cX9_meeting 44 = .ok (.iload_n 3, 1) := dX9_meeting_37g.2.2.2.2.1
theorem dX9_meeting_45 : decode cX9_meeting 45 = .ok (.bipush 96, 2) := dX9_meeting_37g.2.2.2.2.2.1
theorem dX9_meeting_47 : decode cX9_meeting 47 = .ok (.if_icmp .gt 52, 3) := dX9_meeting_37g.2.2.2.2.2.2.1
theorem dX9_meeting_50 : decode cX9_meeting 50 = .ok (.iload 4, 2) := dX9_meeting_37g.2.2.2.2.2.2.2.1
theorem dX9_meeting_52 : decode cX9_meeting 52 = .ok (.bipush 24, 2) := dX9_meeting_37g.2.2.2.2.2.2.2.2.1
theorem dX9_meeting_54 : decode cX9_meeting 54 = .ok (.if_icmp .eq 45, 3) := dX9_meeting_37g.2.2.2.2.2.2.2.2.2
theorem dX9_meeting_57g : (decode cX9_meeting 57 = .ok (.iload 5, 2)) ∧ (decode cX9_meeting 59 = .ok (.bipush 24, 2)) ∧ (decode cX9_meeting 61 = .ok (.if_icmp .eq 38, 3)) ∧ (decode cX9_meeting 64 = .ok (.iload 4, 2)) ∧ (decode cX9_meeting 66 = .ok (.iload 5, 2)) ∧ (decode cX9_meeting 68 = .ok (.if_icmp .ne 5, 3)) ∧ (decode cX9_meeting 71 = .ok (.iload_n 3, 1)) ∧ (decode cX9_meeting 72 = .ok (.ireturn, 1)) ∧ (decode cX9_meeting 73 = .ok (.aload_n 0, 1)) ∧ (decode cX9_meeting 74 = .ok (.iload_n 1, 1)) := by decide +kernel
theorem dX9_meeting_57 : decode cX9_meeting 57 = .ok (.iload 5, 2) := dX9_meeting_57g.1
theorem dX9_meeting_59 : decode cX9_meeting 59 = .ok (.bipush 24, 2) := dX9_meeting_57g.2.1
theorem dX9_meeting_61 : decode cX9_meeting 61 = .ok (.if_icmp .eq 38, 3) := dX9_meeting_57g.2.2.1
theorem dX9_meeting_64 : decode cX9_meeting 64 = .ok (.iload 4, 2) := dX9_meeting_57g.2.2.2.1
theorem dX9_meeting_66 : decode cX9_meeting 66 = .ok (.iload 5, 2) := dX9_meeting_57g.2.2.2.2.1
theorem dX9_meeting_68 : decode cX9_meeting 68 = .ok (.if_icmp .ne 5, 3) := dX9_meeting_57g.2.2.2.2.2.1
theorem dX9_meeting_71 : decode cX9_meeting 71 = .ok (.iload_n 3, 1) := dX9_meeting_57g.2.2.2.2.2.2.1
theorem dX9_meeting_72 : decode cX9_meeting 72 = .ok (.ireturn, 1) := dX9_meeting_57g.2.2.2.2.2.2.2.1
theorem dX9_meeting_73 : decode cX9_meeting 73 = .ok (.aload_n 0, 1) := dX9_meeting_57g.2.2.2.2.2.2.2.2.1
theorem dX9_meeting_74 : decode cX9_meeting 74 = .ok (.iload_n 1, 1) := dX9_meeting_57g.2.2.2.2.2.2.2.2.2
theorem dX9_meeting_75g : (decode cX9_meeting 75 = .ok (.iload 4, 2)) ∧ (decode cX9_meeting 77 = .ok (.iload_n 3, 1)) ∧ (decode cX9_meeting 78 = .ok (.invokevirtual 49, 3)) ∧ (decode cX9_meeting 81 = .ok (.istore 4, 2)) ∧ (decode cX9_meeting 83 = .ok (.aload_n 0, 1)) ∧ (decode cX9_meeting 84 = .ok (.iload_n 2, 1)) ∧ (decode cX9_meeting 85 = .ok (.iload 5, 2)) ∧ (decode cX9_meeting 87 = .ok (.iload_n 3, 1)) ∧ (decode cX9_meeting 88 = .ok (.invokevirtual 49, 3)) ∧ (decode cX9_meeting 91 = .ok (.istore 5, 2)) := by decide +kernel
theorem dX9_meeting_75 : decode cX9_meeting 75 = .ok (.iload 4, 2) := dX9_meeting_75g.1
theorem dX9_meeting_77 : decode cX9_meeting 77 = .ok (.iload_n 3, 1) := dX9_meeting_75g.2.1
theorem dX9_meeting_78 : decode cX9_meeting 78 = .ok (.invokevirtual 49, 3) := dX9_meeting_75g.2.2.1
theorem dX9_meeting_81 : decode cX9_meeting 81 = .ok (.istore 4, 2) := dX9_meeting_75g.2.2.2.1
theorem dX9_meeting_83 : decode cX9_meeting 83 = .ok (.aload_n 0, 1) := dX9_meeting_75g.2.2.2.2.1
theorem dX9_meeting_84 : decode cX9_meeting 84 = .ok (.iload_n 2, 1) := dX9_meeting_75g.2.2.2.2.2.1
theorem dX9_meeting_85 : decode cX9_meeting 85 = .ok (.iload 5, 2) := dX9_meeting_75g.2.2.2.2.2.2.1
theorem dX9_meeting_87 : decode cX9_meeting 87 = .ok (.iload_n 3, 1) := dX9_meeting_75g.2.2.2.2.2.2.2.1
theorem dX9_meeting_88 : decode cX9_meeting 88 = .ok (.invokevirtual 49, 3) := dX9_meeting_75g.2.2.2.2.2.2.2.2.1
theorem dX9_meeting_91 : decode cX9_meeting 91 = .ok (.istore 5, 2) := dX9_meeting_75g.2.2.2.2.2.2.2.2.2
theorem dX9_meeting_93g : (decode cX9_meeting 93 = .ok (.iinc 3 1, 3)) ∧ (decode cX9_meeting 96 = .ok (.goto (-52), 3)) ∧ (decode cX9_meeting 99 = .ok (.iconst (-1), 1)) ∧ (decode cX9_meeting 100 = .ok (.ireturn, 1)) := by decide +kernel
theorem dX9_meeting_93 : decode cX9_meeting 93 = .ok (.iinc 3 1, 3) := dX9_meeting_93g.1
theorem dX9_meeting_96 : decode cX9_meeting 96 = .ok (.goto (-52), 3) := dX9_meeting_93g.2.1
theorem dX9_meeting_99 : decode cX9_meeting 99 = .ok (.iconst (-1), 1) := dX9_meeting_93g.2.2.1
theorem dX9_meeting_100 : decode cX9_meeting 100 = .ok (.ireturn, 1) := dX9_meeting_93g.2.2.2
set_option maxHeartbeats 4000000 in
set_option maxRecDepth 100000 in
theorem c_X9_meeting (l : Launch) (E : Nat → Nat) (D : va_G) (G : th_G) (h0 : Nat) (hG0 : G h0 = some (10, 0)) (x1 x2 : Int32) : Met l yX9_meeting (tb (.code yX9_meeting cX9_meeting 6 (some .int))) (rm 7) (va_Pc [.ref h0, .int x1, .int x2] (th_P E D G)) (QI E D G (fun r => True)) 0 0 (th_A G) := by
  refine Met.ofW (cc := cX9_meeting) (maxL := 6) (ret := (some .int)) (by decide) rfl ?_
  intro p e s m args below meth c s₁ B hml hv
  obtain ⟨hav, hI, hN, hK⟩ := hv
  have hx := B.exec
  have hb := B.bytes
  have hr := B.returns
  have hts := atoms_spec (ws := tb (.code yX9_meeting cX9_meeting 6 (some .int))) B.pre
  have hown : s.vm.findClass RX9 = some m.cls := findClass_of_methodNamed B.named
  have hlocks := B.notSynchronized
  have hS : va_S (th_A G) s.heap s.heap [] := va_S.rf
  have hl := lv_entry ([.ref h0, .int x1, .int x2]) (n := 6) (Nat.le_of_ble_eq_true rfl)
  rw [show entryFrame m args 6 = entryFrame m ([.ref h0, .int x1, .int x2] : List Value).toArray 6 from by rw [hav], lg_entry_eq]
  generalize (lg_sl ([.ref h0, .int x1, .int x2]) ++ List.replicate (6 - (lg_sl ([.ref h0, .int x1, .int x2])).length) Slot.unset).toArray = ls at hl ⊢
  have hl : lv_has ls 6 [(0, .ref h0), (1, .int x1), (2, .int x2)] := hl
  generalize hR : (headSpec (tb (.code yX9_meeting cX9_meeting 6 (some .int))) (rm 7)).room = R
  have hR := hR.symm
  generalize hQ : MQ below (QI E D G (fun r => True)) args s 0 0 (th_A G) = QF
  have hQ := hQ.symm
  have J_44 : ∀ (nn : Nat) (H : Heap) (locs : List Loc) (ls : Array Slot) (v784 : Int32) (v785 : Int32) (v786 : Int32), (Int.toNat (97 - v786.toInt) = nn) → lv_has ls 6 [(5, .int v784), (4, .int v785), (3, .int v786), (0, .ref h0), (1, .int x1), (2, .int x2)] → th_I (okC E) D G [] H → va_S (th_A G) s.heap H locs → W p l e R s m args below meth c H locs 0 0 QF (F0 m 44 ls []) := by
    intro nn
    induction nn using Nat.strongRecOn with
    | ind nn ih_44 =>
      intro H locs ls v784 v785 v786 hm hl  hI hS
      refine lv_iload_n hx hb dX9_meeting_44 rfl (lv_at hl 2 rfl) ?_
      refine lv_bipush (v := 96) hx hb dX9_meeting_45 (by decide) ?_
      have k787 := iv_lo v786
      have k788 := iv_hi v786
      refine lv_icmp_gt (tgt := 99) hx hb dX9_meeting_47 (by decide) (fun c789 => ?_) (fun c789 => ?_)
      · skip
        have k790 := iv_lt (X := (96)) (Y := v786.toInt) (by decide) rfl c789
        refine lv_iconst (v := (-1)) hx hb dX9_meeting_99 (by decide) ?_
        have hpost : True := trivial
        rw [hQ]
        exact W.iret (v := (-1)) hx hb hr (fun t ht hW => ⟨⟨(-1), (), rfl, hpost, by rw [ht]; exact hI, hN.warm hW, va_K.moved hW.alike hK⟩, hS.F ht⟩) hS.2.2 dX9_meeting_100
      · skip
        have k791 := iv_nlt (X := (96)) (Y := v786.toInt) (by decide) rfl c789
        refine lv_iload hx hb dX9_meeting_50 (lv_at hl 1 rfl) ?_
        refine lv_bipush (v := 24) hx hb dX9_meeting_52 (by decide) ?_
        have k792 := iv_lo v785
        have k793 := iv_hi v785
        refine lv_icmp_eq (tgt := 99) hx hb dX9_meeting_54 (by decide) (fun c794 => ?_) (fun c794 => ?_)
        · skip
          have k795 := iv_eq (X := v785.toInt) (Y := (24)) rfl (by decide) c794
          refine lv_iconst (v := (-1)) hx hb dX9_meeting_99 (by decide) ?_
          have hpost : True := trivial
          rw [hQ]
          exact W.iret (v := (-1)) hx hb hr (fun t ht hW => ⟨⟨(-1), (), rfl, hpost, by rw [ht]; exact hI, hN.warm hW, va_K.moved hW.alike hK⟩, hS.F ht⟩) hS.2.2 dX9_meeting_100
        · skip
          have k796 := iv_ne (X := v785.toInt) (Y := (24)) rfl (by decide) c794
          refine lv_iload hx hb dX9_meeting_57 (lv_at hl 0 rfl) ?_
          refine lv_bipush (v := 24) hx hb dX9_meeting_59 (by decide) ?_
          have k797 := iv_lo v784
          have k798 := iv_hi v784
          refine lv_icmp_eq (tgt := 99) hx hb dX9_meeting_61 (by decide) (fun c799 => ?_) (fun c799 => ?_)
          · skip
            have k800 := iv_eq (X := v784.toInt) (Y := (24)) rfl (by decide) c799
            refine lv_iconst (v := (-1)) hx hb dX9_meeting_99 (by decide) ?_
            have hpost : True := trivial
            rw [hQ]
            exact W.iret (v := (-1)) hx hb hr (fun t ht hW => ⟨⟨(-1), (), rfl, hpost, by rw [ht]; exact hI, hN.warm hW, va_K.moved hW.alike hK⟩, hS.F ht⟩) hS.2.2 dX9_meeting_100
          · skip
            have k801 := iv_ne (X := v784.toInt) (Y := (24)) rfl (by decide) c799
            refine lv_iload hx hb dX9_meeting_64 (lv_at hl 1 rfl) ?_
            refine lv_iload hx hb dX9_meeting_66 (lv_at hl 0 rfl) ?_
            refine lv_icmp_ne (tgt := 73) hx hb dX9_meeting_68 (by decide) (fun c802 => ?_) (fun c802 => ?_)
            · skip
              have k803 := iv_ne (X := v785.toInt) (Y := v784.toInt) rfl rfl c802
              refine lv_aload_n hx hb dX9_meeting_73 rfl (lv_at hl 3 rfl) ?_
              refine lv_iload_n hx hb dX9_meeting_74 rfl (lv_at hl 4 rfl) ?_
              refine lv_iload hx hb dX9_meeting_75 (lv_at hl 1 rfl) ?_
              refine lv_iload_n hx hb dX9_meeting_77 rfl (lv_at hl 2 rfl) ?_
              refine th_cVi (As := [.int x1, .int v785, .int v786]) (rest := []) (n := 3) (d := 5) ⟨hx, hb, hml, hown, hts⟩ (c_X9_sail l E D G h0 hG0 x1 v785 v786) wd_877 wd_879 wp_23 wd_8 wd_880 (by decide +kernel) ⟨by rw [hR]; exact Nat.le_of_ble_eq_true rfl, by rw [hR]; exact Nat.le_of_ble_eq_true rfl⟩ hI hN hK hS (rc_10 hI hG0 List.not_mem_nil) rfl rfl hl.1 rfl (Nat.le_of_ble_eq_true rfl) dX9_meeting_78 ⟨Nat.zero_le _, Nat.zero_le _⟩ (fun r804 H locs hp hI hS => ?_)
              refine lv_istore (lv' := [(4, .int r804), (5, .int v784), (3, .int v786), (0, .ref h0), (1, .int x1), (2, .int x2)]) hx hb dX9_meeting_81 hl (by decide) rfl (fun ls hl => ?_)
              refine lv_aload_n hx hb dX9_meeting_83 rfl (lv_at hl 3 rfl) ?_
              refine lv_iload_n hx hb dX9_meeting_84 rfl (lv_at hl 5 rfl) ?_
              refine lv_iload hx hb dX9_meeting_85 (lv_at hl 1 rfl) ?_
              refine lv_iload_n hx hb dX9_meeting_87 rfl (lv_at hl 2 rfl) ?_
              refine th_cVi (As := [.int x2, .int v784, .int v786]) (rest := []) (n := 3) (d := 5) ⟨hx, hb, hml, hown, hts⟩ (c_X9_sail l E D G h0 hG0 x2 v784 v786) wd_877 wd_879 wp_23 wd_8 wd_880 (by decide +kernel) ⟨by rw [hR]; exact Nat.le_of_ble_eq_true rfl, by rw [hR]; exact Nat.le_of_ble_eq_true rfl⟩ hI hN hK hS (rc_10 hI hG0 List.not_mem_nil) rfl rfl hl.1 rfl (Nat.le_of_ble_eq_true rfl) dX9_meeting_88 ⟨Nat.zero_le _, Nat.zero_le _⟩ (fun r805 H locs hp hI hS => ?_)
              refine lv_istore (lv' := [(5, .int r805), (4, .int r804), (3, .int v786), (0, .ref h0), (1, .int x1), (2, .int x2)]) hx hb dX9_meeting_91 hl (by decide) rfl (fun ls hl => ?_)
              obtain ⟨v806, e807⟩ : ∃ y : Int32, y = v786 + (1) := ⟨_, rfl⟩
              have tv806 : v806.toInt = v786.toInt + (1) := iv_add rfl (by decide) e807 (by omega) (by omega)
              refine lv_iinc (v := v806) (lv' := [(3, .int v806), (5, .int r805), (4, .int r804), (0, .ref h0), (1, .int x1), (2, .int x2)]) hx hb dX9_meeting_93 hl (k := 2) rfl (by rw [e807]; rfl) (by decide) rfl (fun ls hl => ?_)
              refine lv_goto (tgt := 44) hx hb dX9_meeting_96 (by decide) ?_
              exact ih_44 _ (by omega) H locs ls r805 r804 v806 rfl (lv_sub hl [1, 2, 0, 3, 4, 5] rfl)  hI hS
            · skip
              have k808 := iv_eq (X := v785.toInt) (Y := v784.toInt) rfl rfl c802
              refine lv_iload_n hx hb dX9_meeting_71 rfl (lv_at hl 2 rfl) ?_
              have hpost : True := trivial
              rw [hQ]
              exact W.iret (v := v786) hx hb hr (fun t ht hW => ⟨⟨v786, (), rfl, hpost, by rw [ht]; exact hI, hN.warm hW, va_K.moved hW.alike hK⟩, hS.F ht⟩) hS.2.2 dX9_meeting_72
  refine lv_aload_n hx hb dX9_meeting_0 rfl (lv_at hl 0 rfl) ?_
  obtain ⟨a809, a811, a813, a815, hO, hq810, hq812, hq814, hq816⟩ := op_10 hI hG0 List.not_mem_nil
  have hI := th_I.weak (a := h0) hI
  refine th_get hx hb hts inT9 hown hK hO rfl 0 (by decide) (hts _ (tb_c wd_217)) rfl rfl dX9_meeting_1 ?_
  have hI := th_I.close hI hG0 hO (ok_10 hq810 hq812 hq814 hq816)
  obtain ⟨a817, a819, a821, a823, a825, a827, a829, a831, a833, a835, w837, w840, w841, w842, hO, hq818, hq820, hq822, hq824, hq826, hq828, hq830, hq832, hq834, hq836, ⟨k838, k839⟩, k843⟩ := op_6 hI hq810 List.not_mem_nil
  have hI := th_I.weak (a := a809) hI
  refine th_getN hx hb hts inT6 hown hK hN hO rfl 4 (by decide) wn_67 rfl rfl dX9_meeting_4 ?_
  refine lv_iload_n hx hb dX9_meeting_7 rfl (lv_at hl 1 rfl) ?_
  refine lv_iconst (v := 1) hx hb dX9_meeting_8 (by decide) ?_
  have hI := th_I.close hI hq810 hO (ok_6 hq818 hq820 hq822 hq824 hq826 hq828 hq830 hq832 hq834 hq836 ⟨by omega, by omega⟩ k843)
  refine th_cVi (As := [.int x1, .int 1]) (rest := []) (n := 2) (d := 0) ⟨hx, hb, hml, hown, hts⟩ (c_X4_at l E D G a825 (6) hq826 x1 1) wd_876 wd_519 wd_520 wd_3 wd_521 (by decide +kernel) ⟨by rw [hR]; exact Nat.le_of_ble_eq_true rfl, by rw [hR]; exact Nat.le_of_ble_eq_true rfl⟩ hI hN hK hS (rc_4 hI hq826 List.not_mem_nil) rfl rfl hl.1 rfl (Nat.le_of_ble_eq_true rfl) dX9_meeting_9 ⟨Nat.zero_le _, Nat.zero_le _⟩ (fun r844 H locs hp hI hS => ?_)
  refine lv_aload_n hx hb dX9_meeting_12 rfl (lv_at hl 0 rfl) ?_
  obtain ⟨a845, a847, a849, a851, hO, hq846, hq848, hq850, hq852⟩ := op_10 hI hG0 List.not_mem_nil
  have hI := th_I.weak (a := h0) hI
  refine th_get hx hb hts inT9 hown hK hO rfl 0 (by decide) (hts _ (tb_c wd_217)) rfl rfl dX9_meeting_13 ?_
  have hI := th_I.close hI hG0 hO (ok_10 hq846 hq848 hq850 hq852)
  obtain ⟨a853, a855, a857, a859, a861, a863, a865, a867, a869, a871, w873, w876, w877, w878, hO, hq854, hq856, hq858, hq860, hq862, hq864, hq866, hq868, hq870, hq872, ⟨k874, k875⟩, k879⟩ := op_6 hI hq846 List.not_mem_nil
  have hI := th_I.weak (a := a845) hI
  refine th_getN hx hb hts inT6 hown hK hN hO rfl 4 (by decide) wn_67 rfl rfl dX9_meeting_16 ?_
  refine lv_iload_n hx hb dX9_meeting_19 rfl (lv_at hl 2 rfl) ?_
  refine lv_iconst (v := 1) hx hb dX9_meeting_20 (by decide) ?_
  have hI := th_I.close hI hq846 hO (ok_6 hq854 hq856 hq858 hq860 hq862 hq864 hq866 hq868 hq870 hq872 ⟨by omega, by omega⟩ k879)
  refine th_cVi (As := [.int x2, .int 1]) (rest := [.int r844]) (n := 2) (d := 0) ⟨hx, hb, hml, hown, hts⟩ (c_X4_at l E D G a861 (6) hq862 x2 1) wd_876 wd_519 wd_520 wd_3 wd_521 (by decide +kernel) ⟨by rw [hR]; exact Nat.le_of_ble_eq_true rfl, by rw [hR]; exact Nat.le_of_ble_eq_true rfl⟩ hI hN hK hS (rc_4 hI hq862 List.not_mem_nil) rfl rfl hl.1 rfl (Nat.le_of_ble_eq_true rfl) dX9_meeting_21 ⟨Nat.zero_le _, Nat.zero_le _⟩ (fun r880 H locs hp hI hS => ?_)
  refine va_mmax hx hb (hml.trans hl.1.symm) hown (hts _ (tb_c wd_902)) (hts _ (tb_c wd_43)) (hts _ (tb_c wd_4)) (hts _ (tb_c wd_44)) (by rw [hR]; exact Nat.le_of_ble_eq_true rfl) (by rw [hR]; exact Nat.le_of_ble_eq_true rfl) (Nat.zero_le _) (Nat.zero_le _) dX9_meeting_24 ?_
  refine lv_topi (fun v881 e882 => ?_)
  have tv881 := iv_max e882
  refine lv_istore_n (lv' := [(3, .int v881), (0, .ref h0), (1, .int x1), (2, .int x2)]) hx hb dX9_meeting_27 rfl hl (by decide) rfl (fun ls hl => ?_)
  refine lv_aload_n hx hb dX9_meeting_28 rfl (lv_at hl 1 rfl) ?_
  refine lv_iload_n hx hb dX9_meeting_29 rfl (lv_at hl 2 rfl) ?_
  refine lv_iload_n hx hb dX9_meeting_30 rfl (lv_at hl 0 rfl) ?_
  refine th_cVi (As := [.int x1, .int v881]) (rest := []) (n := 2) (d := 6) ⟨hx, hb, hml, hown, hts⟩ (c_X9_boatAt l E D G h0 hG0 x1 v881) wd_903 wd_873 wd_874 wd_8 wd_875 (by decide +kernel) ⟨by rw [hR]; exact Nat.le_of_ble_eq_true rfl, by rw [hR]; exact Nat.le_of_ble_eq_true rfl⟩ hI hN hK hS (rc_10 hI hG0 List.not_mem_nil) rfl rfl hl.1 rfl (Nat.le_of_ble_eq_true rfl) dX9_meeting_31 ⟨Nat.zero_le _, Nat.zero_le _⟩ (fun r883 H locs hp hI hS => ?_)
  refine lv_istore (lv' := [(4, .int r883), (3, .int v881), (0, .ref h0), (1, .int x1), (2, .int x2)]) hx hb dX9_meeting_34 hl (by decide) rfl (fun ls hl => ?_)
  refine lv_aload_n hx hb dX9_meeting_36 rfl (lv_at hl 2 rfl) ?_
  refine lv_iload_n hx hb dX9_meeting_37 rfl (lv_at hl 4 rfl) ?_
  refine lv_iload_n hx hb dX9_meeting_38 rfl (lv_at hl 1 rfl) ?_
  refine th_cVi (As := [.int x2, .int v881]) (rest := []) (n := 2) (d := 6) ⟨hx, hb, hml, hown, hts⟩ (c_X9_boatAt l E D G h0 hG0 x2 v881) wd_903 wd_873 wd_874 wd_8 wd_875 (by decide +kernel) ⟨by rw [hR]; exact Nat.le_of_ble_eq_true rfl, by rw [hR]; exact Nat.le_of_ble_eq_true rfl⟩ hI hN hK hS (rc_10 hI hG0 List.not_mem_nil) rfl rfl hl.1 rfl (Nat.le_of_ble_eq_true rfl) dX9_meeting_39 ⟨Nat.zero_le _, Nat.zero_le _⟩ (fun r884 H locs hp hI hS => ?_)
  refine lv_istore (lv' := [(5, .int r884), (4, .int r883), (3, .int v881), (0, .ref h0), (1, .int x1), (2, .int x2)]) hx hb dX9_meeting_42 hl (by decide) rfl (fun ls hl => ?_)
  exact J_44 _ H locs ls r884 r883 v881 rfl (lv_sub hl [0, 1, 2, 3, 4, 5] rfl)  hI hS
theorem dX9_paddle_0g : (decode cX9_paddle 0 = .ok (.aload_n 0, 1)) ∧ (decode cX9_paddle 1 = .ok (.getfield 15, 3)) ∧ (decode cX9_paddle 4 = .ok (.iconst (-1), 1)) ∧ (decode cX9_paddle 5 = .ok (.invokestatic 68, 3)) ∧ (decode cX9_paddle 8 = .ok (.iload_n 1, 1)) ∧ (decode cX9_paddle 9 = .ok (.istore 4, 2)) ∧ (decode cX9_paddle 11 = .ok (.iconst 0, 1)) ∧ (decode cX9_paddle 12 = .ok (.istore 5, 2)) ∧ (decode cX9_paddle 14 = .ok (.iload 5, 2)) ∧ (decode cX9_paddle 16 = .ok (.bipush 25, 2)) := by decide +kernel
theorem dX9_paddle_0 : decode cX9_paddle 0 = .ok (.aload_n 0, 1) := dX9_paddle_0g.1
theorem dX9_paddle_1 : decode cX9_paddle 1 = .ok (.getfield 15, 3) := dX9_paddle_0g.2.1
theorem dX9_paddle_4 : decode cX9_paddle 4 = .ok (.iconst (-1), 1) := dX9_paddle_0g.2.2.1
theorem dX9_paddle_5 : decode cX9_paddle 5 = .ok (.invokestatic 68, 3) := dX9_paddle_0g.2.2.2.1
theorem dX9_paddle_8 : decode cX9_paddle 8 = .ok (.iload_n 1, 1) := dX9_paddle_0g.2.2.2.2.1
theorem dX9_paddle_9 : decode cX9_paddle 9 = .ok (.istore 4, 2) := dX9_paddle_0g.2.2.2.2.2.1
theorem dX9_paddle_11 : decode cX9_paddle 11 = .ok (.iconst 0, 1) := dX9_paddle_0g.2.2.2.2.2.2.1
theorem dX9_paddle_12 : decode cX9_paddle 12 = .ok (.istore 5, 2) := dX9_paddle_0g.2.2.2.2.2.2.2.1
theorem dX9_paddle_14 : decode cX9_paddle 14 = .ok (.iload 5, 2) := dX9_paddle_0g.2.2.2.2.2.2.2.2.1
theorem dX9_paddle_16 : decode cX9_paddle 16 = .ok (.bipush 25, 2) := dX9_paddle_0g.2.2.2.2.2.2.2.2.2
theorem dX9_paddle_18g : (decode cX9_paddle 18 = .ok (.if_icmp .gt 75, 3)) ∧ (decode cX9_paddle 21 = .ok (.iload 4, 2)) ∧ (decode cX9_paddle 23 = .ok (.invokestatic 74, 3)) ∧ (decode cX9_paddle 26 = .ok (.ifCond .eq 67, 3)) ∧ (decode cX9_paddle 29 = .ok (.aload_n 0, 1)) ∧ (decode cX9_paddle 30 = .ok (.getfield 15, 3)) ∧ (decode cX9_paddle 33 = .ok (.iload 4, 2)) ∧ (decode cX9_paddle 35 = .ok (.iaload, 1)) ∧ (decode cX9_paddle 36 = .ok (.iconst (-1), 1)) ∧ (decode cX9_paddle 37 = .ok (.if_icmp .eq 23, 3)) := by decide +kernel
theorem dX9_paddle_18 : decode cX9_paddle 18 = .ok (.if_icmp .gt 75, 3) := dX9_paddle_18g.1
theorem dX9_paddle_21 : decode cX9_paddle 21 = .ok (.iload 4, 2) := dX9_paddle_18g.2.1
theorem dX9_paddle_23 : decode cX9_paddle 23 = .ok (.invokestatic 74, 3) := dX9_paddle_18g.2.2.1
theorem dX9_paddle_26 : decode cX9_paddle 26 = .ok (.ifCond .eq 67, 3) := dX9_paddle_18g.2.2.2.1
theorem dX9_paddle_29 : decode cX9_paddle 29 = .ok (.aload_n 0, 1) := dX9_paddle_18g.2.2.2.2.1
theorem dX9_paddle_30 : decode cX9_paddle 30 = .ok (.getfield 15, 3) := dX9_paddle_18g.2.2.2.2.2.1
theorem dX9_paddle_33 : decode cX9_paddle 33 = .ok (.iload 4, 2) := dX9_paddle_18g.2.2.2.2.2.2.1
theorem dX9_paddle_35 : decode cX9_paddle 35 = .ok (.iaload, 1) := dX9_paddle_18g.2.2.2.2.2.2.2.1
theorem dX9_paddle_36 : decode cX9_paddle 36 = .ok (.iconst (-1), 1) := dX9_paddle_18g.2.2.2.2.2.2.2.2.1
theorem dX9_paddle_37 : decode cX9_paddle 37 = .ok (.if_icmp .eq 23, 3) := dX9_paddle_18g.2.2.2.2.2.2.2.2.2
theorem dX9_paddle_40g : (decode cX9_paddle 40 = .ok (.iload_n 3, 1)) ∧ (decode cX9_paddle 41 = .ok (.ifCond .ne 8, 3)) ∧ (decode cX9_paddle 44 = .ok (.iload 5, 2)) ∧ (decode cX9_paddle 46 = .ok (.goto 13, 3)) ∧ (decode cX9_paddle 49 = .ok (.iload 5, 2)) ∧ (decode cX9_paddle 51 = .ok (.aload_n 0, 1)) ∧ (decode cX9_paddle 52 = .ok (.getfield 15, 3)) ∧ (decode cX9_paddle 55 = .ok (.iload 4, 2)) ∧ (decode cX9_paddle 57 = .ok (.iaload, 1)) ∧ (decode cX9_paddle 58 = .ok (.isub, 1)) := by decide +kernel
theorem dX9_paddle_40 : decode cX9_paddle 40 = .ok (.iload_n 3, 1) := dX9_paddle_40g.1
theorem dX9_paddle_41 : decode cX9_paddle 41 = .ok (.ifCond .ne 8, 3) := dX9_paddle_40g.2.1
theorem dX9_paddle_44 : decode cX9_paddle 44 = .ok (.iload 5, 2) := dX9_paddle_40g.2.2.1
theorem dX9_paddle_46 : decode cX9_paddle 46 = .ok (.goto 13, 3) := dX9_paddle_40g.2.2.2.1
theorem dX9_paddle_49 : decode cX9_paddle 49 = .ok (.iload 5, 2) := dX9_paddle_40g.2.2.2.2.1
theorem dX9_paddle_51 : decode cX9_paddle 51 = .ok (.aload_n 0, 1) := dX9_paddle_40g.2.2.2.2.2.1
theorem dX9_paddle_52 : decode cX9_paddle 52 = .ok (.getfield 15, 3) := dX9_paddle_40g.2.2.2.2.2.2.1
theorem dX9_paddle_55 : decode cX9_paddle 55 = .ok (.iload 4, 2) := dX9_paddle_40g.2.2.2.2.2.2.2.1
theorem dX9_paddle_57 : decode cX9_paddle 57 = .ok (.iaload, 1) := dX9_paddle_40g.2.2.2.2.2.2.2.2.1
theorem dX9_paddle_58 : decode cX9_paddle 58 = .ok (.isub, 1) := dX9_paddle_40g.2.2.2.2.2.2.2.2.2
theorem dX9_paddle_59g : (decode cX9_paddle 59 = .ok (.ireturn, 1)) ∧ (decode cX9_paddle 60 = .ok (.aload_n 0, 1)) ∧ (decode cX9_paddle 61 = .ok (.getfield 15, 3)) ∧ (decode cX9_paddle 64 = .ok (.iload 4, 2)) ∧ (decode cX9_paddle 66 = .ok (.iload 5, 2)) ∧ (decode cX9_paddle 68 = .ok (.iastore, 1)) ∧ (decode cX9_paddle 69 = .ok (.aload_n 0, 1)) ∧ (decode cX9_paddle 70 = .ok (.iload 4, 2)) ∧ (decode cX9_paddle 72 = .ok (.iload_n 2, 1)) ∧ (decode cX9_paddle 73 = .ok (.bipush 24, 2)) := by decide +kernel
theorem dX9_paddle_59 : decode cX9_paddle 59 = .ok (.ireturn, 1) := dX9_paddle_59g.1
theorem dX9_paddle_60 : decode cX9_paddle 60 = .ok (.aload_n 0, 1) := dX9_paddle_59g.2.1
theorem dX9_paddle_61 : decode cX9_paddle 61 = .ok (.getfield 15, 3) := dX9_paddle_59g.2.2.1
theorem dX9_paddle_64 : decode cX9_paddle 64 = .ok (.iload 4, 2) := dX9_paddle_59g.2.2.2.1
theorem dX9_paddle_66 : decode cX9_paddle 66 = .ok (.iload 5, 2) := dX9_paddle_59g.2.2.2.2.1
theorem dX9_paddle_68 : decode cX9_paddle 68 = .ok (.iastore, 1) := dX9_paddle_59g.2.2.2.2.2.1
theorem dX9_paddle_69 : decode cX9_paddle 69 = .ok (.aload_n 0, 1) := dX9_paddle_59g.2.2.2.2.2.2.1
theorem dX9_paddle_70 : decode cX9_paddle 70 = .ok (.iload 4, 2) := dX9_paddle_59g.2.2.2.2.2.2.2.1
theorem dX9_paddle_72 : decode cX9_paddle 72 = .ok (.iload_n 2, 1) := dX9_paddle_59g.2.2.2.2.2.2.2.2.1
theorem dX9_paddle_73 : decode cX9_paddle 73 = .ok (.bipush 24, 2) := dX9_paddle_59g.2.2.2.2.2.2.2.2.2
theorem dX9_paddle_75g : (decode cX9_paddle 75 = .ok (.imul, 1)) ∧ (decode cX9_paddle 76 = .ok (.iload_n 2, 1)) ∧ (decode cX9_paddle 77 = .ok (.iconst 1, 1)) ∧ (decode cX9_paddle 78 = .ok (.iadd, 1)) ∧ (decode cX9_paddle 79 = .ok (.bipush 24, 2)) ∧ (decode cX9_paddle 81 = .ok (.imul, 1)) ∧ (decode cX9_paddle 82 = .ok (.invokevirtual 77, 3)) ∧ (decode cX9_paddle 85 = .ok (.istore 4, 2)) ∧ (decode cX9_paddle 87 = .ok (.iinc 5 1, 3)) ∧ (decode cX9_paddle 90 = .ok (.goto (-76), 3)) := by decide +kernel
theorem dX9_paddle_75 : decode cX9_paddle 75 = .ok (.imul, 1) := dX9_paddle_75g.1
theorem dX9_paddle_76 : decode cX9_paddle 76 = .ok (.iload_n 2, 1) := dX9_paddle_75g.2.1
theorem dX9_paddle_77 : decode cX9_paddle 77 = .ok (.iconst 1, 1) := dX9_paddle_75g.2.2.1
theorem dX9_paddle_78 : decode cX9_paddle 78 = .ok (.iadd, 1) := dX9_paddle_75g.2.2.2.1
theorem dX9_paddle_79 : decode cX9_paddle 79 = .ok (.bipush 24, 2) := dX9_paddle_75g.2.2.2.2.1
theorem dX9_paddle_81 : decode cX9_paddle 81 = .ok (.imul, 1) := dX9_paddle_75g.2.2.2.2.2.1
theorem dX9_paddle_82 : decode cX9_paddle 82 = .ok (.invokevirtual 77, 3) := dX9_paddle_75g.2.2.2.2.2.2.1
theorem dX9_paddle_85 : decode cX9_paddle 85 = .ok (.istore 4, 2) := dX9_paddle_75g.2.2.2.2.2.2.2.1
theorem dX9_paddle_87 : decode cX9_paddle 87 = .ok (.iinc 5 1, 3) := dX9_paddle_75g.2.2.2.2.2.2.2.2.1
theorem dX9_paddle_90 : decode cX9_paddle 90 = .ok (.goto (-76), 3) := dX9_paddle_75g.2.2.2.2.2.2.2.2.2
theorem dX9_paddle_93g : (decode cX9_paddle 93 = .ok (.iconst (-1), 1)) ∧ (decode cX9_paddle 94 = .ok (.ireturn, 1)) := by decide +kernel
theorem dX9_paddle_93 : decode cX9_paddle 93 = .ok (.iconst (-1), 1) := dX9_paddle_93g.1
theorem dX9_paddle_94 : decode cX9_paddle 94 = .ok (.ireturn, 1) := dX9_paddle_93g.2
set_option maxHeartbeats 4000000 in
set_option maxRecDepth 100000 in
theorem c_X9_paddle (l : Launch) (E : Nat → Nat) (D : va_G) (G : th_G) (h0 : Nat) (hG0 : G h0 = some (10, 0)) (x1 x2 x3 : Int32) : Met l yX9_paddle (tb (.code yX9_paddle cX9_paddle 6 (some .int))) (rm 6) (va_Pc [.ref h0, .int x1, .int x2, .int x3] (th_P E D G)) (QI E D G (fun r => True)) 0 0 (th_A G) := by
  refine Met.ofW (cc := cX9_paddle) (maxL := 6) (ret := (some .int)) (by decide) rfl ?_
  intro p e s m args below meth c s₁ B hml hv
  obtain ⟨hav, hI, hN, hK⟩ := hv
  have hx := B.exec
  have hb := B.bytes
  have hr := B.returns
  have hts := atoms_spec (ws := tb (.code yX9_paddle cX9_paddle 6 (some .int))) B.pre
  have hown : s.vm.findClass RX9 = some m.cls := findClass_of_methodNamed B.named
  have hlocks := B.notSynchronized
  have hS : va_S (th_A G) s.heap s.heap [] := va_S.rf
  have hl := lv_entry ([.ref h0, .int x1, .int x2, .int x3]) (n := 6) (Nat.le_of_ble_eq_true rfl)
  rw [show entryFrame m args 6 = entryFrame m ([.ref h0, .int x1, .int x2, .int x3] : List Value).toArray 6 from by rw [hav], lg_entry_eq]
  generalize (lg_sl ([.ref h0, .int x1, .int x2, .int x3]) ++ List.replicate (6 - (lg_sl ([.ref h0, .int x1, .int x2, .int x3])).length) Slot.unset).toArray = ls at hl ⊢
  have hl : lv_has ls 6 [(0, .ref h0), (1, .int x1), (2, .int x2), (3, .int x3)] := hl
  generalize hR : (headSpec (tb (.code yX9_paddle cX9_paddle 6 (some .int))) (rm 6)).room = R
  have hR := hR.symm
  generalize hQ : MQ below (QI E D G (fun r => True)) args s 0 0 (th_A G) = QF
  have hQ := hQ.symm
  have J_14 : ∀ (nn : Nat) (H : Heap) (locs : List Loc) (ls : Array Slot) (v1191 : Int32) (v1192 : Int32), (Int.toNat (26 - v1191.toInt) = nn) → lv_has ls 6 [(5, .int v1191), (4, .int v1192), (0, .ref h0), (1, .int x1), (2, .int x2), (3, .int x3)] → ((0 : Int) ≤ v1191.toInt ∧ v1191.toInt ≤ 26) → th_I (okC E) D G [] H → va_S (th_A G) s.heap H locs → W p l e R s m args below meth c H locs 0 0 QF (F0 m 14 ls []) := by
    intro nn
    induction nn using Nat.strongRecOn with
    | ind nn ih_14 =>
      intro H locs ls v1191 v1192 hm hl k1193 hI hS
      have J_59 : ∀ (H : Heap) (locs : List Loc) (ls : Array Slot) (v1196 : Int32), lv_has ls 6 [(5, .int v1191), (4, .int v1192), (0, .ref h0), (1, .int x1), (2, .int x2), (3, .int x3)] → ((0 : Int) ≤ v1191.toInt ∧ v1191.toInt ≤ 25) → ((0 : Int) ≤ v1192.toInt ∧ v1192.toInt ≤ 24) → th_I (okC E) D G [] H → va_S (th_A G) s.heap H locs → W p l e R s m args below meth c H locs 0 0 QF (F0 m 59 ls [.int v1196]) := by
        intro H locs ls v1196 hl k1197 k1198 hI hS
        have hpost : True := trivial
        rw [hQ]
        exact W.iret (v := v1196) hx hb hr (fun t ht hW => ⟨⟨v1196, (), rfl, hpost, by rw [ht]; exact hI, hN.warm hW, va_K.moved hW.alike hK⟩, hS.F ht⟩) hS.2.2 dX9_paddle_59
      refine lv_iload hx hb dX9_paddle_14 (lv_at hl 0 rfl) ?_
      refine lv_bipush (v := 25) hx hb dX9_paddle_16 (by decide) ?_
      refine lv_icmp_gt (tgt := 93) hx hb dX9_paddle_18 (by decide) (fun c1199 => ?_) (fun c1199 => ?_)
      · skip
        have k1200 := iv_lt (X := (25)) (Y := v1191.toInt) (by decide) rfl c1199
        refine lv_iconst (v := (-1)) hx hb dX9_paddle_93 (by decide) ?_
        have hpost : True := trivial
        rw [hQ]
        exact W.iret (v := (-1)) hx hb hr (fun t ht hW => ⟨⟨(-1), (), rfl, hpost, by rw [ht]; exact hI, hN.warm hW, va_K.moved hW.alike hK⟩, hS.F ht⟩) hS.2.2 dX9_paddle_94
      · skip
        have k1201 := iv_nlt (X := (25)) (Y := v1191.toInt) (by decide) rfl c1199
        refine lv_iload hx hb dX9_paddle_21 (lv_at hl 1 rfl) ?_
        refine th_cSN (As := [.int v1192]) (rest := []) (n := 1) (d := 0) ⟨hx, hb, hml, hown, hts⟩ (c_X11_isPlace l H v1192) wn_1103 wd_848 wd_1 wd_849 (by decide +kernel) ⟨by rw [hR]; exact Nat.le_of_ble_eq_true rfl, by rw [hR]; exact Nat.le_of_ble_eq_true rfl⟩ hN hS rfl hl.1 rfl (Nat.le_of_ble_eq_true rfl) dX9_paddle_23 ⟨Nat.zero_le _, Nat.zero_le _⟩ (fun r1202 locs hp hS => ?_)
        rcases hp with ⟨rfl, hp⟩ | ⟨rfl, hp⟩
        · skip
          try simp only [rg, not_and, Int.not_le] at hp
          have hp1203 := hp
          refine lv_if_eq (tgt := 93) hx hb dX9_paddle_26 (by decide) (fun c => absurd c (by decide)) (fun _ => ?_)
          refine lv_aload_n hx hb dX9_paddle_29 rfl (lv_at hl 2 rfl) ?_
          obtain ⟨a1204, a1206, a1208, a1210, hO, hq1205, hq1207, hq1209, hq1211⟩ := op_10 hI hG0 List.not_mem_nil
          have hI := th_I.weak (a := h0) hI
          refine th_get hx hb hts inT9 hown hK hO rfl 3 (by decide) (hts _ (tb_c wd_220)) rfl rfl dX9_paddle_30 ?_
          refine lv_iload hx hb dX9_paddle_33 (lv_at hl 1 rfl) ?_
          obtain ⟨_, hA1212⟩ := op_0 hI hq1211 (th_ne hG0 hq1211 (show (10 : Nat) ≠ 0 by decide))
          refine th_iald hx hb hK hA1212 0 rfl (iv_in (X := v1192.toInt) rfl (by omega) (by omega)) dX9_paddle_35 (fun v1213 _ => ?_)
          refine lv_iconst (v := (-1)) hx hb dX9_paddle_36 (by decide) ?_
          have k1214 := iv_lo v1213
          have k1215 := iv_hi v1213
          refine lv_icmp_eq (tgt := 60) hx hb dX9_paddle_37 (by decide) (fun c1216 => ?_) (fun c1216 => ?_)
          · skip
            have k1217 := iv_eq (X := v1213.toInt) (Y := (-1)) rfl (by decide) c1216
            refine lv_aload_n hx hb dX9_paddle_60 rfl (lv_at hl 2 rfl) ?_
            refine th_get hx hb hts inT9 hown hK hO rfl 3 (by decide) (hts _ (tb_c wd_220)) rfl rfl dX9_paddle_61 ?_
            refine lv_iload hx hb dX9_paddle_64 (lv_at hl 1 rfl) ?_
            refine lv_iload hx hb dX9_paddle_66 (lv_at hl 0 rfl) ?_
            obtain ⟨_, hA1218⟩ := op_0 hI hq1211 (th_ne hG0 hq1211 (show (10 : Nat) ≠ 0 by decide))
            refine th_iast hx hb hK hA1218 0 rfl hS ⟨_, hq1211⟩ (iv_in (X := v1192.toInt) rfl (by omega) (by omega)) dX9_paddle_68 (fun H locs hA1218 oq hS => ?_)
            have hI := th_I.put hI hq1211 hA1218 ok_0 oq
            have hO := hO.kept (oq _ (fun z => th_ne hG0 hq1211 (show (10 : Nat) ≠ 0 by decide) (List.mem_singleton.mpr z.symm)))
            refine lv_aload_n hx hb dX9_paddle_69 rfl (lv_at hl 2 rfl) ?_
            refine lv_iload hx hb dX9_paddle_70 (lv_at hl 1 rfl) ?_
            refine lv_iload_n hx hb dX9_paddle_72 rfl (lv_at hl 4 rfl) ?_
            refine lv_bipush (v := 24) hx hb dX9_paddle_73 (by decide) ?_
            refine lv_imul hx hb dX9_paddle_75 ?_
            refine lv_topi (fun v1219 e1220 => ?_)
            try have tv1219 : v1219.toInt = x2.toInt * (24) := iv_mul rfl (by decide) e1220 (by omega) (by omega)
            refine lv_iload_n hx hb dX9_paddle_76 rfl (lv_at hl 4 rfl) ?_
            refine lv_iconst (v := 1) hx hb dX9_paddle_77 (by decide) ?_
            refine lv_iadd hx hb dX9_paddle_78 ?_
            refine lv_topi (fun v1221 e1222 => ?_)
            try have tv1221 : v1221.toInt = x2.toInt + (1) := iv_add rfl (by decide) e1222 (by omega) (by omega)
            refine lv_bipush (v := 24) hx hb dX9_paddle_79 (by decide) ?_
            refine lv_imul hx hb dX9_paddle_81 ?_
            refine lv_topi (fun v1223 e1224 => ?_)
            try have tv1223 : v1223.toInt = v1221.toInt * (24) := iv_mul rfl (by decide) e1224 (by omega) (by omega)
            have hI := th_I.close hI hG0 hO (ok_10 hq1205 hq1207 hq1209 hq1211)
            refine th_cVi (As := [.int v1192, .int v1219, .int v1223]) (rest := []) (n := 3) (d := 5) ⟨hx, hb, hml, hown, hts⟩ (c_X9_drift l E D G h0 hG0 v1192 v1219 v1223) wd_1104 wd_830 wd_831 wd_8 wd_832 (by decide +kernel) ⟨by rw [hR]; exact Nat.le_of_ble_eq_true rfl, by rw [hR]; exact Nat.le_of_ble_eq_true rfl⟩ hI hN hK hS (rc_10 hI hG0 List.not_mem_nil) rfl rfl hl.1 rfl (Nat.le_of_ble_eq_true rfl) dX9_paddle_82 ⟨Nat.zero_le _, Nat.zero_le _⟩ (fun r1225 H locs hp hI hS => ?_)
            refine lv_istore (lv' := [(4, .int r1225), (5, .int v1191), (0, .ref h0), (1, .int x1), (2, .int x2), (3, .int x3)]) hx hb dX9_paddle_85 hl (by decide) rfl (fun ls hl => ?_)
            obtain ⟨v1226, e1227⟩ : ∃ y : Int32, y = v1191 + (1) := ⟨_, rfl⟩
            have tv1226 : v1226.toInt = v1191.toInt + (1) := iv_add rfl (by decide) e1227 (by omega) (by omega)
            refine lv_iinc (v := v1226) (lv' := [(5, .int v1226), (4, .int r1225), (0, .ref h0), (1, .int x1), (2, .int x2), (3, .int x3)]) hx hb dX9_paddle_87 hl (k := 1) rfl (by rw [e1227]; rfl) (by decide) rfl (fun ls hl => ?_)
            refine lv_goto (tgt := 14) hx hb dX9_paddle_90 (by decide) ?_
            exact ih_14 _ (by omega) H locs ls v1226 r1225 rfl (lv_sub hl [0, 1, 2, 3, 4, 5] rfl) ⟨by omega, by omega⟩ hI hS
          · skip
            have k1228 := iv_ne (X := v1213.toInt) (Y := (-1)) rfl (by decide) c1216
            refine lv_iload_n hx hb dX9_paddle_40 rfl (lv_at hl 5 rfl) ?_
            have k1229 := iv_lo x3
            have k1230 := iv_hi x3
            refine lv_if_ne (tgt := 49) hx hb dX9_paddle_41 (by decide) (fun c1231 => ?_) (fun c1231 => ?_)
            · skip
              have k1232 := iv_ne (X := x3.toInt) (Y := (0)) rfl (by decide) c1231
              refine lv_iload hx hb dX9_paddle_49 (lv_at hl 0 rfl) ?_
              refine lv_aload_n hx hb dX9_paddle_51 rfl (lv_at hl 2 rfl) ?_
              refine th_get hx hb hts inT9 hown hK hO rfl 3 (by decide) (hts _ (tb_c wd_220)) rfl rfl dX9_paddle_52 ?_
              refine lv_iload hx hb dX9_paddle_55 (lv_at hl 1 rfl) ?_
              obtain ⟨_, hA1233⟩ := op_0 hI hq1211 (th_ne hG0 hq1211 (show (10 : Nat) ≠ 0 by decide))
              refine th_iald hx hb hK hA1233 0 rfl (iv_in (X := v1192.toInt) rfl (by omega) (by omega)) dX9_paddle_57 (fun v1234 _ => ?_)
              refine lv_isub hx hb dX9_paddle_58 ?_
              refine lv_topi (fun v1235 e1236 => ?_)
              try have tv1235 : v1235.toInt = v1191.toInt - v1234.toInt := iv_sub rfl rfl e1236 (by omega) (by omega)
              have hI := th_I.close hI hG0 hO (ok_10 hq1205 hq1207 hq1209 hq1211)
              exact J_59 H locs ls v1235 (lv_sub hl [0, 1, 2, 3, 4, 5] rfl) ⟨by omega, by omega⟩ ⟨by omega, by omega⟩ hI hS
            · skip
              have k1237 := iv_eq (X := x3.toInt) (Y := (0)) rfl (by decide) c1231
              refine lv_iload hx hb dX9_paddle_44 (lv_at hl 0 rfl) ?_
              refine lv_goto (tgt := 59) hx hb dX9_paddle_46 (by decide) ?_
              have hI := th_I.close hI hG0 hO (ok_10 hq1205 hq1207 hq1209 hq1211)
              exact J_59 H locs ls v1191 (lv_sub hl [0, 1, 2, 3, 4, 5] rfl) ⟨by omega, by omega⟩ ⟨by omega, by omega⟩ hI hS
        · skip
          try simp only [rg, not_and, Int.not_le] at hp
          have hp1238 := hp
          refine lv_if_eq (tgt := 93) hx hb dX9_paddle_26 (by decide) (fun _ => ?_) (fun c => absurd c (by decide))
          refine lv_iconst (v := (-1)) hx hb dX9_paddle_93 (by decide) ?_
          have hpost : True := trivial
          rw [hQ]
          exact W.iret (v := (-1)) hx hb hr (fun t ht hW => ⟨⟨(-1), (), rfl, hpost, by rw [ht]; exact hI, hN.warm hW, va_K.moved hW.alike hK⟩, hS.F ht⟩) hS.2.2 dX9_paddle_94
  refine lv_aload_n hx hb dX9_paddle_0 rfl (lv_at hl 0 rfl) ?_
  obtain ⟨a1239, a1241, a1243, a1245, hO, hq1240, hq1242, hq1244, hq1246⟩ := op_10 hI hG0 List.not_mem_nil
  have hI := th_I.weak (a := h0) hI
  refine th_get hx hb hts inT9 hown hK hO rfl 3 (by decide) (hts _ (tb_c wd_220)) rfl rfl dX9_paddle_1 ?_
  refine lv_iconst (v := (-1)) hx hb dX9_paddle_4 (by decide) ?_
  have hI := th_I.close hI hG0 hO (ok_10 hq1240 hq1242 hq1244 hq1246)
  refine th_cSv (As := [.ref a1245, .int (-1)]) (rest := []) (n := 2) (d := 0) ⟨hx, hb, hml, hown, hts⟩ (c_J7_fill_53178 l E D G a1245 (25) hq1246 (by omega) (-1)) wd_1102 wd_541 wd_15 wd_542 (by decide +kernel) ⟨by rw [hR]; exact Nat.le_of_ble_eq_true rfl, by rw [hR]; exact Nat.le_of_ble_eq_true rfl⟩ hI hN hK hS rfl hl.1 rfl (Nat.le_of_ble_eq_true rfl) dX9_paddle_5 ⟨Nat.zero_le _, Nat.zero_le _⟩ (fun H locs hI hS => ?_)
  refine lv_iload_n hx hb dX9_paddle_8 rfl (lv_at hl 1 rfl) ?_
  refine lv_istore (lv' := [(4, .int x1), (0, .ref h0), (1, .int x1), (2, .int x2), (3, .int x3)]) hx hb dX9_paddle_9 hl (by decide) rfl (fun ls hl => ?_)
  refine lv_iconst (v := 0) hx hb dX9_paddle_11 (by decide) ?_
  refine lv_istore (lv' := [(5, .int 0), (4, .int x1), (0, .ref h0), (1, .int x1), (2, .int x2), (3, .int x3)]) hx hb dX9_paddle_12 hl (by decide) rfl (fun ls hl => ?_)
  have zl : (0 : Int32).toInt = 0 := by decide
  exact J_14 _ H locs ls 0 x1 rfl (lv_sub hl [0, 1, 2, 3, 4, 5] rfl) ⟨by decide, by decide⟩ hI hS
theorem dX9_turningHours_0g : (decode cX9_turningHours 0 = .ok (.aload_n 0, 1)) ∧ (decode cX9_turningHours 1 = .ok (.iload_n 1, 1)) ∧ (decode cX9_turningHours 2 = .ok (.iload_n 2, 1)) ∧ (decode cX9_turningHours 3 = .ok (.iload_n 3, 1)) ∧ (decode cX9_turningHours 4 = .ok (.invokevirtual 77, 3)) ∧ (decode cX9_turningHours 7 = .ok (.istore 5, 2)) ∧ (decode cX9_turningHours 9 = .ok (.iload_n 1, 1)) ∧ (decode cX9_turningHours 10 = .ok (.istore 6, 2)) ∧ (decode cX9_turningHours 12 = .ok (.iconst 0, 1)) ∧ (decode cX9_turningHours 13 = .ok (.istore 7, 2)) := by decide +kernel
theorem dX9_turningHours_0 : decode cX9_turningHours 0 = .ok (.aload_n 0, 1) := dX9_turningHours_0g.1
theorem dX9_turningHours_1 : decode cX9_turningHours 1 = .ok (.iload_n 1, 1) := dX9_turningHours_0g.2.1
theorem dX9_turningHours_2 : decode cX9_turningHours 2 = .ok (.iload_n 2, 1) := dX9_turningHours_0g.2.2.1
theorem dX9_turningHours_3 : decode cX9_turningHours 3 = .ok (.iload_n 3, 1) := dX9_turningHours_0g.2.2.2.1
theorem dX9_turningHours_4 : decode cX9_turningHours 4 = .ok (.invokevirtual 77, 3) := dX9_turningHours_0g.2.2.2.2.1
theorem dX9_turningHours_7 : decode cX9_turningHours 7 = .ok (.istore 5, 2) := dX9_turningHours_0g.2.2.2.2.2.1
theorem dX9_turningHours_9 : decode cX9_turningHours 9 = .ok (.iload_n 1, 1) := dX9_turningHours_0g.2.2.2.2.2.2.1
theorem dX9_turningHours_10 : decode cX9_turningHours 10 = .ok (.istore 6, 2) := dX9_turningHours_0g.2.2.2.2.2.2.2.1
theorem dX9_turningHours_12 : decode cX9_turningHours 12 = .ok (.iconst 0, 1) := dX9_turningHours_0g.2.2.2.2.2.2.2.2.1
theorem dX9_turningHours_13 : decode cX9_turningHours 13 = .ok (.istore 7, 2) := dX9_turningHours_0g.2.2.2.2.2.2.2.2.2
theorem dX9_turningHours_15g : (decode cX9_turningHours 15 = .ok (.iload_n 2, 1)) ∧ (decode cX9_turningHours 16 = .ok (.istore 8, 2)) ∧ (decode cX9_turningHours 18 = .ok (.iload 8, 2)) ∧ (decode cX9_turningHours 20 = .ok (.iload_n 3, 1)) ∧ (decode cX9_turningHours 21 = .ok (.if_icmp .ge 93, 3)) ∧ (decode cX9_turningHours 24 = .ok (.iload 6, 2)) ∧ (decode cX9_turningHours 26 = .ok (.bipush 24, 2)) ∧ (decode cX9_turningHours 28 = .ok (.if_icmp .eq 86, 3)) ∧ (decode cX9_turningHours 31 = .ok (.aload_n 0, 1)) ∧ (decode cX9_turningHours 32 = .ok (.getfield 22, 3)) := by decide +kernel
theorem dX9_turningHours_15 : decode cX9_turningHours 15 = .ok (.iload_n 2, 1) := dX9_turningHours_15g.1
theorem dX9_turningHours_16 : decode cX9_turningHours 16 = .ok (.istore 8, 2) := dX9_turningHours_15g.2.1
theorem dX9_turningHours_18 : decode cX9_turningHours 18 = .ok (.iload 8, 2) := dX9_turningHours_15g.2.2.1
theorem dX9_turningHours_20 : decode cX9_turningHours 20 = .ok (.iload_n 3, 1) := dX9_turningHours_15g.2.2.2.1
theorem dX9_turningHours_21 : decode cX9_turningHours 21 = .ok (.if_icmp .ge 93, 3) := dX9_turningHours_15g.2.2.2.2.1
theorem dX9_turningHours_24 : decode cX9_turningHours 24 = .ok (.iload 6, 2) := dX9_turningHours_15g.2.2.2.2.2.1
theorem dX9_turningHours_26 : decode cX9_turningHours 26 = .ok (.bipush 24, 2) := dX9_turningHours_15g.2.2.2.2.2.2.1
theorem dX9_turningHours_28 : decode cX9_turningHours 28 = .ok (.if_icmp .eq 86, 3) := dX9_turningHours_15g.2.2.2.2.2.2.2.1
theorem dX9_turningHours_31 : decode cX9_turningHours 31 = .ok (.aload_n 0, 1) := dX9_turningHours_15g.2.2.2.2.2.2.2.2.1
theorem dX9_turningHours_32 : decode cX9_turningHours 32 = .ok (.getfield 22, 3) := dX9_turningHours_15g.2.2.2.2.2.2.2.2.2
theorem dX9_turningHours_35g : (decode cX9_turningHours 35 = .ok (.iload 6, 2)) ∧ (decode cX9_turningHours 37 = .ok (.iload 8, 2)) ∧ (decode cX9_turningHours 39 = .ok (.invokevirtual 26, 3)) ∧ (decode cX9_turningHours 42 = .ok (.istore 9, 2)) ∧ (decode cX9_turningHours 44 = .ok (.aload_n 0, 1)) ∧ (decode cX9_turningHours 45 = .ok (.getfield 22, 3)) ∧ (decode cX9_turningHours 48 = .ok (.iload 6, 2)) ∧ (decode cX9_turningHours 50 = .ok (.iload 8, 2)) ∧ (decode cX9_turningHours 52 = .ok (.iconst 1, 1)) ∧ (decode cX9_turningHours 53 = .ok (.aload_n 0, 1)) := by decide +kernel
theorem dX9_turningHours_35 : decode cX9_turningHours 35 = .ok (.iload 6, 2) := dX9_turningHours_35g.1
theorem dX9_turningHours_37 : decode cX9_turningHours 37 = .ok (.iload 8, 2) := dX9_turningHours_35g.2.1
theorem dX9_turningHours_39 : decode cX9_turningHours 39 = .ok (.invokevirtual 26, 3) := dX9_turningHours_35g.2.2.1
theorem dX9_turningHours_42 : decode cX9_turningHours 42 = .ok (.istore 9, 2) := dX9_turningHours_35g.2.2.2.1
theorem dX9_turningHours_44 : decode cX9_turningHours 44 = .ok (.aload_n 0, 1) := dX9_turningHours_35g.2.2.2.2.1
theorem dX9_turningHours_45 : decode cX9_turningHours 45 = .ok (.getfield 22, 3) := dX9_turningHours_35g.2.2.2.2.2.1
theorem dX9_turningHours_48 : decode cX9_turningHours 48 = .ok (.iload 6, 2) := dX9_turningHours_35g.2.2.2.2.2.2.1
theorem dX9_turningHours_50 : decode cX9_turningHours 50 = .ok (.iload 8, 2) := dX9_turningHours_35g.2.2.2.2.2.2.2.1
theorem dX9_turningHours_52 : decode cX9_turningHours 52 = .ok (.iconst 1, 1) := dX9_turningHours_35g.2.2.2.2.2.2.2.2.1
theorem dX9_turningHours_53 : decode cX9_turningHours 53 = .ok (.aload_n 0, 1) := dX9_turningHours_35g.2.2.2.2.2.2.2.2.2
theorem dX9_turningHours_54g : (decode cX9_turningHours 54 = .ok (.getfield 18, 3)) ∧ (decode cX9_turningHours 57 = .ok (.iload 8, 2)) ∧ (decode cX9_turningHours 59 = .ok (.invokevirtual 80, 3)) ∧ (decode cX9_turningHours 62 = .ok (.isub, 1)) ∧ (decode cX9_turningHours 63 = .ok (.invokevirtual 84, 3)) ∧ (decode cX9_turningHours 66 = .ok (.istore 10, 2)) ∧ (decode cX9_turningHours 68 = .ok (.iload 10, 2)) ∧ (decode cX9_turningHours 70 = .ok (.iload 9, 2)) ∧ (decode cX9_turningHours 72 = .ok (.if_icmp .eq 32, 3)) ∧ (decode cX9_turningHours 75 = .ok (.aload_n 0, 1)) := by decide +kernel
theorem dX9_turningHours_54 : decode cX9_turningHours 54 = .ok (.getfield 18, 3) := dX9_turningHours_54g.1
theorem dX9_turningHours_57 : decode cX9_turningHours 57 = .ok (.iload 8, 2) := dX9_turningHours_54g.2.1
theorem dX9_turningHours_59 : decode cX9_turningHours 59 = .ok (.invokevirtual 80, 3) := dX9_turningHours_54g.2.2.1
theorem dX9_turningHours_62 : decode cX9_turningHours 62 = .ok (.isub, 1) := dX9_turningHours_54g.2.2.2.1
theorem dX9_turningHours_63 : decode cX9_turningHours 63 = .ok (.invokevirtual 84, 3) := dX9_turningHours_54g.2.2.2.2.1
theorem dX9_turningHours_66 : decode cX9_turningHours 66 = .ok (.istore 10, 2) := dX9_turningHours_54g.2.2.2.2.2.1
theorem dX9_turningHours_68 : decode cX9_turningHours 68 = .ok (.iload 10, 2) := dX9_turningHours_54g.2.2.2.2.2.2.1
theorem dX9_turningHours_70 : decode cX9_turningHours 70 = .ok (.iload 9, 2) := dX9_turningHours_54g.2.2.2.2.2.2.2.1
theorem dX9_turningHours_72 : decode cX9_turningHours 72 = .ok (.if_icmp .eq 32, 3) := dX9_turningHours_54g.2.2.2.2.2.2.2.2.1
theorem dX9_turningHours_75 : decode cX9_turningHours 75 = .ok (.aload_n 0, 1) := dX9_turningHours_54g.2.2.2.2.2.2.2.2.2
theorem dX9_turningHours_76g : (decode cX9_turningHours 76 = .ok (.iload 10, 2)) ∧ (decode cX9_turningHours 78 = .ok (.iload 8, 2)) ∧ (decode cX9_turningHours 80 = .ok (.iconst 1, 1)) ∧ (decode cX9_turningHours 81 = .ok (.iadd, 1)) ∧ (decode cX9_turningHours 82 = .ok (.iload_n 3, 1)) ∧ (decode cX9_turningHours 83 = .ok (.invokevirtual 77, 3)) ∧ (decode cX9_turningHours 86 = .ok (.iload 5, 2)) ∧ (decode cX9_turningHours 88 = .ok (.if_icmp .eq 16, 3)) ∧ (decode cX9_turningHours 91 = .ok (.iload 7, 2)) ∧ (decode cX9_turningHours 93 = .ok (.iload 4, 2)) := by decide +kernel
theorem dX9_turningHours_76 : decode cX9_turningHours 76 = .ok (.iload 10, 2) := dX9_turningHours_76g.1
theorem dX9_turningHours_78 : decode cX9_turningHours 78 = .ok (.iload 8, 2) := dX9_turningHours_76g.2.1
theorem dX9_turningHours_80 : decode cX9_turningHours 80 = .ok (.iconst 1, 1) := dX9_turningHours_76g.2.2.1
theorem dX9_turningHours_81 : decode cX9_turningHours 81 = .ok (.iadd, 1) := dX9_turningHours_76g.2.2.2.1
theorem dX9_turningHours_82 : decode cX9_turningHours 82 = .ok (.iload_n 3, 1) := dX9_turningHours_76g.2.2.2.2.1
theorem dX9_turningHours_83 : decode cX9_turningHours 83 = .ok (.invokevirtual 77, 3) := dX9_turningHours_76g.2.2.2.2.2.1
theorem dX9_turningHours_86 : decode cX9_turningHours 86 = .ok (.iload 5, 2) := dX9_turningHours_76g.2.2.2.2.2.2.1
theorem dX9_turningHours_88 : decode cX9_turningHours 88 = .ok (.if_icmp .eq 16, 3) := dX9_turningHours_76g.2.2.2.2.2.2.2.1
theorem dX9_turningHours_91 : decode cX9_turningHours 91 = .ok (.iload 7, 2) := dX9_turningHours_76g.2.2.2.2.2.2.2.2.1
theorem dX9_turningHours_93 : decode cX9_turningHours 93 = .ok (.iload 4, 2) := dX9_turningHours_76g.2.2.2.2.2.2.2.2.2
theorem dX9_turningHours_95g : (decode cX9_turningHours 95 = .ok (.if_icmp .ne 6, 3)) ∧ (decode cX9_turningHours 98 = .ok (.iload 8, 2)) ∧ (decode cX9_turningHours 100 = .ok (.ireturn, 1)) ∧ (decode cX9_turningHours 101 = .ok (.iinc 7 1, 3)) ∧ (decode cX9_turningHours 104 = .ok (.iload 9, 2)) ∧ (decode cX9_turningHours 106 = .ok (.istore 6, 2)) ∧ (decode cX9_turningHours 108 = .ok (.iinc 8 1, 3)) ∧ (decode cX9_turningHours 111 = .ok (.goto (-93), 3)) ∧ (decode cX9_turningHours 114 = .ok (.iload 4, 2)) ∧ (decode cX9_turningHours 116 = .ok (.iconst (-1), 1)) := by decide +kernel
theorem dX9_turningHours_95 : decode cX9_turningHours 95 = .ok (.if_icmp .ne 6, 3) := dX9_turningHours_95g.1
theorem dX9_turningHours_98 : decode cX9_turningHours 98 = .ok (.iload 8, 2) := dX9_turningHours_95g.2.1
theorem dX9_turningHours_100 : decode cX9_turningHours 100 = .ok (.ireturn, 1) := dX9_turningHours_95g.2.2.1
theorem dX9_turningHours_101 : decode cX9_turningHours 101 = .ok (.iinc 7 1, 3) := dX9_turningHours_95g.2.2.2.1
theorem dX9_turningHours_104 : decode cX9_turningHours 104 = .ok (.iload 9, 2) := dX9_turningHours_95g.2.2.2.2.1
theorem dX9_turningHours_106 : decode cX9_turningHours 106 = .ok (.istore 6, 2) := dX9_turningHours_95g.2.2.2.2.2.1
theorem dX9_turningHours_108 : decode cX9_turningHours 108 = .ok (.iinc 8 1, 3) := dX9_turningHours_95g.2.2.2.2.2.2.1
theorem dX9_turningHours_111 : decode cX9_turningHours 111 = .ok (.goto (-93), 3) := dX9_turningHours_95g.2.2.2.2.2.2.2.1
theorem dX9_turningHours_114 : decode cX9_turningHours 114 = .ok (.iload 4, 2) := dX9_turningHours_95g.2.2.2.2.2.2.2.2.1
theorem dX9_turningHours_116 : decode cX9_turningHours 116 = .ok (.iconst (-1), 1) := dX9_turningHours_95g.2.2.2.2.2.2.2.2.2
theorem dX9_turningHours_117g : (decode cX9_turningHours 117 = .ok (.if_icmp .ne 8, 3)) ∧ (decode cX9_turningHours 120 = .ok (.iload 7, 2)) ∧ (decode cX9_turningHours 122 = .ok (.goto 4, 3)) ∧ (decode cX9_turningHours 125 = .ok (.iconst (-1), 1)) ∧ (decode cX9_turningHours 126 = .ok (.ireturn, 1)) := by decide +kernel
theorem dX9_turningHours_117 : decode cX9_turningHours 117 = .ok (.if_icmp .ne 8, 3) := dX9_turningHours_117g.1
theorem dX9_turningHours_120 : decode cX9_turningHours 120 = .ok (.iload 7, 2) := dX9_turningHours_117g.2.1
theorem dX9_turningHours_122 : decode cX9_turningHours 122 = .ok (.goto 4, 3) := dX9_turningHours_117g.2.2.1
theorem dX9_turningHours_125 : decode cX9_turningHours 125 = .ok (.iconst (-1), 1) := dX9_turningHours_117g.2.2.2.1
theorem dX9_turningHours_126 : decode cX9_turningHours 126 = .ok (.ireturn, 1) := dX9_turningHours_117g.2.2.2.2
set_option maxHeartbeats 4000000 in
set_option maxRecDepth 100000 in
theorem c_X9_turningHours (l : Launch) (E : Nat → Nat) (D : va_G) (G : th_G) (h0 : Nat) (hG0 : G h0 = some (10, 0)) (x1 x2 x3 x4 : Int32) : Met l yX9_turningHours (tb (.code yX9_turningHours cX9_turningHours 11 (some .int))) (rm 6) (va_Pc [.ref h0, .int x1, .int x2, .int x3, .int x4] (th_P E D G)) (QI E D G (fun r => True)) 0 0 (th_A G) := by
  refine Met.ofW (cc := cX9_turningHours) (maxL := 11) (ret := (some .int)) (by decide) rfl ?_
  intro p e s m args below meth c s₁ B hml hv
  obtain ⟨hav, hI, hN, hK⟩ := hv
  have hx := B.exec
  have hb := B.bytes
  have hr := B.returns
  have hts := atoms_spec (ws := tb (.code yX9_turningHours cX9_turningHours 11 (some .int))) B.pre
  have hown : s.vm.findClass RX9 = some m.cls := findClass_of_methodNamed B.named
  have hlocks := B.notSynchronized
  have hS : va_S (th_A G) s.heap s.heap [] := va_S.rf
  have hl := lv_entry ([.ref h0, .int x1, .int x2, .int x3, .int x4]) (n := 11) (Nat.le_of_ble_eq_true rfl)
  rw [show entryFrame m args 11 = entryFrame m ([.ref h0, .int x1, .int x2, .int x3, .int x4] : List Value).toArray 11 from by rw [hav], lg_entry_eq]
  generalize (lg_sl ([.ref h0, .int x1, .int x2, .int x3, .int x4]) ++ List.replicate (11 - (lg_sl ([.ref h0, .int x1, .int x2, .int x3, .int x4])).length) Slot.unset).toArray = ls at hl ⊢
  have hl : lv_has ls 11 [(0, .ref h0), (1, .int x1), (2, .int x2), (3, .int x3), (4, .int x4)] := hl
  generalize hR : (headSpec (tb (.code yX9_turningHours cX9_turningHours 11 (some .int))) (rm 6)).room = R
  have hR := hR.symm
  generalize hQ : MQ below (QI E D G (fun r => True)) args s 0 0 (th_A G) = QF
  have hQ := hQ.symm
  have J_18 : ∀ (nn : Nat) (H : Heap) (locs : List Loc) (ls : Array Slot) (v2589 : Int32) (v2590 : Int32) (v2591 : Int32) (v2592 : Int32), (Int.toNat (x3.toInt - v2589.toInt) = nn) → lv_has ls 11 [(8, .int v2589), (7, .int v2590), (6, .int v2591), (5, .int v2592), (0, .ref h0), (1, .int x1), (2, .int x2), (3, .int x3), (4, .int x4)] → th_I (okC E) D G [] H → va_S (th_A G) s.heap H locs → W p l e R s m args below meth c H locs 0 0 QF (F0 m 18 ls []) := by
    intro nn
    induction nn using Nat.strongRecOn with
    | ind nn ih_18 =>
      intro H locs ls v2589 v2590 v2591 v2592 hm hl  hI hS
      refine lv_iload hx hb dX9_turningHours_18 (lv_at hl 0 rfl) ?_
      refine lv_iload_n hx hb dX9_turningHours_20 rfl (lv_at hl 7 rfl) ?_
      have k2593 := iv_lo v2589
      have k2594 := iv_hi v2589
      have k2595 := iv_lo x3
      have k2596 := iv_hi x3
      refine lv_icmp_ge (tgt := 114) hx hb dX9_turningHours_21 (by decide) (fun c2597 => ?_) (fun c2597 => ?_)
      · skip
        have k2598 := iv_le (X := x3.toInt) (Y := v2589.toInt) rfl rfl c2597
        refine lv_iload hx hb dX9_turningHours_114 (lv_at hl 8 rfl) ?_
        refine lv_iconst (v := (-1)) hx hb dX9_turningHours_116 (by decide) ?_
        have k2599 := iv_lo x4
        have k2600 := iv_hi x4
        refine lv_icmp_ne (tgt := 125) hx hb dX9_turningHours_117 (by decide) (fun c2601 => ?_) (fun c2601 => ?_)
        · skip
          have k2602 := iv_ne (X := x4.toInt) (Y := (-1)) rfl (by decide) c2601
          refine lv_iconst (v := (-1)) hx hb dX9_turningHours_125 (by decide) ?_
          have hpost : True := trivial
          rw [hQ]
          exact W.iret (v := (-1)) hx hb hr (fun t ht hW => ⟨⟨(-1), (), rfl, hpost, by rw [ht]; exact hI, hN.warm hW, va_K.moved hW.alike hK⟩, hS.F ht⟩) hS.2.2 dX9_turningHours_126
        · skip
          have k2603 := iv_eq (X := x4.toInt) (Y := (-1)) rfl (by decide) c2601
          refine lv_iload hx hb dX9_turningHours_120 (lv_at hl 1 rfl) ?_
          refine lv_goto (tgt := 126) hx hb dX9_turningHours_122 (by decide) ?_
          have hpost : True := trivial
          rw [hQ]
          exact W.iret (v := v2590) hx hb hr (fun t ht hW => ⟨⟨v2590, (), rfl, hpost, by rw [ht]; exact hI, hN.warm hW, va_K.moved hW.alike hK⟩, hS.F ht⟩) hS.2.2 dX9_turningHours_126
      · skip
        have k2604 := iv_nle (X := x3.toInt) (Y := v2589.toInt) rfl rfl c2597
        refine lv_iload hx hb dX9_turningHours_24 (lv_at hl 2 rfl) ?_
        refine lv_bipush (v := 24) hx hb dX9_turningHours_26 (by decide) ?_
        have k2605 := iv_lo v2591
        have k2606 := iv_hi v2591
        refine lv_icmp_eq (tgt := 114) hx hb dX9_turningHours_28 (by decide) (fun c2607 => ?_) (fun c2607 => ?_)
        · skip
          have k2608 := iv_eq (X := v2591.toInt) (Y := (24)) rfl (by decide) c2607
          refine lv_iload hx hb dX9_turningHours_114 (lv_at hl 8 rfl) ?_
          refine lv_iconst (v := (-1)) hx hb dX9_turningHours_116 (by decide) ?_
          have k2609 := iv_lo x4
          have k2610 := iv_hi x4
          refine lv_icmp_ne (tgt := 125) hx hb dX9_turningHours_117 (by decide) (fun c2611 => ?_) (fun c2611 => ?_)
          · skip
            have k2612 := iv_ne (X := x4.toInt) (Y := (-1)) rfl (by decide) c2611
            refine lv_iconst (v := (-1)) hx hb dX9_turningHours_125 (by decide) ?_
            have hpost : True := trivial
            rw [hQ]
            exact W.iret (v := (-1)) hx hb hr (fun t ht hW => ⟨⟨(-1), (), rfl, hpost, by rw [ht]; exact hI, hN.warm hW, va_K.moved hW.alike hK⟩, hS.F ht⟩) hS.2.2 dX9_turningHours_126
          · skip
            have k2613 := iv_eq (X := x4.toInt) (Y := (-1)) rfl (by decide) c2611
            refine lv_iload hx hb dX9_turningHours_120 (lv_at hl 1 rfl) ?_
            refine lv_goto (tgt := 126) hx hb dX9_turningHours_122 (by decide) ?_
            have hpost : True := trivial
            rw [hQ]
            exact W.iret (v := v2590) hx hb hr (fun t ht hW => ⟨⟨v2590, (), rfl, hpost, by rw [ht]; exact hI, hN.warm hW, va_K.moved hW.alike hK⟩, hS.F ht⟩) hS.2.2 dX9_turningHours_126
        · skip
          have k2614 := iv_ne (X := v2591.toInt) (Y := (24)) rfl (by decide) c2607
          refine lv_aload_n hx hb dX9_turningHours_31 rfl (lv_at hl 4 rfl) ?_
          obtain ⟨a2615, a2617, a2619, a2621, hO, hq2616, hq2618, hq2620, hq2622⟩ := op_10 hI hG0 List.not_mem_nil
          have hI := th_I.weak (a := h0) hI
          refine th_get hx hb hts inT9 hown hK hO rfl 1 (by decide) (hts _ (tb_c wd_218)) rfl rfl dX9_turningHours_32 ?_
          refine lv_iload hx hb dX9_turningHours_35 (lv_at hl 2 rfl) ?_
          refine lv_iload hx hb dX9_turningHours_37 (lv_at hl 0 rfl) ?_
          have hI := th_I.close hI hG0 hO (ok_10 hq2616 hq2618 hq2620 hq2622)
          refine th_cVi (As := [.int v2591, .int v2589]) (rest := []) (n := 2) (d := 4) ⟨hx, hb, hml, hown, hts⟩ (c_X7_stepFrom l E D G a2617 hq2618 v2591 v2589) wd_833 wd_531 wd_532 wd_6 wd_533 (by decide +kernel) ⟨by rw [hR]; exact Nat.le_of_ble_eq_true rfl, by rw [hR]; exact Nat.le_of_ble_eq_true rfl⟩ hI hN hK hS (rc_9 hI hq2618 List.not_mem_nil) rfl rfl hl.1 rfl (Nat.le_of_ble_eq_true rfl) dX9_turningHours_39 ⟨Nat.zero_le _, Nat.zero_le _⟩ (fun r2623 H locs hp hI hS => ?_)
          refine lv_istore (lv' := [(9, .int r2623), (8, .int v2589), (7, .int v2590), (6, .int v2591), (5, .int v2592), (0, .ref h0), (1, .int x1), (2, .int x2), (3, .int x3), (4, .int x4)]) hx hb dX9_turningHours_42 hl (by decide) rfl (fun ls hl => ?_)
          refine lv_aload_n hx hb dX9_turningHours_44 rfl (lv_at hl 5 rfl) ?_
          obtain ⟨a2624, a2626, a2628, a2630, hO, hq2625, hq2627, hq2629, hq2631⟩ := op_10 hI hG0 List.not_mem_nil
          have hI := th_I.weak (a := h0) hI
          refine th_get hx hb hts inT9 hown hK hO rfl 1 (by decide) (hts _ (tb_c wd_218)) rfl rfl dX9_turningHours_45 ?_
          refine lv_iload hx hb dX9_turningHours_48 (lv_at hl 3 rfl) ?_
          refine lv_iload hx hb dX9_turningHours_50 (lv_at hl 1 rfl) ?_
          refine lv_iconst (v := 1) hx hb dX9_turningHours_52 (by decide) ?_
          refine lv_aload_n hx hb dX9_turningHours_53 rfl (lv_at hl 5 rfl) ?_
          refine th_get hx hb hts inT9 hown hK hO rfl 0 (by decide) (hts _ (tb_c wd_217)) rfl rfl dX9_turningHours_54 ?_
          refine lv_iload hx hb dX9_turningHours_57 (lv_at hl 1 rfl) ?_
          have hI := th_I.close hI hG0 hO (ok_10 hq2625 hq2627 hq2629 hq2631)
          refine th_cVi (As := [.int v2589]) (rest := [.int 1, .int v2589, .int v2591, .ref a2626]) (n := 1) (d := 1) ⟨hx, hb, hml, hown, hts⟩ (c_X6_strikeIn l E D G a2624 hq2625 v2589) wd_1113 wd_546 wd_547 wd_2 wd_548 (by decide +kernel) ⟨by rw [hR]; exact Nat.le_of_ble_eq_true rfl, by rw [hR]; exact Nat.le_of_ble_eq_true rfl⟩ hI hN hK hS (rc_6 hI hq2625 List.not_mem_nil) rfl rfl hl.1 rfl (Nat.le_of_ble_eq_true rfl) dX9_turningHours_59 ⟨Nat.zero_le _, Nat.zero_le _⟩ (fun r2632 H locs hp hI hS => ?_)
          refine lv_isub hx hb dX9_turningHours_62 ?_
          refine lv_topi (fun v2633 e2634 => ?_)
          try have tv2633 : v2633.toInt = (1) - r2632.toInt := iv_sub (by decide) rfl e2634 (by omega) (by omega)
          refine th_cVi (As := [.int v2591, .int v2589, .int v2633]) (rest := []) (n := 3) (d := 5) ⟨hx, hb, hml, hown, hts⟩ (c_X7_stepIf l E D G a2626 hq2627 v2591 v2589 v2633) wd_1114 wd_1115 wd_1116 wd_6 wd_1117 (by decide +kernel) ⟨by rw [hR]; exact Nat.le_of_ble_eq_true rfl, by rw [hR]; exact Nat.le_of_ble_eq_true rfl⟩ hI hN hK hS (rc_9 hI hq2627 List.not_mem_nil) rfl rfl hl.1 rfl (Nat.le_of_ble_eq_true rfl) dX9_turningHours_63 ⟨Nat.zero_le _, Nat.zero_le _⟩ (fun r2635 H locs hp hI hS => ?_)
          refine lv_istore (lv' := [(10, .int r2635), (9, .int r2623), (8, .int v2589), (7, .int v2590), (6, .int v2591), (5, .int v2592), (0, .ref h0), (1, .int x1), (2, .int x2), (3, .int x3), (4, .int x4)]) hx hb dX9_turningHours_66 hl (by decide) rfl (fun ls hl => ?_)
          refine lv_iload hx hb dX9_turningHours_68 (lv_at hl 0 rfl) ?_
          refine lv_iload hx hb dX9_turningHours_70 (lv_at hl 1 rfl) ?_
          have k2636 := iv_lo r2635
          have k2637 := iv_hi r2635
          have k2638 := iv_lo r2623
          have k2639 := iv_hi r2623
          refine lv_icmp_eq (tgt := 104) hx hb dX9_turningHours_72 (by decide) (fun c2640 => ?_) (fun c2640 => ?_)
          · skip
            have k2641 := iv_eq (X := r2635.toInt) (Y := r2623.toInt) rfl rfl c2640
            refine lv_iload hx hb dX9_turningHours_104 (lv_at hl 1 rfl) ?_
            refine lv_istore (lv' := [(6, .int r2623), (10, .int r2635), (9, .int r2623), (8, .int v2589), (7, .int v2590), (5, .int v2592), (0, .ref h0), (1, .int x1), (2, .int x2), (3, .int x3), (4, .int x4)]) hx hb dX9_turningHours_106 hl (by decide) rfl (fun ls hl => ?_)
            obtain ⟨v2642, e2643⟩ : ∃ y : Int32, y = v2589 + (1) := ⟨_, rfl⟩
            have tv2642 : v2642.toInt = v2589.toInt + (1) := iv_add rfl (by decide) e2643 (by omega) (by omega)
            refine lv_iinc (v := v2642) (lv' := [(8, .int v2642), (6, .int r2623), (10, .int r2635), (9, .int r2623), (7, .int v2590), (5, .int v2592), (0, .ref h0), (1, .int x1), (2, .int x2), (3, .int x3), (4, .int x4)]) hx hb dX9_turningHours_108 hl (k := 3) rfl (by rw [e2643]; rfl) (by decide) rfl (fun ls hl => ?_)
            refine lv_goto (tgt := 18) hx hb dX9_turningHours_111 (by decide) ?_
            exact ih_18 _ (by omega) H locs ls v2642 v2590 r2623 v2592 rfl (lv_sub hl [0, 4, 1, 5, 6, 7, 8, 9, 10] rfl)  hI hS
          · skip
            have k2644 := iv_ne (X := r2635.toInt) (Y := r2623.toInt) rfl rfl c2640
            refine lv_aload_n hx hb dX9_turningHours_75 rfl (lv_at hl 6 rfl) ?_
            refine lv_iload hx hb dX9_turningHours_76 (lv_at hl 0 rfl) ?_
            refine lv_iload hx hb dX9_turningHours_78 (lv_at hl 2 rfl) ?_
            refine lv_iconst (v := 1) hx hb dX9_turningHours_80 (by decide) ?_
            refine lv_iadd hx hb dX9_turningHours_81 ?_
            refine lv_topi (fun v2645 e2646 => ?_)
            have tv2645 : v2645.toInt = v2589.toInt + (1) := iv_add rfl (by decide) e2646 (by omega) (by omega)
            refine lv_iload_n hx hb dX9_turningHours_82 rfl (lv_at hl 9 rfl) ?_
            refine th_cVi (As := [.int r2635, .int v2645, .int x3]) (rest := []) (n := 3) (d := 5) ⟨hx, hb, hml, hown, hts⟩ (c_X9_drift l E D G h0 hG0 r2635 v2645 x3) wd_1104 wd_830 wd_831 wd_8 wd_832 (by decide +kernel) ⟨by rw [hR]; exact Nat.le_of_ble_eq_true rfl, by rw [hR]; exact Nat.le_of_ble_eq_true rfl⟩ hI hN hK hS (rc_10 hI hG0 List.not_mem_nil) rfl rfl hl.1 rfl (Nat.le_of_ble_eq_true rfl) dX9_turningHours_83 ⟨Nat.zero_le _, Nat.zero_le _⟩ (fun r2647 H locs hp hI hS => ?_)
            refine lv_iload hx hb dX9_turningHours_86 (lv_at hl 5 rfl) ?_
            have k2648 := iv_lo r2647
            have k2649 := iv_hi r2647
            have k2650 := iv_lo v2592
            have k2651 := iv_hi v2592
            refine lv_icmp_eq (tgt := 104) hx hb dX9_turningHours_88 (by decide) (fun c2652 => ?_) (fun c2652 => ?_)
            · skip
              have k2653 := iv_eq (X := r2647.toInt) (Y := v2592.toInt) rfl rfl c2652
              refine lv_iload hx hb dX9_turningHours_104 (lv_at hl 1 rfl) ?_
              refine lv_istore (lv' := [(6, .int r2623), (10, .int r2635), (9, .int r2623), (8, .int v2589), (7, .int v2590), (5, .int v2592), (0, .ref h0), (1, .int x1), (2, .int x2), (3, .int x3), (4, .int x4)]) hx hb dX9_turningHours_106 hl (by decide) rfl (fun ls hl => ?_)
              obtain ⟨v2654, e2655⟩ : ∃ y : Int32, y = v2589 + (1) := ⟨_, rfl⟩
              have tv2654 : v2654.toInt = v2589.toInt + (1) := iv_add rfl (by decide) e2655 (by omega) (by omega)
              refine lv_iinc (v := v2654) (lv' := [(8, .int v2654), (6, .int r2623), (10, .int r2635), (9, .int r2623), (7, .int v2590), (5, .int v2592), (0, .ref h0), (1, .int x1), (2, .int x2), (3, .int x3), (4, .int x4)]) hx hb dX9_turningHours_108 hl (k := 3) rfl (by rw [e2655]; rfl) (by decide) rfl (fun ls hl => ?_)
              refine lv_goto (tgt := 18) hx hb dX9_turningHours_111 (by decide) ?_
              exact ih_18 _ (by omega) H locs ls v2654 v2590 r2623 v2592 rfl (lv_sub hl [0, 4, 1, 5, 6, 7, 8, 9, 10] rfl)  hI hS
            · skip
              have k2656 := iv_ne (X := r2647.toInt) (Y := v2592.toInt) rfl rfl c2652
              refine lv_iload hx hb dX9_turningHours_91 (lv_at hl 3 rfl) ?_
              refine lv_iload hx hb dX9_turningHours_93 (lv_at hl 10 rfl) ?_
              have k2657 := iv_lo v2590
              have k2658 := iv_hi v2590
              have k2659 := iv_lo x4
              have k2660 := iv_hi x4
              refine lv_icmp_ne (tgt := 101) hx hb dX9_turningHours_95 (by decide) (fun c2661 => ?_) (fun c2661 => ?_)
              · skip
                have k2662 := iv_ne (X := v2590.toInt) (Y := x4.toInt) rfl rfl c2661
                obtain ⟨v2663, e2664⟩ : ∃ y : Int32, y = v2590 + (1) := ⟨_, rfl⟩
                refine lv_iinc (v := v2663) (lv' := [(7, .int v2663), (10, .int r2635), (9, .int r2623), (8, .int v2589), (6, .int v2591), (5, .int v2592), (0, .ref h0), (1, .int x1), (2, .int x2), (3, .int x3), (4, .int x4)]) hx hb dX9_turningHours_101 hl (k := 3) rfl (by rw [e2664]; rfl) (by decide) rfl (fun ls hl => ?_)
                refine lv_iload hx hb dX9_turningHours_104 (lv_at hl 2 rfl) ?_
                refine lv_istore (lv' := [(6, .int r2623), (7, .int v2663), (10, .int r2635), (9, .int r2623), (8, .int v2589), (5, .int v2592), (0, .ref h0), (1, .int x1), (2, .int x2), (3, .int x3), (4, .int x4)]) hx hb dX9_turningHours_106 hl (by decide) rfl (fun ls hl => ?_)
                obtain ⟨v2665, e2666⟩ : ∃ y : Int32, y = v2589 + (1) := ⟨_, rfl⟩
                have tv2665 : v2665.toInt = v2589.toInt + (1) := iv_add rfl (by decide) e2666 (by omega) (by omega)
                refine lv_iinc (v := v2665) (lv' := [(8, .int v2665), (6, .int r2623), (7, .int v2663), (10, .int r2635), (9, .int r2623), (5, .int v2592), (0, .ref h0), (1, .int x1), (2, .int x2), (3, .int x3), (4, .int x4)]) hx hb dX9_turningHours_108 hl (k := 4) rfl (by rw [e2666]; rfl) (by decide) rfl (fun ls hl => ?_)
                refine lv_goto (tgt := 18) hx hb dX9_turningHours_111 (by decide) ?_
                exact ih_18 _ (by omega) H locs ls v2665 v2663 r2623 v2592 rfl (lv_sub hl [0, 2, 1, 5, 6, 7, 8, 9, 10] rfl)  hI hS
              · skip
                have k2667 := iv_eq (X := v2590.toInt) (Y := x4.toInt) rfl rfl c2661
                refine lv_iload hx hb dX9_turningHours_98 (lv_at hl 2 rfl) ?_
                have hpost : True := trivial
                rw [hQ]
                exact W.iret (v := v2589) hx hb hr (fun t ht hW => ⟨⟨v2589, (), rfl, hpost, by rw [ht]; exact hI, hN.warm hW, va_K.moved hW.alike hK⟩, hS.F ht⟩) hS.2.2 dX9_turningHours_100
  refine lv_aload_n hx hb dX9_turningHours_0 rfl (lv_at hl 0 rfl) ?_
  refine lv_iload_n hx hb dX9_turningHours_1 rfl (lv_at hl 1 rfl) ?_
  refine lv_iload_n hx hb dX9_turningHours_2 rfl (lv_at hl 2 rfl) ?_
  refine lv_iload_n hx hb dX9_turningHours_3 rfl (lv_at hl 3 rfl) ?_
  refine th_cVi (As := [.int x1, .int x2, .int x3]) (rest := []) (n := 3) (d := 5) ⟨hx, hb, hml, hown, hts⟩ (c_X9_drift l E D G h0 hG0 x1 x2 x3) wd_1104 wd_830 wd_831 wd_8 wd_832 (by decide +kernel) ⟨by rw [hR]; exact Nat.le_of_ble_eq_true rfl, by rw [hR]; exact Nat.le_of_ble_eq_true rfl⟩ hI hN hK hS (rc_10 hI hG0 List.not_mem_nil) rfl rfl hl.1 rfl (Nat.le_of_ble_eq_true rfl) dX9_turningHours_4 ⟨Nat.zero_le _, Nat.zero_le _⟩ (fun r2668 H locs hp hI hS => ?_)
  refine lv_istore (lv' := [(5, .int r2668), (0, .ref h0), (1, .int x1), (2, .int x2), (3, .int x3), (4, .int x4)]) hx hb dX9_turningHours_7 hl (by decide) rfl (fun ls hl => ?_)
  refine lv_iload_n hx hb dX9_turningHours_9 rfl (lv_at hl 2 rfl) ?_
  refine lv_istore (lv' := [(6, .int x1), (5, .int r2668), (0, .ref h0), (1, .int x1), (2, .int x2), (3, .int x3), (4, .int x4)]) hx hb dX9_turningHours_10 hl (by decide) rfl (fun ls hl => ?_)
  refine lv_iconst (v := 0) hx hb dX9_turningHours_12 (by decide) ?_
  refine lv_istore (lv' := [(7, .int 0), (6, .int x1), (5, .int r2668), (0, .ref h0), (1, .int x1), (2, .int x2), (3, .int x3), (4, .int x4)]) hx hb dX9_turningHours_13 hl (by decide) rfl (fun ls hl => ?_)
  refine lv_iload_n hx hb dX9_turningHours_15 rfl (lv_at hl 5 rfl) ?_
  refine lv_istore (lv' := [(8, .int x2), (7, .int 0), (6, .int x1), (5, .int r2668), (0, .ref h0), (1, .int x1), (2, .int x2), (3, .int x3), (4, .int x4)]) hx hb dX9_turningHours_16 hl (by decide) rfl (fun ls hl => ?_)
  exact J_18 _ H locs ls x2 0 x1 r2668 rfl (lv_sub hl [0, 1, 2, 3, 4, 5, 6, 7, 8] rfl)  hI hS
theorem dX9_stepAll_0g : (decode cX9_stepAll 0 = .ok (.aload_n 0, 1)) ∧ (decode cX9_stepAll 1 = .ok (.getfield 15, 3)) ∧ (decode cX9_stepAll 4 = .ok (.iconst (-1), 1)) ∧ (decode cX9_stepAll 5 = .ok (.invokestatic 68, 3)) ∧ (decode cX9_stepAll 8 = .ok (.iconst 0, 1)) ∧ (decode cX9_stepAll 9 = .ok (.istore 4, 2)) ∧ (decode cX9_stepAll 11 = .ok (.iload 4, 2)) ∧ (decode cX9_stepAll 13 = .ok (.aload_n 1, 1)) ∧ (decode cX9_stepAll 14 = .ok (.arraylength, 1)) ∧ (decode cX9_stepAll 15 = .ok (.if_icmp .ge 63, 3)) := by decide +kernel
theorem dX9_stepAll_0 : decode cX9_stepAll 0 = .ok (.aload_n 0, 1) := dX9_stepAll_0g.1
theorem dX9_stepAll_1 : decode cX9_stepAll 1 = .ok (.getfield 15, 3) := dX9_stepAll_0g.2.1
theorem dX9_stepAll_4 : decode cX9_stepAll 4 = .ok (.iconst (-1), 1) := dX9_stepAll_0g.2.2.1
theorem dX9_stepAll_5 : decode cX9_stepAll 5 = .ok (.invokestatic 68, 3) := dX9_stepAll_0g.2.2.2.1
theorem dX9_stepAll_8 : decode cX9_stepAll 8 = .ok (.iconst 0, 1) := dX9_stepAll_0g.2.2.2.2.1
theorem dX9_stepAll_9 : decode cX9_stepAll 9 = .ok (.istore 4, 2) := dX9_stepAll_0g.2.2.2.2.2.1
theorem dX9_stepAll_11 : decode cX9_stepAll 11 = .ok (.iload 4, 2) := dX9_stepAll_0g.2.2.2.2.2.2.1
theorem dX9_stepAll_13 : decode cX9_stepAll 13 = .ok (.aload_n 1, 1) := dX9_stepAll_0g.2.2.2.2.2.2.2.1
theorem dX9_stepAll_14 : decode cX9_stepAll 14 = .ok (.arraylength, 1) := dX9_stepAll_0g.2.2.2.2.2.2.2.2.1
theorem dX9_stepAll_15 : decode cX9_stepAll 15 = .ok (.if_icmp .ge 63, 3) := dX9_stepAll_0g.2.2.2.2.2.2.2.2.2
theorem dX9_stepAll_18g : (decode cX9_stepAll 18 = .ok (.aload_n 1, 1)) ∧ (decode cX9_stepAll 19 = .ok (.iload 4, 2)) ∧ (decode cX9_stepAll 21 = .ok (.iaload, 1)) ∧ (decode cX9_stepAll 22 = .ok (.istore 5, 2)) ∧ (decode cX9_stepAll 24 = .ok (.iload 5, 2)) ∧ (decode cX9_stepAll 26 = .ok (.invokestatic 74, 3)) ∧ (decode cX9_stepAll 29 = .ok (.ifCond .eq 43, 3)) ∧ (decode cX9_stepAll 32 = .ok (.aload_n 0, 1)) ∧ (decode cX9_stepAll 33 = .ok (.getfield 15, 3)) ∧ (decode cX9_stepAll 36 = .ok (.iload 5, 2)) := by decide +kernel
theorem dX9_stepAll_18 : decode cX9_stepAll 18 = .ok (.aload_n 1, 1) := dX9_stepAll_18g.1
theorem dX9_stepAll_19 : decode cX9_stepAll 19 = .ok (.iload 4, 2) := dX9_stepAll_18g.2.1
theorem dX9_stepAll_21 : decode cX9_stepAll 21 = .ok (.iaload, 1) := dX9_stepAll_18g.2.2.1
theorem dX9_stepAll_22 : decode cX9_stepAll 22 = .ok (.istore 5, 2) := dX9_stepAll_18g.2.2.2.1
theorem dX9_stepAll_24 : decode cX9_stepAll 24 = .ok (.iload 5, 2) := dX9_stepAll_18g.2.2.2.2.1
theorem dX9_stepAll_26 : decode cX9_stepAll 26 = .ok (.invokestatic 74, 3) := dX9_stepAll_18g.2.2.2.2.2.1
theorem dX9_stepAll_29 : decode cX9_stepAll 29 = .ok (.ifCond .eq 43, 3) := dX9_stepAll_18g.2.2.2.2.2.2.1
theorem dX9_stepAll_32 : decode cX9_stepAll 32 = .ok (.aload_n 0, 1) := dX9_stepAll_18g.2.2.2.2.2.2.2.1
theorem dX9_stepAll_33 : decode cX9_stepAll 33 = .ok (.getfield 15, 3) := dX9_stepAll_18g.2.2.2.2.2.2.2.2.1
theorem dX9_stepAll_36 : decode cX9_stepAll 36 = .ok (.iload 5, 2) := dX9_stepAll_18g.2.2.2.2.2.2.2.2.2
theorem dX9_stepAll_38g : (decode cX9_stepAll 38 = .ok (.iaload, 1)) ∧ (decode cX9_stepAll 39 = .ok (.iconst (-1), 1)) ∧ (decode cX9_stepAll 40 = .ok (.if_icmp .ne 21, 3)) ∧ (decode cX9_stepAll 43 = .ok (.aload_n 0, 1)) ∧ (decode cX9_stepAll 44 = .ok (.getfield 15, 3)) ∧ (decode cX9_stepAll 47 = .ok (.iload 5, 2)) ∧ (decode cX9_stepAll 49 = .ok (.aload_n 0, 1)) ∧ (decode cX9_stepAll 50 = .ok (.getfield 22, 3)) ∧ (decode cX9_stepAll 53 = .ok (.iload 5, 2)) ∧ (decode cX9_stepAll 55 = .ok (.iload_n 2, 1)) := by decide +kernel
theorem dX9_stepAll_38 : decode cX9_stepAll 38 = .ok (.iaload, 1) := dX9_stepAll_38g.1
theorem dX9_stepAll_39 : decode cX9_stepAll 39 = .ok (.iconst (-1), 1) := dX9_stepAll_38g.2.1
theorem dX9_stepAll_40 : decode cX9_stepAll 40 = .ok (.if_icmp .ne 21, 3) := dX9_stepAll_38g.2.2.1
theorem dX9_stepAll_43 : decode cX9_stepAll 43 = .ok (.aload_n 0, 1) := dX9_stepAll_38g.2.2.2.1
theorem dX9_stepAll_44 : decode cX9_stepAll 44 = .ok (.getfield 15, 3) := dX9_stepAll_38g.2.2.2.2.1
theorem dX9_stepAll_47 : decode cX9_stepAll 47 = .ok (.iload 5, 2) := dX9_stepAll_38g.2.2.2.2.2.1
theorem dX9_stepAll_49 : decode cX9_stepAll 49 = .ok (.aload_n 0, 1) := dX9_stepAll_38g.2.2.2.2.2.2.1
theorem dX9_stepAll_50 : decode cX9_stepAll 50 = .ok (.getfield 22, 3) := dX9_stepAll_38g.2.2.2.2.2.2.2.1
theorem dX9_stepAll_53 : decode cX9_stepAll 53 = .ok (.iload 5, 2) := dX9_stepAll_38g.2.2.2.2.2.2.2.2.1
theorem dX9_stepAll_55 : decode cX9_stepAll 55 = .ok (.iload_n 2, 1) := dX9_stepAll_38g.2.2.2.2.2.2.2.2.2
theorem dX9_stepAll_56g : (decode cX9_stepAll 56 = .ok (.iload_n 3, 1)) ∧ (decode cX9_stepAll 57 = .ok (.invokevirtual 84, 3)) ∧ (decode cX9_stepAll 60 = .ok (.iastore, 1)) ∧ (decode cX9_stepAll 61 = .ok (.aload_n 1, 1)) ∧ (decode cX9_stepAll 62 = .ok (.iload 4, 2)) ∧ (decode cX9_stepAll 64 = .ok (.aload_n 0, 1)) ∧ (decode cX9_stepAll 65 = .ok (.getfield 15, 3)) ∧ (decode cX9_stepAll 68 = .ok (.iload 5, 2)) ∧ (decode cX9_stepAll 70 = .ok (.iaload, 1)) ∧ (decode cX9_stepAll 71 = .ok (.iastore, 1)) := by decide +kernel
theorem dX9_stepAll_56 : decode cX9_stepAll 56 = .ok (.iload_n 3, 1) := dX9_stepAll_56g.1
theorem dX9_stepAll_57 : decode cX9_stepAll 57 = .ok (.invokevirtual 84, 3) := dX9_stepAll_56g.2.1
theorem dX9_stepAll_60 : decode cX9_stepAll 60 = .ok (.iastore, 1) := dX9_stepAll_56g.2.2.1
theorem dX9_stepAll_61 : decode cX9_stepAll 61 = .ok (.aload_n 1, 1) := dX9_stepAll_56g.2.2.2.1
theorem dX9_stepAll_62 : decode cX9_stepAll 62 = .ok (.iload 4, 2) := dX9_stepAll_56g.2.2.2.2.1
theorem dX9_stepAll_64 : decode cX9_stepAll 64 = .ok (.aload_n 0, 1) := dX9_stepAll_56g.2.2.2.2.2.1
theorem dX9_stepAll_65 : decode cX9_stepAll 65 = .ok (.getfield 15, 3) := dX9_stepAll_56g.2.2.2.2.2.2.1
theorem dX9_stepAll_68 : decode cX9_stepAll 68 = .ok (.iload 5, 2) := dX9_stepAll_56g.2.2.2.2.2.2.2.1
theorem dX9_stepAll_70 : decode cX9_stepAll 70 = .ok (.iaload, 1) := dX9_stepAll_56g.2.2.2.2.2.2.2.2.1
theorem dX9_stepAll_71 : decode cX9_stepAll 71 = .ok (.iastore, 1) := dX9_stepAll_56g.2.2.2.2.2.2.2.2.2
theorem dX9_stepAll_72g : (decode cX9_stepAll 72 = .ok (.iinc 4 1, 3)) ∧ (decode cX9_stepAll 75 = .ok (.goto (-64), 3)) ∧ (decode cX9_stepAll 78 = .ok (.return_, 1)) := by decide +kernel
theorem dX9_stepAll_72 : decode cX9_stepAll 72 = .ok (.iinc 4 1, 3) := dX9_stepAll_72g.1
theorem dX9_stepAll_75 : decode cX9_stepAll 75 = .ok (.goto (-64), 3) := dX9_stepAll_72g.2.1
theorem dX9_stepAll_78 : decode cX9_stepAll 78 = .ok (.return_, 1) := dX9_stepAll_72g.2.2
set_option maxHeartbeats 4000000 in
set_option maxRecDepth 100000 in
theorem c_X9_stepAll (l : Launch) (E : Nat → Nat) (D : va_G) (G : th_G) (h0 : Nat) (hG0 : G h0 = some (10, 0)) (p1 : Nat) (hp1 : G p1 = some (0, 24)) (x2 : Int32) (x3 : Int32) : Met l yX9_stepAll (tb (.code yX9_stepAll cX9_stepAll 6 none)) (rm 6) (va_Pc [.ref h0, .ref p1, .int x2, .int x3] (th_P E D G)) (QV E D G) 0 0 (th_A G) := by
  refine Met.ofW (cc := cX9_stepAll) (maxL := 6) (ret := none) (by decide) rfl ?_
  intro p e s m args below meth c s₁ B hml hv
  obtain ⟨hav, hI, hN, hK⟩ := hv
  have hx := B.exec
  have hb := B.bytes
  have hr := B.returns
  have hts := atoms_spec (ws := tb (.code yX9_stepAll cX9_stepAll 6 none)) B.pre
  have hown : s.vm.findClass RX9 = some m.cls := findClass_of_methodNamed B.named
  have hlocks := B.notSynchronized
  have hS : va_S (th_A G) s.heap s.heap [] := va_S.rf
  have hl := lv_entry ([.ref h0, .ref p1, .int x2, .int x3]) (n := 6) (Nat.le_of_ble_eq_true rfl)
  rw [show entryFrame m args 6 = entryFrame m ([.ref h0, .ref p1, .int x2, .int x3] : List Value).toArray 6 from by rw [hav], lg_entry_eq]
  generalize (lg_sl ([.ref h0, .ref p1, .int x2, .int x3]) ++ List.replicate (6 - (lg_sl ([.ref h0, .ref p1, .int x2, .int x3])).length) Slot.unset).toArray = ls at hl ⊢
  have hl : lv_has ls 6 [(0, .ref h0), (1, .ref p1), (2, .int x2), (3, .int x3)] := hl
  generalize hR : (headSpec (tb (.code yX9_stepAll cX9_stepAll 6 none)) (rm 6)).room = R
  have hR := hR.symm
  generalize hQ : MQ below (QV E D G) args s 0 0 (th_A G) = QF
  have hQ := hQ.symm
  have J_11 : ∀ (nn : Nat) (H : Heap) (locs : List Loc) (ls : Array Slot) (v1053 : Int32), (Int.toNat (24 - v1053.toInt) = nn) → lv_has ls 6 [(4, .int v1053), (0, .ref h0), (1, .ref p1), (2, .int x2), (3, .int x3)] → ((0 : Int) ≤ v1053.toInt ∧ v1053.toInt ≤ 24) → th_I (okC E) D G [] H → va_S (th_A G) s.heap H locs → W p l e R s m args below meth c H locs 0 0 QF (F0 m 11 ls []) := by
    intro nn
    induction nn using Nat.strongRecOn with
    | ind nn ih_11 =>
      intro H locs ls v1053 hm hl k1054 hI hS
      have J_61 : ∀ (H : Heap) (locs : List Loc) (ls : Array Slot) (v1055 : Int32), lv_has ls 6 [(5, .int v1055), (4, .int v1053), (0, .ref h0), (1, .ref p1), (2, .int x2), (3, .int x3)] → ((0 : Int) ≤ v1055.toInt ∧ v1055.toInt ≤ 24) → ((0 : Int) ≤ v1053.toInt ∧ v1053.toInt ≤ 23) → th_I (okC E) D G [] H → va_S (th_A G) s.heap H locs → W p l e R s m args below meth c H locs 0 0 QF (F0 m 61 ls []) := by
        intro H locs ls v1055 hl k1057 k1058 hI hS
        refine lv_aload_n hx hb dX9_stepAll_61 rfl (lv_at hl 3 rfl) ?_
        refine lv_iload hx hb dX9_stepAll_62 (lv_at hl 1 rfl) ?_
        refine lv_aload_n hx hb dX9_stepAll_64 rfl (lv_at hl 2 rfl) ?_
        obtain ⟨a1059, a1061, a1063, a1065, hO, hq1060, hq1062, hq1064, hq1066⟩ := op_10 hI hG0 List.not_mem_nil
        have hI := th_I.weak (a := h0) hI
        refine th_get hx hb hts inT9 hown hK hO rfl 3 (by decide) (hts _ (tb_c wd_220)) rfl rfl dX9_stepAll_65 ?_
        refine lv_iload hx hb dX9_stepAll_68 (lv_at hl 0 rfl) ?_
        obtain ⟨_, hA1067⟩ := op_0 hI hq1066 (th_ne hG0 hq1066 (show (10 : Nat) ≠ 0 by decide))
        refine th_iald hx hb hK hA1067 0 rfl (iv_in (X := v1055.toInt) rfl (by omega) (by omega)) dX9_stepAll_70 (fun v1068 _ => ?_)
        obtain ⟨_, hA1069⟩ := op_0 hI hp1 (th_ne hG0 hp1 (show (10 : Nat) ≠ 0 by decide))
        refine th_iast hx hb hK hA1069 0 rfl hS ⟨_, hp1⟩ (iv_in (X := v1053.toInt) rfl (by omega) (by omega)) dX9_stepAll_71 (fun H locs hA1069 oq hS => ?_)
        have hI := th_I.put hI hp1 hA1069 ok_0 oq
        have hO := hO.kept (oq _ (fun z => th_ne hG0 hp1 (show (10 : Nat) ≠ 0 by decide) (List.mem_singleton.mpr z.symm)))
        obtain ⟨v1070, e1071⟩ : ∃ y : Int32, y = v1053 + (1) := ⟨_, rfl⟩
        have tv1070 : v1070.toInt = v1053.toInt + (1) := iv_add rfl (by decide) e1071 (by omega) (by omega)
        refine lv_iinc (v := v1070) (lv' := [(4, .int v1070), (5, .int v1055), (0, .ref h0), (1, .ref p1), (2, .int x2), (3, .int x3)]) hx hb dX9_stepAll_72 hl (k := 1) rfl (by rw [e1071]; rfl) (by decide) rfl (fun ls hl => ?_)
        refine lv_goto (tgt := 11) hx hb dX9_stepAll_75 (by decide) ?_
        have hI := th_I.close hI hG0 hO (ok_10 hq1060 hq1062 hq1064 hq1066)
        exact ih_11 _ (by omega) H locs ls v1070 rfl (lv_sub hl [0, 2, 3, 4, 5] rfl) ⟨by omega, by omega⟩ hI hS
      refine lv_iload hx hb dX9_stepAll_11 (lv_at hl 0 rfl) ?_
      refine lv_aload_n hx hb dX9_stepAll_13 rfl (lv_at hl 2 rfl) ?_
      obtain ⟨_, hA1072⟩ := op_0 hI hp1 List.not_mem_nil
      refine va_alen hx hb hK (th_one hA1072) 0 0 rfl (v := 24) rfl (show Int32.ofNat 24 = (24 : Int32) from by decide) dX9_stepAll_14 ?_
      refine lv_icmp_ge (tgt := 78) hx hb dX9_stepAll_15 (by decide) (fun c1073 => ?_) (fun c1073 => ?_)
      · skip
        have k1074 := iv_le (X := (24)) (Y := v1053.toInt) (by decide) rfl c1073
        rw [hQ]
        exact W.vret hx hb hr (fun t ht hW => ⟨⟨(), rfl, trivial, by rw [ht]; exact hI, hN.warm hW, va_K.moved hW.alike hK⟩, hS.F ht⟩) hS.2.2 dX9_stepAll_78
      · skip
        have k1075 := iv_nle (X := (24)) (Y := v1053.toInt) (by decide) rfl c1073
        refine lv_aload_n hx hb dX9_stepAll_18 rfl (lv_at hl 2 rfl) ?_
        refine lv_iload hx hb dX9_stepAll_19 (lv_at hl 0 rfl) ?_
        obtain ⟨_, hA1076⟩ := op_0 hI hp1 List.not_mem_nil
        refine th_iald hx hb hK hA1076 0 rfl (iv_in (X := v1053.toInt) rfl (by omega) (by omega)) dX9_stepAll_21 (fun v1077 _ => ?_)
        refine lv_istore (lv' := [(5, .int v1077), (4, .int v1053), (0, .ref h0), (1, .ref p1), (2, .int x2), (3, .int x3)]) hx hb dX9_stepAll_22 hl (by decide) rfl (fun ls hl => ?_)
        refine lv_iload hx hb dX9_stepAll_24 (lv_at hl 0 rfl) ?_
        refine th_cSN (As := [.int v1077]) (rest := []) (n := 1) (d := 0) ⟨hx, hb, hml, hown, hts⟩ (c_X11_isPlace l H v1077) wn_1103 wd_848 wd_1 wd_849 (by decide +kernel) ⟨by rw [hR]; exact Nat.le_of_ble_eq_true rfl, by rw [hR]; exact Nat.le_of_ble_eq_true rfl⟩ hN hS rfl hl.1 rfl (Nat.le_of_ble_eq_true rfl) dX9_stepAll_26 ⟨Nat.zero_le _, Nat.zero_le _⟩ (fun r1078 locs hp hS => ?_)
        rcases hp with ⟨rfl, hp⟩ | ⟨rfl, hp⟩
        · skip
          try simp only [rg, not_and, Int.not_le] at hp
          have hp1079 := hp
          refine lv_if_eq (tgt := 72) hx hb dX9_stepAll_29 (by decide) (fun c => absurd c (by decide)) (fun _ => ?_)
          refine lv_aload_n hx hb dX9_stepAll_32 rfl (lv_at hl 2 rfl) ?_
          obtain ⟨a1080, a1082, a1084, a1086, hO, hq1081, hq1083, hq1085, hq1087⟩ := op_10 hI hG0 List.not_mem_nil
          have hI := th_I.weak (a := h0) hI
          refine th_get hx hb hts inT9 hown hK hO rfl 3 (by decide) (hts _ (tb_c wd_220)) rfl rfl dX9_stepAll_33 ?_
          refine lv_iload hx hb dX9_stepAll_36 (lv_at hl 0 rfl) ?_
          obtain ⟨_, hA1088⟩ := op_0 hI hq1087 (th_ne hG0 hq1087 (show (10 : Nat) ≠ 0 by decide))
          refine th_iald hx hb hK hA1088 0 rfl (iv_in (X := v1077.toInt) rfl (by omega) (by omega)) dX9_stepAll_38 (fun v1089 _ => ?_)
          refine lv_iconst (v := (-1)) hx hb dX9_stepAll_39 (by decide) ?_
          have k1090 := iv_lo v1089
          have k1091 := iv_hi v1089
          refine lv_icmp_ne (tgt := 61) hx hb dX9_stepAll_40 (by decide) (fun c1092 => ?_) (fun c1092 => ?_)
          · skip
            have k1093 := iv_ne (X := v1089.toInt) (Y := (-1)) rfl (by decide) c1092
            have hI := th_I.close hI hG0 hO (ok_10 hq1081 hq1083 hq1085 hq1087)
            exact J_61 H locs ls v1077 (lv_sub hl [0, 1, 2, 3, 4, 5] rfl) ⟨by omega, by omega⟩ ⟨by omega, by omega⟩ hI hS
          · skip
            have k1094 := iv_eq (X := v1089.toInt) (Y := (-1)) rfl (by decide) c1092
            refine lv_aload_n hx hb dX9_stepAll_43 rfl (lv_at hl 2 rfl) ?_
            refine th_get hx hb hts inT9 hown hK hO rfl 3 (by decide) (hts _ (tb_c wd_220)) rfl rfl dX9_stepAll_44 ?_
            refine lv_iload hx hb dX9_stepAll_47 (lv_at hl 0 rfl) ?_
            refine lv_aload_n hx hb dX9_stepAll_49 rfl (lv_at hl 2 rfl) ?_
            refine th_get hx hb hts inT9 hown hK hO rfl 1 (by decide) (hts _ (tb_c wd_218)) rfl rfl dX9_stepAll_50 ?_
            refine lv_iload hx hb dX9_stepAll_53 (lv_at hl 0 rfl) ?_
            refine lv_iload_n hx hb dX9_stepAll_55 rfl (lv_at hl 4 rfl) ?_
            refine lv_iload_n hx hb dX9_stepAll_56 rfl (lv_at hl 5 rfl) ?_
            have hI := th_I.close hI hG0 hO (ok_10 hq1081 hq1083 hq1085 hq1087)
            refine th_cVi (As := [.int v1077, .int x2, .int x3]) (rest := [.int v1077, .ref a1086]) (n := 3) (d := 5) ⟨hx, hb, hml, hown, hts⟩ (c_X7_stepIf l E D G a1082 hq1083 v1077 x2 x3) wd_1114 wd_1115 wd_1116 wd_6 wd_1117 (by decide +kernel) ⟨by rw [hR]; exact Nat.le_of_ble_eq_true rfl, by rw [hR]; exact Nat.le_of_ble_eq_true rfl⟩ hI hN hK hS (rc_9 hI hq1083 List.not_mem_nil) rfl rfl hl.1 rfl (Nat.le_of_ble_eq_true rfl) dX9_stepAll_57 ⟨Nat.zero_le _, Nat.zero_le _⟩ (fun r1095 H locs hp hI hS => ?_)
            obtain ⟨_, hA1096⟩ := op_0 hI hq1087 List.not_mem_nil
            refine th_iast hx hb hK hA1096 0 rfl hS ⟨_, hq1087⟩ (iv_in (X := v1077.toInt) rfl (by omega) (by omega)) dX9_stepAll_60 (fun H locs hA1096 oq hS => ?_)
            have hI := th_I.put hI hq1087 hA1096 ok_0 oq
            exact J_61 H locs ls v1077 (lv_sub hl [0, 1, 2, 3, 4, 5] rfl) ⟨by omega, by omega⟩ ⟨by omega, by omega⟩ hI hS
        · skip
          try simp only [rg, not_and, Int.not_le] at hp
          have hp1097 := hp
          refine lv_if_eq (tgt := 72) hx hb dX9_stepAll_29 (by decide) (fun _ => ?_) (fun c => absurd c (by decide))
          obtain ⟨v1098, e1099⟩ : ∃ y : Int32, y = v1053 + (1) := ⟨_, rfl⟩
          have tv1098 : v1098.toInt = v1053.toInt + (1) := iv_add rfl (by decide) e1099 (by omega) (by omega)
          refine lv_iinc (v := v1098) (lv' := [(4, .int v1098), (5, .int v1077), (0, .ref h0), (1, .ref p1), (2, .int x2), (3, .int x3)]) hx hb dX9_stepAll_72 hl (k := 1) rfl (by rw [e1099]; rfl) (by decide) rfl (fun ls hl => ?_)
          refine lv_goto (tgt := 11) hx hb dX9_stepAll_75 (by decide) ?_
          exact ih_11 _ (by omega) H locs ls v1098 rfl (lv_sub hl [0, 2, 3, 4, 5] rfl) ⟨by omega, by omega⟩ hI hS
  refine lv_aload_n hx hb dX9_stepAll_0 rfl (lv_at hl 0 rfl) ?_
  obtain ⟨a1100, a1102, a1104, a1106, hO, hq1101, hq1103, hq1105, hq1107⟩ := op_10 hI hG0 List.not_mem_nil
  have hI := th_I.weak (a := h0) hI
  refine th_get hx hb hts inT9 hown hK hO rfl 3 (by decide) (hts _ (tb_c wd_220)) rfl rfl dX9_stepAll_1 ?_
  refine lv_iconst (v := (-1)) hx hb dX9_stepAll_4 (by decide) ?_
  have hI := th_I.close hI hG0 hO (ok_10 hq1101 hq1103 hq1105 hq1107)
  refine th_cSv (As := [.ref a1106, .int (-1)]) (rest := []) (n := 2) (d := 0) ⟨hx, hb, hml, hown, hts⟩ (c_J7_fill_53178 l E D G a1106 (25) hq1107 (by omega) (-1)) wd_1102 wd_541 wd_15 wd_542 (by decide +kernel) ⟨by rw [hR]; exact Nat.le_of_ble_eq_true rfl, by rw [hR]; exact Nat.le_of_ble_eq_true rfl⟩ hI hN hK hS rfl hl.1 rfl (Nat.le_of_ble_eq_true rfl) dX9_stepAll_5 ⟨Nat.zero_le _, Nat.zero_le _⟩ (fun H locs hI hS => ?_)
  refine lv_iconst (v := 0) hx hb dX9_stepAll_8 (by decide) ?_
  refine lv_istore (lv' := [(4, .int 0), (0, .ref h0), (1, .ref p1), (2, .int x2), (3, .int x3)]) hx hb dX9_stepAll_9 hl (by decide) rfl (fun ls hl => ?_)
  have zl : (0 : Int32).toInt = 0 := by decide
  exact J_11 _ H locs ls 0 rfl (lv_sub hl [0, 1, 2, 3, 4] rfl) ⟨by decide, by decide⟩ hI hS
theorem dX9_drawWeek_0g : (decode cX9_drawWeek 0 = .ok (.iconst 0, 1)) ∧ (decode cX9_drawWeek 1 = .ok (.istore 4, 2)) ∧ (decode cX9_drawWeek 3 = .ok (.iload 4, 2)) ∧ (decode cX9_drawWeek 5 = .ok (.aload_n 3, 1)) ∧ (decode cX9_drawWeek 6 = .ok (.arraylength, 1)) ∧ (decode cX9_drawWeek 7 = .ok (.if_icmp .ge 15, 3)) ∧ (decode cX9_drawWeek 10 = .ok (.aload_n 3, 1)) ∧ (decode cX9_drawWeek 11 = .ok (.iload 4, 2)) ∧ (decode cX9_drawWeek 13 = .ok (.iload 4, 2)) ∧ (decode cX9_drawWeek 15 = .ok (.iastore, 1)) := by decide +kernel
theorem dX9_drawWeek_0 : decode cX9_drawWeek 0 = .ok (.iconst 0, 1) := dX9_drawWeek_0g.1
theorem dX9_drawWeek_1 : decode cX9_drawWeek 1 = .ok (.istore 4, 2) := dX9_drawWeek_0g.2.1
theorem dX9_drawWeek_3 : decode cX9_drawWeek 3 = .ok (.iload 4, 2) := dX9_drawWeek_0g.2.2.1
theorem dX9_drawWeek_5 : decode cX9_drawWeek 5 = .ok (.aload_n 3, 1) := dX9_drawWeek_0g.2.2.2.1
theorem dX9_drawWeek_6 : decode cX9_drawWeek 6 = .ok (.arraylength, 1) := dX9_drawWeek_0g.2.2.2.2.1
theorem dX9_drawWeek_7 : decode cX9_drawWeek 7 = .ok (.if_icmp .ge 15, 3) := dX9_drawWeek_0g.2.2.2.2.2.1
theorem dX9_drawWeek_10 : decode cX9_drawWeek 10 = .ok (.aload_n 3, 1) := dX9_drawWeek_0g.2.2.2.2.2.2.1
theorem dX9_drawWeek_11 : decode cX9_drawWeek 11 = .ok (.iload 4, 2) := dX9_drawWeek_0g.2.2.2.2.2.2.2.1
theorem dX9_drawWeek_13 : decode cX9_drawWeek 13 = .ok (.iload 4, 2) := dX9_drawWeek_0g.2.2.2.2.2.2.2.2.1
theorem dX9_drawWeek_15 : decode cX9_drawWeek 15 = .ok (.iastore, 1) := dX9_drawWeek_0g.2.2.2.2.2.2.2.2.2
theorem dX9_drawWeek_16g : (decode cX9_drawWeek 16 = .ok (.iinc 4 1, 3)) ∧ (decode cX9_drawWeek 19 = .ok (.goto (-16), 3)) ∧ (decode cX9_drawWeek 22 = .ok (.iload_n 1, 1)) ∧ (decode cX9_drawWeek 23 = .ok (.i2l, 1)) ∧ (decode cX9_drawWeek 24 = .ok (.lstore 4, 2)) ∧ (decode cX9_drawWeek 26 = .ok (.iconst 0, 1)) ∧ (decode cX9_drawWeek 27 = .ok (.istore 6, 2)) ∧ (decode cX9_drawWeek 29 = .ok (.iconst 0, 1)) ∧ (decode cX9_drawWeek 30 = .ok (.istore 7, 2)) ∧ (decode cX9_drawWeek 32 = .ok (.iload 7, 2)) := by decide +kernel
theorem dX9_drawWeek_16 : decode cX9_drawWeek 16 = .ok (.iinc 4 1, 3) := dX9_drawWeek_16g.1
theorem dX9_drawWeek_19 : decode cX9_drawWeek 19 = .ok (.goto (-16), 3) := dX9_drawWeek_16g.2.1
theorem dX9_drawWeek_22 : decode cX9_drawWeek 22 = .ok (.iload_n 1, 1) := dX9_drawWeek_16g.2.2.1
theorem dX9_drawWeek_23 : decode cX9_drawWeek 23 = .ok (.i2l, 1) := dX9_drawWeek_16g.2.2.2.1
theorem dX9_drawWeek_24 : decode cX9_drawWeek 24 = .ok (.lstore 4, 2) := dX9_drawWeek_16g.2.2.2.2.1
theorem dX9_drawWeek_26 : decode cX9_drawWeek 26 = .ok (.iconst 0, 1) := dX9_drawWeek_16g.2.2.2.2.2.1
theorem dX9_drawWeek_27 : decode cX9_drawWeek 27 = .ok (.istore 6, 2) := dX9_drawWeek_16g.2.2.2.2.2.2.1
theorem dX9_drawWeek_29 : decode cX9_drawWeek 29 = .ok (.iconst 0, 1) := dX9_drawWeek_16g.2.2.2.2.2.2.2.1
theorem dX9_drawWeek_30 : decode cX9_drawWeek 30 = .ok (.istore 7, 2) := dX9_drawWeek_16g.2.2.2.2.2.2.2.2.1
theorem dX9_drawWeek_32 : decode cX9_drawWeek 32 = .ok (.iload 7, 2) := dX9_drawWeek_16g.2.2.2.2.2.2.2.2.2
theorem dX9_drawWeek_34g : (decode cX9_drawWeek 34 = .ok (.bipush 96, 2)) ∧ (decode cX9_drawWeek 36 = .ok (.if_icmp .ge 60, 3)) ∧ (decode cX9_drawWeek 39 = .ok (.lload 4, 2)) ∧ (decode cX9_drawWeek 41 = .ok (.ldc2_w 87, 3)) ∧ (decode cX9_drawWeek 44 = .ok (.lmul, 1)) ∧ (decode cX9_drawWeek 45 = .ok (.ldc2_w 89, 3)) ∧ (decode cX9_drawWeek 48 = .ok (.ladd, 1)) ∧ (decode cX9_drawWeek 49 = .ok (.ldc2_w 91, 3)) ∧ (decode cX9_drawWeek 52 = .ok (.lrem, 1)) ∧ (decode cX9_drawWeek 53 = .ok (.lstore 4, 2)) := by decide +kernel
theorem dX9_drawWeek_34 : decode cX9_drawWeek 34 = .ok (.bipush 96, 2) := dX9_drawWeek_34g.1
theorem dX9_drawWeek_36 : decode cX9_drawWeek 36 = .ok (.if_icmp .ge 60, 3) := dX9_drawWeek_34g.2.1
theorem dX9_drawWeek_39 : decode cX9_drawWeek 39 = .ok (.lload 4, 2) := dX9_drawWeek_34g.2.2.1
theorem dX9_drawWeek_41 : decode cX9_drawWeek 41 = .ok (.ldc2_w 87, 3) := dX9_drawWeek_34g.2.2.2.1
theorem dX9_drawWeek_44 : decode cX9_drawWeek 44 = .ok (.lmul, 1) := dX9_drawWeek_34g.2.2.2.2.1
theorem dX9_drawWeek_45 : decode cX9_drawWeek 45 = .ok (.ldc2_w 89, 3) := dX9_drawWeek_34g.2.2.2.2.2.1
theorem dX9_drawWeek_48 : decode cX9_drawWeek 48 = .ok (.ladd, 1) := dX9_drawWeek_34g.2.2.2.2.2.2.1
theorem dX9_drawWeek_49 : decode cX9_drawWeek 49 = .ok (.ldc2_w 91, 3) := dX9_drawWeek_34g.2.2.2.2.2.2.2.1
theorem dX9_drawWeek_52 : decode cX9_drawWeek 52 = .ok (.lrem, 1) := dX9_drawWeek_34g.2.2.2.2.2.2.2.2.1
theorem dX9_drawWeek_53 : decode cX9_drawWeek 53 = .ok (.lstore 4, 2) := dX9_drawWeek_34g.2.2.2.2.2.2.2.2.2
theorem dX9_drawWeek_55g : (decode cX9_drawWeek 55 = .ok (.lload 4, 2)) ∧ (decode cX9_drawWeek 57 = .ok (.ldc2_w 93, 3)) ∧ (decode cX9_drawWeek 60 = .ok (.lrem, 1)) ∧ (decode cX9_drawWeek 61 = .ok (.iload_n 2, 1)) ∧ (decode cX9_drawWeek 62 = .ok (.i2l, 1)) ∧ (decode cX9_drawWeek 63 = .ok (.lcmp, 1)) ∧ (decode cX9_drawWeek 64 = .ok (.ifCond .ge 7, 3)) ∧ (decode cX9_drawWeek 67 = .ok (.iconst 1, 1)) ∧ (decode cX9_drawWeek 68 = .ok (.goto 4, 3)) ∧ (decode cX9_drawWeek 71 = .ok (.iconst 0, 1)) := by decide +kernel
theorem dX9_drawWeek_55 : decode cX9_drawWeek 55 = .ok (.lload 4, 2) := dX9_drawWeek_55g.1
theorem dX9_drawWeek_57 : decode cX9_drawWeek 57 = .ok (.ldc2_w 93, 3) := dX9_drawWeek_55g.2.1
theorem dX9_drawWeek_60 : decode cX9_drawWeek 60 = .ok (.lrem, 1) := dX9_drawWeek_55g.2.2.1
theorem dX9_drawWeek_61 : decode cX9_drawWeek 61 = .ok (.iload_n 2, 1) := dX9_drawWeek_55g.2.2.2.1
theorem dX9_drawWeek_62 : decode cX9_drawWeek 62 = .ok (.i2l, 1) := dX9_drawWeek_55g.2.2.2.2.1
theorem dX9_drawWeek_63 : decode cX9_drawWeek 63 = .ok (.lcmp, 1) := dX9_drawWeek_55g.2.2.2.2.2.1
theorem dX9_drawWeek_64 : decode cX9_drawWeek 64 = .ok (.ifCond .ge 7, 3) := dX9_drawWeek_55g.2.2.2.2.2.2.1
theorem dX9_drawWeek_67 : decode cX9_drawWeek 67 = .ok (.iconst 1, 1) := dX9_drawWeek_55g.2.2.2.2.2.2.2.1
theorem dX9_drawWeek_68 : decode cX9_drawWeek 68 = .ok (.goto 4, 3) := dX9_drawWeek_55g.2.2.2.2.2.2.2.2.1
theorem dX9_drawWeek_71 : decode cX9_drawWeek 71 = .ok (.iconst 0, 1) := dX9_drawWeek_55g.2.2.2.2.2.2.2.2.2
theorem dX9_drawWeek_72g : (decode cX9_drawWeek 72 = .ok (.istore 8, 2)) ∧ (decode cX9_drawWeek 74 = .ok (.iload 6, 2)) ∧ (decode cX9_drawWeek 76 = .ok (.iload 8, 2)) ∧ (decode cX9_drawWeek 78 = .ok (.iadd, 1)) ∧ (decode cX9_drawWeek 79 = .ok (.istore 6, 2)) ∧ (decode cX9_drawWeek 81 = .ok (.aload_n 0, 1)) ∧ (decode cX9_drawWeek 82 = .ok (.aload_n 3, 1)) ∧ (decode cX9_drawWeek 83 = .ok (.iload 7, 2)) ∧ (decode cX9_drawWeek 85 = .ok (.iload 8, 2)) ∧ (decode cX9_drawWeek 87 = .ok (.invokevirtual 95, 3)) := by decide +kernel
theorem dX9_drawWeek_72 : decode cX9_drawWeek 72 = .ok (.istore 8, 2) := dX9_drawWeek_72g.1
theorem dX9_drawWeek_74 : decode cX9_drawWeek 74 = .ok (.iload 6, 2) := dX9_drawWeek_72g.2.1
theorem dX9_drawWeek_76 : decode cX9_drawWeek 76 = .ok (.iload 8, 2) := dX9_drawWeek_72g.2.2.1
theorem dX9_drawWeek_78 : decode cX9_drawWeek 78 = .ok (.iadd, 1) := dX9_drawWeek_72g.2.2.2.1
theorem dX9_drawWeek_79 : decode cX9_drawWeek 79 = .ok (.istore 6, 2) := dX9_drawWeek_72g.2.2.2.2.1
theorem dX9_drawWeek_81 : decode cX9_drawWeek 81 = .ok (.aload_n 0, 1) := dX9_drawWeek_72g.2.2.2.2.2.1
theorem dX9_drawWeek_82 : decode cX9_drawWeek 82 = .ok (.aload_n 3, 1) := dX9_drawWeek_72g.2.2.2.2.2.2.1
theorem dX9_drawWeek_83 : decode cX9_drawWeek 83 = .ok (.iload 7, 2) := dX9_drawWeek_72g.2.2.2.2.2.2.2.1
theorem dX9_drawWeek_85 : decode cX9_drawWeek 85 = .ok (.iload 8, 2) := dX9_drawWeek_72g.2.2.2.2.2.2.2.2.1
theorem dX9_drawWeek_87 : decode cX9_drawWeek 87 = .ok (.invokevirtual 95, 3) := dX9_drawWeek_72g.2.2.2.2.2.2.2.2.2
theorem dX9_drawWeek_90g : (decode cX9_drawWeek 90 = .ok (.iinc 7 1, 3)) ∧ (decode cX9_drawWeek 93 = .ok (.goto (-61), 3)) ∧ (decode cX9_drawWeek 96 = .ok (.iload 6, 2)) ∧ (decode cX9_drawWeek 98 = .ok (.ireturn, 1)) := by decide +kernel
theorem dX9_drawWeek_90 : decode cX9_drawWeek 90 = .ok (.iinc 7 1, 3) := dX9_drawWeek_90g.1
theorem dX9_drawWeek_93 : decode cX9_drawWeek 93 = .ok (.goto (-61), 3) := dX9_drawWeek_90g.2.1
theorem dX9_drawWeek_96 : decode cX9_drawWeek 96 = .ok (.iload 6, 2) := dX9_drawWeek_90g.2.2.1
theorem dX9_drawWeek_98 : decode cX9_drawWeek 98 = .ok (.ireturn, 1) := dX9_drawWeek_90g.2.2.2
set_option maxHeartbeats 4000000 in
set_option maxRecDepth 100000 in
theorem c_X9_drawWeek (l : Launch) (E : Nat → Nat) (D : va_G) (G : th_G) (h0 : Nat) (hG0 : G h0 = some (10, 0)) (x1 : Int32) (x2 : Int32) (p3 : Nat) (hp3 : G p3 = some (0, 24)) : Met l yX9_drawWeek (tb (.code yX9_drawWeek cX9_drawWeek 9 (some .int))) (rm 7) (va_Pc [.ref h0, .int x1, .int x2, .ref p3] (th_P E D G)) (QI E D G (fun r => True)) 0 0 (th_A G) := by
  refine Met.ofW (cc := cX9_drawWeek) (maxL := 9) (ret := (some .int)) (by decide) rfl ?_
  intro p e s m args below meth c s₁ B hml hv
  obtain ⟨hav, hI, hN, hK⟩ := hv
  have hx := B.exec
  have hb := B.bytes
  have hr := B.returns
  have hts := atoms_spec (ws := tb (.code yX9_drawWeek cX9_drawWeek 9 (some .int))) B.pre
  have hown : s.vm.findClass RX9 = some m.cls := findClass_of_methodNamed B.named
  have hlocks := B.notSynchronized
  have hS : va_S (th_A G) s.heap s.heap [] := va_S.rf
  have hl := lv_entry ([.ref h0, .int x1, .int x2, .ref p3]) (n := 9) (Nat.le_of_ble_eq_true rfl)
  rw [show entryFrame m args 9 = entryFrame m ([.ref h0, .int x1, .int x2, .ref p3] : List Value).toArray 9 from by rw [hav], lg_entry_eq]
  generalize (lg_sl ([.ref h0, .int x1, .int x2, .ref p3]) ++ List.replicate (9 - (lg_sl ([.ref h0, .int x1, .int x2, .ref p3])).length) Slot.unset).toArray = ls at hl ⊢
  have hl : lv_has ls 9 [(0, .ref h0), (1, .int x1), (2, .int x2), (3, .ref p3)] := hl
  generalize hR : (headSpec (tb (.code yX9_drawWeek cX9_drawWeek 9 (some .int))) (rm 7)).room = R
  have hR := hR.symm
  generalize hQ : MQ below (QI E D G (fun r => True)) args s 0 0 (th_A G) = QF
  have hQ := hQ.symm
  have J_32 : ∀ (nn : Nat) (H : Heap) (locs : List Loc) (ls : Array Slot) (v2977 : Int32) (v2978 : Int32) (l2979 : Int64), (Int.toNat (96 - v2977.toInt) = nn) → lv_has ls 9 [(7, .int v2977), (6, .int v2978), (4, .long l2979), (0, .ref h0), (1, .int x1), (2, .int x2), (3, .ref p3)] → ((0 : Int) ≤ v2977.toInt ∧ v2977.toInt ≤ 96) → th_I (okC E) D G [] H → va_S (th_A G) s.heap H locs → W p l e R s m args below meth c H locs 0 0 QF (F0 m 32 ls []) := by
    intro nn
    induction nn using Nat.strongRecOn with
    | ind nn ih_32 =>
      intro H locs ls v2977 v2978 l2979 hm hl k2980 hI hS
      have J_72 : ∀ (H : Heap) (locs : List Loc) (ls : Array Slot) (l2981 : Int64) (v2984 : Int32), lv_has ls 9 [(4, .long l2981), (7, .int v2977), (6, .int v2978), (0, .ref h0), (1, .int x1), (2, .int x2), (3, .ref p3)] → ((0 : Int) ≤ v2977.toInt ∧ v2977.toInt ≤ 95) → ((0 : Int) ≤ v2984.toInt ∧ v2984.toInt ≤ 1) → th_I (okC E) D G [] H → va_S (th_A G) s.heap H locs → W p l e R s m args below meth c H locs 0 0 QF (F0 m 72 ls [.int v2984]) := by
        intro H locs ls l2981 v2984 hl k2985 k2986 hI hS
        refine lv_istore (lv' := [(8, .int v2984), (4, .long l2981), (7, .int v2977), (6, .int v2978), (0, .ref h0), (1, .int x1), (2, .int x2), (3, .ref p3)]) hx hb dX9_drawWeek_72 hl (by decide) rfl (fun ls hl => ?_)
        refine lv_iload hx hb dX9_drawWeek_74 (lv_at hl 3 rfl) ?_
        refine lv_iload hx hb dX9_drawWeek_76 (lv_at hl 0 rfl) ?_
        refine lv_iadd hx hb dX9_drawWeek_78 ?_
        refine lv_topi (fun v2987 e2988 => ?_)
        try have tv2987 : v2987.toInt = v2978.toInt + v2984.toInt := iv_add rfl rfl e2988 (by omega) (by omega)
        refine lv_istore (lv' := [(6, .int v2987), (8, .int v2984), (4, .long l2981), (7, .int v2977), (0, .ref h0), (1, .int x1), (2, .int x2), (3, .ref p3)]) hx hb dX9_drawWeek_79 hl (by decide) rfl (fun ls hl => ?_)
        refine lv_aload_n hx hb dX9_drawWeek_81 rfl (lv_at hl 4 rfl) ?_
        refine lv_aload_n hx hb dX9_drawWeek_82 rfl (lv_at hl 7 rfl) ?_
        refine lv_iload hx hb dX9_drawWeek_83 (lv_at hl 3 rfl) ?_
        refine lv_iload hx hb dX9_drawWeek_85 (lv_at hl 1 rfl) ?_
        refine th_cVv (As := [.ref p3, .int v2977, .int v2984]) (rest := []) (n := 3) (d := 6) ⟨hx, hb, hml, hown, hts⟩ (c_X9_stepAll l E D G h0 hG0 p3 hp3 v2977 v2984) wd_1190 wd_1192 wp_39 wd_8 wd_1193 (by decide +kernel) ⟨by rw [hR]; exact Nat.le_of_ble_eq_true rfl, by rw [hR]; exact Nat.le_of_ble_eq_true rfl⟩ hI hN hK hS (rc_10 hI hG0 List.not_mem_nil) rfl rfl hl.1 rfl (Nat.le_of_ble_eq_true rfl) dX9_drawWeek_87 ⟨Nat.zero_le _, Nat.zero_le _⟩ (fun H locs hI hS => ?_)
        obtain ⟨v2990, e2991⟩ : ∃ y : Int32, y = v2977 + (1) := ⟨_, rfl⟩
        have tv2990 : v2990.toInt = v2977.toInt + (1) := iv_add rfl (by decide) e2991 (by omega) (by omega)
        refine lv_iinc (v := v2990) (lv' := [(7, .int v2990), (6, .int v2987), (8, .int v2984), (4, .long l2981), (0, .ref h0), (1, .int x1), (2, .int x2), (3, .ref p3)]) hx hb dX9_drawWeek_90 hl (k := 3) rfl (by rw [e2991]; rfl) (by decide) rfl (fun ls hl => ?_)
        refine lv_goto (tgt := 32) hx hb dX9_drawWeek_93 (by decide) ?_
        exact ih_32 _ (by omega) H locs ls v2990 v2987 l2981 rfl (lv_sub hl [0, 1, 3, 4, 5, 6, 7] rfl) ⟨by omega, by omega⟩ hI hS
      refine lv_iload hx hb dX9_drawWeek_32 (lv_at hl 0 rfl) ?_
      refine lv_bipush (v := 96) hx hb dX9_drawWeek_34 (by decide) ?_
      refine lv_icmp_ge (tgt := 96) hx hb dX9_drawWeek_36 (by decide) (fun c2992 => ?_) (fun c2992 => ?_)
      · skip
        have k2993 := iv_le (X := (96)) (Y := v2977.toInt) (by decide) rfl c2992
        refine lv_iload hx hb dX9_drawWeek_96 (lv_at hl 1 rfl) ?_
        have hpost : True := trivial
        rw [hQ]
        exact W.iret (v := v2978) hx hb hr (fun t ht hW => ⟨⟨v2978, (), rfl, hpost, by rw [ht]; exact hI, hN.warm hW, va_K.moved hW.alike hK⟩, hS.F ht⟩) hS.2.2 dX9_drawWeek_98
      · skip
        have k2994 := iv_nle (X := (96)) (Y := v2977.toInt) (by decide) rfl c2992
        refine lv_lload hx hb dX9_drawWeek_39 (lv_at hl 2 rfl) ?_
        refine lv_ldc2 hx hb hown (hts _ (tb_c wd_1186)) dX9_drawWeek_41 ?_
        refine lv_topl (fun l2995 e2996 => ?_)
        refine lv_lmul hx hb dX9_drawWeek_44 ?_
        refine lv_topl (fun l2997 e2998 => ?_)
        refine lv_ldc2 hx hb hown (hts _ (tb_c wd_1187)) dX9_drawWeek_45 ?_
        refine lv_topl (fun l2999 e3000 => ?_)
        refine lv_ladd hx hb dX9_drawWeek_48 ?_
        refine lv_topl (fun l3001 e3002 => ?_)
        refine lv_ldc2 hx hb hown (hts _ (tb_c wd_1188)) dX9_drawWeek_49 ?_
        refine lv_topl (fun l3003 e3004 => ?_)
        refine lv_lrem hx hb dX9_drawWeek_52 (by rw [e3004]; decide) ?_
        refine lv_topl (fun l3005 e3006 => ?_)
        refine lv_lstore (lv' := [(4, .long l3005), (7, .int v2977), (6, .int v2978), (0, .ref h0), (1, .int x1), (2, .int x2), (3, .ref p3)]) hx hb dX9_drawWeek_53 hl (by decide) rfl (fun ls hl => ?_)
        refine lv_lload hx hb dX9_drawWeek_55 (lv_at hl 0 rfl) ?_
        refine lv_ldc2 hx hb hown (hts _ (tb_c wd_1189)) dX9_drawWeek_57 ?_
        refine lv_topl (fun l3007 e3008 => ?_)
        refine lv_lrem hx hb dX9_drawWeek_60 (by rw [e3008]; decide) ?_
        refine lv_topl (fun l3009 e3010 => ?_)
        refine lv_iload_n hx hb dX9_drawWeek_61 rfl (lv_at hl 5 rfl) ?_
        refine lv_i2l hx hb dX9_drawWeek_62 rfl ?_
        refine lv_topl (fun l3011 e3012 => ?_)
        refine W.lcmp hx hb dX9_drawWeek_63 ?_
        refine lv_topi (fun v3013 e3014 => ?_)
        have tv3013 := iv_cmp e3014
        refine lv_if_ge (tgt := 71) hx hb dX9_drawWeek_64 (by decide) (fun c3015 => ?_) (fun c3015 => ?_)
        · skip
          have k3016 := iv_le (X := (0)) (Y := v3013.toInt) (by decide) rfl c3015
          refine lv_iconst (v := 0) hx hb dX9_drawWeek_71 (by decide) ?_
          exact J_72 H locs ls l3005 0 (lv_sub hl [0, 1, 2, 3, 4, 5, 6] rfl) ⟨by omega, by omega⟩ ⟨by decide, by decide⟩ hI hS
        · skip
          have k3017 := iv_nle (X := (0)) (Y := v3013.toInt) (by decide) rfl c3015
          refine lv_iconst (v := 1) hx hb dX9_drawWeek_67 (by decide) ?_
          refine lv_goto (tgt := 72) hx hb dX9_drawWeek_68 (by decide) ?_
          exact J_72 H locs ls l3005 1 (lv_sub hl [0, 1, 2, 3, 4, 5, 6] rfl) ⟨by omega, by omega⟩ ⟨by decide, by decide⟩ hI hS
  have J_3 : ∀ (nn : Nat) (H : Heap) (locs : List Loc) (ls : Array Slot) (v3018 : Int32), (Int.toNat (24 - v3018.toInt) = nn) → lv_has ls 9 [(4, .int v3018), (0, .ref h0), (1, .int x1), (2, .int x2), (3, .ref p3)] → ((0 : Int) ≤ v3018.toInt ∧ v3018.toInt ≤ 24) → th_I (okC E) D G [] H → va_S (th_A G) s.heap H locs → W p l e R s m args below meth c H locs 0 0 QF (F0 m 3 ls []) := by
    intro nn
    induction nn using Nat.strongRecOn with
    | ind nn ih_3 =>
      intro H locs ls v3018 hm hl k3019 hI hS
      refine lv_iload hx hb dX9_drawWeek_3 (lv_at hl 0 rfl) ?_
      refine lv_aload_n hx hb dX9_drawWeek_5 rfl (lv_at hl 4 rfl) ?_
      obtain ⟨_, hA3020⟩ := op_0 hI hp3 List.not_mem_nil
      refine va_alen hx hb hK (th_one hA3020) 0 0 rfl (v := 24) rfl (show Int32.ofNat 24 = (24 : Int32) from by decide) dX9_drawWeek_6 ?_
      refine lv_icmp_ge (tgt := 22) hx hb dX9_drawWeek_7 (by decide) (fun c3021 => ?_) (fun c3021 => ?_)
      · skip
        have k3022 := iv_le (X := (24)) (Y := v3018.toInt) (by decide) rfl c3021
        refine lv_iload_n hx hb dX9_drawWeek_22 rfl (lv_at hl 2 rfl) ?_
        refine lv_i2l hx hb dX9_drawWeek_23 rfl ?_
        refine lv_topl (fun l3023 e3024 => ?_)
        refine lv_lstore (lv' := [(4, .long l3023), (0, .ref h0), (1, .int x1), (2, .int x2), (3, .ref p3)]) hx hb dX9_drawWeek_24 hl (by decide) rfl (fun ls hl => ?_)
        refine lv_iconst (v := 0) hx hb dX9_drawWeek_26 (by decide) ?_
        refine lv_istore (lv' := [(6, .int 0), (4, .long l3023), (0, .ref h0), (1, .int x1), (2, .int x2), (3, .ref p3)]) hx hb dX9_drawWeek_27 hl (by decide) rfl (fun ls hl => ?_)
        refine lv_iconst (v := 0) hx hb dX9_drawWeek_29 (by decide) ?_
        refine lv_istore (lv' := [(7, .int 0), (6, .int 0), (4, .long l3023), (0, .ref h0), (1, .int x1), (2, .int x2), (3, .ref p3)]) hx hb dX9_drawWeek_30 hl (by decide) rfl (fun ls hl => ?_)
        have zl : (0 : Int32).toInt = 0 := by decide
        exact J_32 _ H locs ls 0 0 l3023 rfl (lv_sub hl [0, 1, 2, 3, 4, 5, 6] rfl) ⟨by decide, by decide⟩ hI hS
      · skip
        have k3025 := iv_nle (X := (24)) (Y := v3018.toInt) (by decide) rfl c3021
        refine lv_aload_n hx hb dX9_drawWeek_10 rfl (lv_at hl 4 rfl) ?_
        refine lv_iload hx hb dX9_drawWeek_11 (lv_at hl 0 rfl) ?_
        refine lv_iload hx hb dX9_drawWeek_13 (lv_at hl 0 rfl) ?_
        obtain ⟨_, hA3026⟩ := op_0 hI hp3 List.not_mem_nil
        refine th_iast hx hb hK hA3026 0 rfl hS ⟨_, hp3⟩ (iv_in (X := v3018.toInt) rfl (by omega) (by omega)) dX9_drawWeek_15 (fun H locs hA3026 oq hS => ?_)
        have hI := th_I.put hI hp3 hA3026 ok_0 oq
        obtain ⟨v3027, e3028⟩ : ∃ y : Int32, y = v3018 + (1) := ⟨_, rfl⟩
        have tv3027 : v3027.toInt = v3018.toInt + (1) := iv_add rfl (by decide) e3028 (by omega) (by omega)
        refine lv_iinc (v := v3027) (lv' := [(4, .int v3027), (0, .ref h0), (1, .int x1), (2, .int x2), (3, .ref p3)]) hx hb dX9_drawWeek_16 hl (k := 0) rfl (by rw [e3028]; rfl) (by decide) rfl (fun ls hl => ?_)
        refine lv_goto (tgt := 3) hx hb dX9_drawWeek_19 (by decide) ?_
        exact ih_3 _ (by omega) H locs ls v3027 rfl (lv_sub hl [0, 1, 2, 3, 4] rfl) ⟨by omega, by omega⟩ hI hS
  refine lv_iconst (v := 0) hx hb dX9_drawWeek_0 (by decide) ?_
  refine lv_istore (lv' := [(4, .int 0), (0, .ref h0), (1, .int x1), (2, .int x2), (3, .ref p3)]) hx hb dX9_drawWeek_1 hl (by decide) rfl (fun ls hl => ?_)
  have zl : (0 : Int32).toInt = 0 := by decide
  exact J_3 _ s.heap [] ls 0 rfl (lv_sub hl [0, 1, 2, 3, 4] rfl) ⟨by decide, by decide⟩ hI hS
