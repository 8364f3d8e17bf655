theorem wp_13 : Cond.selects RX3 yX3_moveTo yX3_moveTo ∈ TB := tv 13 (by decide +kernel) (by decide +kernel)
theorem wp_15 : Cond.selects RX3 yX3_sum yX3_sum ∈ TB := tv 15 (by decide +kernel) (by decide +kernel)
theorem wp_16 : Cond.selects RX3 yX3_part yX3_part ∈ TB := tv 16 (by decide +kernel) (by decide +kernel)
theorem wp_17 : Cond.selects RX3 yX3_emit yX3_emit ∈ TB := tv 17 (by decide +kernel) (by decide +kernel)
theorem wp_18 : Cond.selects RX3 yX3_arithmetic yX3_arithmetic ∈ TB := tv 18 (by decide +kernel) (by decide +kernel)
theorem wd_131 : (Cond.fieldLink RX3 (18 : Nat) "NineRiver$Reader" "code" "[I") ∈ TB := tw 131 (by decide +kernel) (by decide +kernel)
theorem wd_132 : (Cond.fieldLink RX3 (21 : Nat) "NineRiver$Reader" "tokens" "[I") ∈ TB := tw 132 (by decide +kernel) (by decide +kernel)
theorem wd_133 : (Cond.fieldLink RX3 (24 : Nat) "NineRiver$Reader" "places" "[I") ∈ TB := tw 133 (by decide +kernel) (by decide +kernel)
theorem wd_134 : (Cond.fieldLink RX3 (27 : Nat) "NineRiver$Reader" "numbers" "[I") ∈ TB := tw 134 (by decide +kernel) (by decide +kernel)
theorem wd_135 : (Cond.fieldLink RX3 (30 : Nat) "NineRiver$Reader" "tokenCount" "I") ∈ TB := tw 135 (by decide +kernel) (by decide +kernel)
theorem wd_137 : (Cond.fieldLink RX3 (37 : Nat) "NineRiver$Reader" "parts" "I") ∈ TB := tw 137 (by decide +kernel) (by decide +kernel)
theorem wd_138 : (Cond.fieldLink RX3 (40 : Nat) "NineRiver$Reader" "length" "I") ∈ TB := tw 138 (by decide +kernel) (by decide +kernel)
theorem wd_139 : (Cond.fieldLink RX3 (43 : Nat) "NineRiver$Reader" "at" "I") ∈ TB := tw 139 (by decide +kernel) (by decide +kernel)
theorem wd_140 : (Cond.fieldLink RX3 (46 : Nat) "NineRiver$Reader" "token" "I") ∈ TB := tw 140 (by decide +kernel) (by decide +kernel)
theorem wd_5 : (Cond.initialized RX3) ∈ TB := tw 5 (by decide +kernel) (by decide +kernel)
theorem wd_707 : (Cond.methodLink RX3 (66 : Nat) yX3_moveTo) ∈ TB := tw 707 (by decide +kernel) (by decide +kernel)
theorem wd_709 : (Jvm.Cond.instanceMethod yX3_moveTo) ∈ TB := tw 709 (by decide +kernel) (by decide +kernel)
theorem wd_710 : (Cond.code yX3_moveTo cX3_moveTo 2 (Option.none : Option Jvm.ClassFile.FieldType)) ∈ TB := tw 710 (by decide +kernel) (by decide +kernel)
theorem wd_715 : (Cond.methodLink RX3 (97 : Nat) yX3_sum) ∈ TB := tw 715 (by decide +kernel) (by decide +kernel)
theorem wd_717 : (Jvm.Cond.instanceMethod yX3_sum) ∈ TB := tw 717 (by decide +kernel) (by decide +kernel)
theorem wd_718 : (Cond.code yX3_sum cX3_sum 7 (Option.some Jvm.ClassFile.FieldType.boolean)) ∈ TB := tw 718 (by decide +kernel) (by decide +kernel)
theorem wd_719 : (Cond.methodLink RX3 (115 : Nat) yX3_part) ∈ TB := tw 719 (by decide +kernel) (by decide +kernel)
theorem wd_721 : (Jvm.Cond.instanceMethod yX3_part) ∈ TB := tw 721 (by decide +kernel) (by decide +kernel)
theorem wd_722 : (Cond.code yX3_part cX3_part 4 (Option.some Jvm.ClassFile.FieldType.boolean)) ∈ TB := tw 722 (by decide +kernel) (by decide +kernel)
theorem wd_723 : (Cond.methodLink RX3 (109 : Nat) yX3_emit) ∈ TB := tw 723 (by decide +kernel) (by decide +kernel)
theorem wd_725 : (Jvm.Cond.instanceMethod yX3_emit) ∈ TB := tw 725 (by decide +kernel) (by decide +kernel)
theorem wd_726 : (Cond.code yX3_emit cX3_emit 3 (Option.some Jvm.ClassFile.FieldType.int)) ∈ TB := tw 726 (by decide +kernel) (by decide +kernel)
theorem wd_727 : (Cond.methodLink RX3 (118 : Nat) yX3_arithmetic) ∈ TB := tw 727 (by decide +kernel) (by decide +kernel)
theorem wd_729 : (Jvm.Cond.instanceMethod yX3_arithmetic) ∈ TB := tw 729 (by decide +kernel) (by decide +kernel)
theorem wd_730 : (Cond.code yX3_arithmetic cX3_arithmetic 1 (Option.some Jvm.ClassFile.FieldType.int)) ∈ TB := tw 730 (by decide +kernel) (by decide +kernel)
theorem dX3_stoppedAt_0g : (decode cX3_stoppedAt 0 = .ok (.aload_n 0, 1)) ∧ (decode cX3_stoppedAt 1 = .ok (.getfield 43, 3)) ∧ (decode cX3_stoppedAt 4 = .ok (.ifCond .lt 27, 3)) ∧ (decode cX3_stoppedAt 7 = .ok (.aload_n 0, 1)) ∧ (decode cX3_stoppedAt 8 = .ok (.getfield 43, 3)) ∧ (decode cX3_stoppedAt 11 = .ok (.aload_n 0, 1)) ∧ (decode cX3_stoppedAt 12 = .ok (.getfield 24, 3)) ∧ (decode cX3_stoppedAt 15 = .ok (.arraylength, 1)) ∧ (decode cX3_stoppedAt 16 = .ok (.if_icmp .ge 15, 3)) ∧ (decode cX3_stoppedAt 19 = .ok (.aload_n 0, 1)) := by decide +kernel
theorem dX3_stoppedAt_0 : decode cX3_stoppedAt 0 = .ok (.aload_n 0, 1) := dX3_stoppedAt_0g.1
theorem dX3_stoppedAt_1 : decode cX3_stoppedAt 1 = .ok (.getfield 43, 3) := dX3_stoppedAt_0g.2.1
theorem dX3_stoppedAt_4 : decode cX3_stoppedAt 4 = .ok (.ifCond .lt 27, 3) := dX3_stoppedAt_0g.2.2.1
theorem dX3_stoppedAt_7 : decode cX3_stoppedAt 7 = .ok (.aload_n 0, 1) := dX3_stoppedAt_0g.2.2.2.1
theorem dX3_stoppedAt_8 : decode cX3_stoppedAt 8 = .ok (.getfield 43, 3) := dX3_stoppedAt_0g.2.2.2.2.1
theorem dX3_stoppedAt_11 : decode cX3_stoppedAt 11 = .ok (.aload_n 0, 1) := dX3_stoppedAt_0g.2.2.2.2.2.1
theorem dX3_stoppedAt_12 : decode cX3_stoppedAt 12 = .ok (.getfield 24, 3) := dX3_stoppedAt_0g.2.2.2.2.2.2.1
theorem dX3_stoppedAt_15 : decode cX3_stoppedAt 15 = .ok (.arraylength, 1) := dX3_stoppedAt_0g.2.2.2.2.2.2.2.1
theorem dX3_stoppedAt_16 : decode cX3_stoppedAt 16 = .ok (.if_icmp .ge 15, 3) := dX3_stoppedAt_0g.2.2.2.2.2.2.2.2.1
theorem dX3_stoppedAt_19 : decode cX3_stoppedAt 19 = .ok (.aload_n 0, 1) := dX3_stoppedAt_0g.2.2.2.2.2.2.2.2.2
theorem dX3_stoppedAt_20g : (decode cX3_stoppedAt 20 = .ok (.getfield 24, 3)) ∧ (decode cX3_stoppedAt 23 = .ok (.aload_n 0, 1)) ∧ (decode cX3_stoppedAt 24 = .ok (.getfield 43, 3)) ∧ (decode cX3_stoppedAt 27 = .ok (.iaload, 1)) ∧ (decode cX3_stoppedAt 28 = .ok (.goto 4, 3)) ∧ (decode cX3_stoppedAt 31 = .ok (.iconst 0, 1)) ∧ (decode cX3_stoppedAt 32 = .ok (.ireturn, 1)) := by decide +kernel
theorem dX3_stoppedAt_20 : decode cX3_stoppedAt 20 = .ok (.getfield 24, 3) := dX3_stoppedAt_20g.1
theorem dX3_stoppedAt_23 : decode cX3_stoppedAt 23 = .ok (.aload_n 0, 1) := dX3_stoppedAt_20g.2.1
theorem dX3_stoppedAt_24 : decode cX3_stoppedAt 24 = .ok (.getfield 43, 3) := dX3_stoppedAt_20g.2.2.1
theorem dX3_stoppedAt_27 : decode cX3_stoppedAt 27 = .ok (.iaload, 1) := dX3_stoppedAt_20g.2.2.2.1
theorem dX3_stoppedAt_28 : decode cX3_stoppedAt 28 = .ok (.goto 4, 3) := dX3_stoppedAt_20g.2.2.2.2.1
theorem dX3_stoppedAt_31 : decode cX3_stoppedAt 31 = .ok (.iconst 0, 1) := dX3_stoppedAt_20g.2.2.2.2.2.1
theorem dX3_stoppedAt_32 : decode cX3_stoppedAt 32 = .ok (.ireturn, 1) := dX3_stoppedAt_20g.2.2.2.2.2.2
set_option maxHeartbeats 4000000 in
set_option maxRecDepth 100000 in
theorem c_X3_stoppedAt (l : Launch) (E : Nat → Nat) (D : va_G) (G : th_G) (h0 n : Nat) (hG0 : G h0 = some (7, n)) : Met l yX3_stoppedAt (tb (.code yX3_stoppedAt cX3_stoppedAt 1 (some .int))) (rm 0) (va_Pc [.ref h0] (th_P E D G)) (QI E D G (fun r => True)) 0 0 (th_A G) := by
  refine Met.ofW (cc := cX3_stoppedAt) (maxL := 1) (ret := (some .int)) (by decide) rfl ?_
  intro p e s m args below meth c s₁ B hml hv
  obtain ⟨hav, hI, hN, hK⟩ := hv
  have hx := B.exec
  have hb := B.bytes
  have hr := B.returns
  have hts := atoms_spec (ws := tb (.code yX3_stoppedAt cX3_stoppedAt 1 (some .int))) B.pre
  have hown : s.vm.findClass RX3 = some m.cls := findClass_of_methodNamed B.named
  have hlocks := B.notSynchronized
  have hS : va_S (th_A G) s.heap s.heap [] := va_S.rf
  have hl := lv_entry ([.ref h0]) (n := 1) (Nat.le_of_ble_eq_true rfl)
  rw [show entryFrame m args 1 = entryFrame m ([.ref h0] : List Value).toArray 1 from by rw [hav], lg_entry_eq]
  generalize (lg_sl ([.ref h0]) ++ List.replicate (1 - (lg_sl ([.ref h0])).length) Slot.unset).toArray = ls at hl ⊢
  have hl : lv_has ls 1 [(0, .ref h0)] := hl
  generalize hR : (headSpec (tb (.code yX3_stoppedAt cX3_stoppedAt 1 (some .int))) (rm 0)).room = R
  have hR := hR.symm
  generalize hQ : MQ below (QI E D G (fun r => True)) args s 0 0 (th_A G) = QF
  have hQ := hQ.symm
  refine lv_aload_n hx hb dX3_stoppedAt_0 rfl (lv_at hl 0 rfl) ?_
  obtain ⟨a1, a3, a5, a7, a9, a11, w13, w16, w19, w20, w23, w24, hO, hq2, hq4, hq6, hq8, hq10, hq12, ⟨k14, k15⟩, ⟨k17, k18⟩, ⟨k21, k22⟩, k25⟩ := op_7 hI hG0 List.not_mem_nil
  have hI := th_I.weak (a := h0) hI
  refine th_get hx hb hts inT3 hown hK hO rfl 10 (by decide) (hts _ (tb_c wd_139)) rfl rfl dX3_stoppedAt_1 ?_
  have k26 := iv_lo w23
  have k27 := iv_hi w23
  refine lv_if_lt (tgt := 31) hx hb dX3_stoppedAt_4 (by decide) (fun c28 => ?_) (fun c28 => ?_)
  · skip
    have k29 := iv_lt (X := w23.toInt) (Y := (0)) rfl (by decide) c28
    refine lv_iconst (v := 0) hx hb dX3_stoppedAt_31 (by decide) ?_
    have hI := th_I.close hI hG0 hO (ok_7 hq2 hq4 hq6 hq8 hq10 hq12 ⟨by omega, by omega⟩ ⟨by omega, by omega⟩ ⟨by omega, by omega⟩ (by omega))
    have hpost : True := trivial
    rw [hQ]
    exact W.iret (v := 0) hx hb hr (fun t ht hW => ⟨⟨0, (), rfl, hpost, by rw [ht]; exact hI, hN.warm hW, va_K.moved hW.alike hK⟩, hS.F ht⟩) hS.2.2 dX3_stoppedAt_32
  · skip
    have k30 := iv_nlt (X := w23.toInt) (Y := (0)) rfl (by decide) c28
    refine lv_aload_n hx hb dX3_stoppedAt_7 rfl (lv_at hl 0 rfl) ?_
    refine th_get hx hb hts inT3 hown hK hO rfl 10 (by decide) (hts _ (tb_c wd_139)) rfl rfl dX3_stoppedAt_8 ?_
    refine lv_aload_n hx hb dX3_stoppedAt_11 rfl (lv_at hl 0 rfl) ?_
    refine th_get hx hb hts inT3 hown hK hO rfl 4 (by decide) (hts _ (tb_c wd_133)) rfl rfl dX3_stoppedAt_12 ?_
    obtain ⟨_, hA31⟩ := op_0 hI hq10 (th_ne hG0 hq10 (show (7 : Nat) ≠ 0 by decide))
    refine va_alen hx hb hK (th_one hA31) 0 0 rfl (v := 401) rfl (show Int32.ofNat 401 = (401 : Int32) from by decide) dX3_stoppedAt_15 ?_
    refine lv_icmp_ge (tgt := 31) hx hb dX3_stoppedAt_16 (by decide) (fun c32 => ?_) (fun c32 => ?_)
    · skip
      have k33 := iv_le (X := (401)) (Y := w23.toInt) (by decide) rfl c32
      refine lv_iconst (v := 0) hx hb dX3_stoppedAt_31 (by decide) ?_
      have hI := th_I.close hI hG0 hO (ok_7 hq2 hq4 hq6 hq8 hq10 hq12 ⟨by omega, by omega⟩ ⟨by omega, by omega⟩ ⟨by omega, by omega⟩ (by omega))
      have hpost : True := trivial
      rw [hQ]
      exact W.iret (v := 0) hx hb hr (fun t ht hW => ⟨⟨0, (), rfl, hpost, by rw [ht]; exact hI, hN.warm hW, va_K.moved hW.alike hK⟩, hS.F ht⟩) hS.2.2 dX3_stoppedAt_32
    · skip
      have k34 := iv_nle (X := (401)) (Y := w23.toInt) (by decide) rfl c32
      refine lv_aload_n hx hb dX3_stoppedAt_19 rfl (lv_at hl 0 rfl) ?_
      refine th_get hx hb hts inT3 hown hK hO rfl 4 (by decide) (hts _ (tb_c wd_133)) rfl rfl dX3_stoppedAt_20 ?_
      refine lv_aload_n hx hb dX3_stoppedAt_23 rfl (lv_at hl 0 rfl) ?_
      refine th_get hx hb hts inT3 hown hK hO rfl 10 (by decide) (hts _ (tb_c wd_139)) rfl rfl dX3_stoppedAt_24 ?_
      obtain ⟨_, hA35⟩ := op_0 hI hq10 (th_ne hG0 hq10 (show (7 : Nat) ≠ 0 by decide))
      refine th_iald hx hb hK hA35 0 rfl (iv_in (X := w23.toInt) rfl (by omega) (by omega)) dX3_stoppedAt_27 (fun v36 _ => ?_)
      refine lv_goto (tgt := 32) hx hb dX3_stoppedAt_28 (by decide) ?_
      have hI := th_I.close hI hG0 hO (ok_7 hq2 hq4 hq6 hq8 hq10 hq12 ⟨by omega, by omega⟩ ⟨by omega, by omega⟩ ⟨by omega, by omega⟩ (by omega))
      have hpost : True := trivial
      rw [hQ]
      exact W.iret (v := v36) hx hb hr (fun t ht hW => ⟨⟨v36, (), rfl, hpost, by rw [ht]; exact hI, hN.warm hW, va_K.moved hW.alike hK⟩, hS.F ht⟩) hS.2.2 dX3_stoppedAt_32
theorem dX3_addToken_0g : (decode cX3_addToken 0 = .ok (.aload_n 0, 1)) ∧ (decode cX3_addToken 1 = .ok (.getfield 30, 3)) ∧ (decode cX3_addToken 4 = .ok (.aload_n 0, 1)) ∧ (decode cX3_addToken 5 = .ok (.getfield 21, 3)) ∧ (decode cX3_addToken 8 = .ok (.arraylength, 1)) ∧ (decode cX3_addToken 9 = .ok (.if_icmp .ge 43, 3)) ∧ (decode cX3_addToken 12 = .ok (.aload_n 0, 1)) ∧ (decode cX3_addToken 13 = .ok (.getfield 21, 3)) ∧ (decode cX3_addToken 16 = .ok (.aload_n 0, 1)) ∧ (decode cX3_addToken 17 = .ok (.getfield 30, 3)) := by decide +kernel
theorem dX3_addToken_0 : decode cX3_addToken 0 = .ok (.aload_n 0, 1) := dX3_addToken_0g.1
theorem dX3_addToken_1 : decode cX3_addToken 1 = .ok (.getfield 30, 3) := dX3_addToken_0g.2.1
theorem dX3_addToken_4 : decode cX3_addToken 4 = .ok (.aload_n 0, 1) := dX3_addToken_0g.2.2.1
theorem dX3_addToken_5 : decode cX3_addToken 5 = .ok (.getfield 21, 3) := dX3_addToken_0g.2.2.2.1
theorem dX3_addToken_8 : decode cX3_addToken 8 = .ok (.arraylength, 1) := dX3_addToken_0g.2.2.2.2.1
theorem dX3_addToken_9 : decode cX3_addToken 9 = .ok (.if_icmp .ge 43, 3) := dX3_addToken_0g.2.2.2.2.2.1
theorem dX3_addToken_12 : decode cX3_addToken 12 = .ok (.aload_n 0, 1) := dX3_addToken_0g.2.2.2.2.2.2.1
theorem dX3_addToken_13 : decode cX3_addToken 13 = .ok (.getfield 21, 3) := dX3_addToken_0g.2.2.2.2.2.2.2.1
theorem dX3_addToken_16 : decode cX3_addToken 16 = .ok (.aload_n 0, 1) := dX3_addToken_0g.2.2.2.2.2.2.2.2.1
theorem dX3_addToken_17 : decode cX3_addToken 17 = .ok (.getfield 30, 3) := dX3_addToken_0g.2.2.2.2.2.2.2.2.2
theorem dX3_addToken_20g : (decode cX3_addToken 20 = .ok (.iload_n 1, 1)) ∧ (decode cX3_addToken 21 = .ok (.iastore, 1)) ∧ (decode cX3_addToken 22 = .ok (.aload_n 0, 1)) ∧ (decode cX3_addToken 23 = .ok (.getfield 24, 3)) ∧ (decode cX3_addToken 26 = .ok (.aload_n 0, 1)) ∧ (decode cX3_addToken 27 = .ok (.getfield 30, 3)) ∧ (decode cX3_addToken 30 = .ok (.iload_n 2, 1)) ∧ (decode cX3_addToken 31 = .ok (.iastore, 1)) ∧ (decode cX3_addToken 32 = .ok (.aload_n 0, 1)) ∧ (decode cX3_addToken 33 = .ok (.getfield 27, 3)) := by decide +kernel
theorem dX3_addToken_20 : decode cX3_addToken 20 = .ok (.iload_n 1, 1) := dX3_addToken_20g.1
theorem dX3_addToken_21 : decode cX3_addToken 21 = .ok (.iastore, 1) := dX3_addToken_20g.2.1
theorem dX3_addToken_22 : decode cX3_addToken 22 = .ok (.aload_n 0, 1) := dX3_addToken_20g.2.2.1
theorem dX3_addToken_23 : decode cX3_addToken 23 = .ok (.getfield 24, 3) := dX3_addToken_20g.2.2.2.1
theorem dX3_addToken_26 : decode cX3_addToken 26 = .ok (.aload_n 0, 1) := dX3_addToken_20g.2.2.2.2.1
theorem dX3_addToken_27 : decode cX3_addToken 27 = .ok (.getfield 30, 3) := dX3_addToken_20g.2.2.2.2.2.1
theorem dX3_addToken_30 : decode cX3_addToken 30 = .ok (.iload_n 2, 1) := dX3_addToken_20g.2.2.2.2.2.2.1
theorem dX3_addToken_31 : decode cX3_addToken 31 = .ok (.iastore, 1) := dX3_addToken_20g.2.2.2.2.2.2.2.1
theorem dX3_addToken_32 : decode cX3_addToken 32 = .ok (.aload_n 0, 1) := dX3_addToken_20g.2.2.2.2.2.2.2.2.1
theorem dX3_addToken_33 : decode cX3_addToken 33 = .ok (.getfield 27, 3) := dX3_addToken_20g.2.2.2.2.2.2.2.2.2
theorem dX3_addToken_36g : (decode cX3_addToken 36 = .ok (.aload_n 0, 1)) ∧ (decode cX3_addToken 37 = .ok (.getfield 30, 3)) ∧ (decode cX3_addToken 40 = .ok (.iload_n 3, 1)) ∧ (decode cX3_addToken 41 = .ok (.iastore, 1)) ∧ (decode cX3_addToken 42 = .ok (.aload_n 0, 1)) ∧ (decode cX3_addToken 43 = .ok (.dup, 1)) ∧ (decode cX3_addToken 44 = .ok (.getfield 30, 3)) ∧ (decode cX3_addToken 47 = .ok (.iconst 1, 1)) ∧ (decode cX3_addToken 48 = .ok (.iadd, 1)) ∧ (decode cX3_addToken 49 = .ok (.putfield 30, 3)) := by decide +kernel
theorem dX3_addToken_36 : decode cX3_addToken 36 = .ok (.aload_n 0, 1) := dX3_addToken_36g.1
theorem dX3_addToken_37 : decode cX3_addToken 37 = .ok (.getfield 30, 3) := dX3_addToken_36g.2.1
theorem dX3_addToken_40 : decode cX3_addToken 40 = .ok (.iload_n 3, 1) := dX3_addToken_36g.2.2.1
theorem dX3_addToken_41 : decode cX3_addToken 41 = .ok (.iastore, 1) := dX3_addToken_36g.2.2.2.1
theorem dX3_addToken_42 : decode cX3_addToken 42 = .ok (.aload_n 0, 1) := dX3_addToken_36g.2.2.2.2.1
theorem dX3_addToken_43 : decode cX3_addToken 43 = .ok (.dup, 1) := dX3_addToken_36g.2.2.2.2.2.1
theorem dX3_addToken_44 : decode cX3_addToken 44 = .ok (.getfield 30, 3) := dX3_addToken_36g.2.2.2.2.2.2.1
theorem dX3_addToken_47 : decode cX3_addToken 47 = .ok (.iconst 1, 1) := dX3_addToken_36g.2.2.2.2.2.2.2.1
theorem dX3_addToken_48 : decode cX3_addToken 48 = .ok (.iadd, 1) := dX3_addToken_36g.2.2.2.2.2.2.2.2.1
theorem dX3_addToken_49 : decode cX3_addToken 49 = .ok (.putfield 30, 3) := dX3_addToken_36g.2.2.2.2.2.2.2.2.2
theorem dX3_addToken_52 : decode cX3_addToken 52 = .ok (.return_, 1) := by decide +kernel
set_option maxHeartbeats 4000000 in
set_option maxRecDepth 100000 in
theorem c_X3_addToken (l : Launch) (E : Nat → Nat) (D : va_G) (G : th_G) (h0 n : Nat) (hG0 : G h0 = some (7, n)) (x1 x2 x3 : Int32) : Met l yX3_addToken (tb (.code yX3_addToken cX3_addToken 4 none)) (rm 0) (va_Pc [.ref h0, .int x1, .int x2, .int x3] (th_P E D G)) (QV E D G) 0 0 (th_A G) := by
  refine Met.ofW (cc := cX3_addToken) (maxL := 4) (ret := none) (by decide) rfl ?_
  intro p e s m args below meth c s₁ B hml hv
  obtain ⟨hav, hI, hN, hK⟩ := hv
  have hx := B.exec
  have hb := B.bytes
  have hr := B.returns
  have hts := atoms_spec (ws := tb (.code yX3_addToken cX3_addToken 4 none)) B.pre
  have hown : s.vm.findClass RX3 = some m.cls := findClass_of_methodNamed B.named
  have hlocks := B.notSynchronized
  have hS : va_S (th_A G) s.heap s.heap [] := va_S.rf
  have hl := lv_entry ([.ref h0, .int x1, .int x2, .int x3]) (n := 4) (Nat.le_of_ble_eq_true rfl)
  rw [show entryFrame m args 4 = entryFrame m ([.ref h0, .int x1, .int x2, .int x3] : List Value).toArray 4 from by rw [hav], lg_entry_eq]
  generalize (lg_sl ([.ref h0, .int x1, .int x2, .int x3]) ++ List.replicate (4 - (lg_sl ([.ref h0, .int x1, .int x2, .int x3])).length) Slot.unset).toArray = ls at hl ⊢
  have hl : lv_has ls 4 [(0, .ref h0), (1, .int x1), (2, .int x2), (3, .int x3)] := hl
  generalize hR : (headSpec (tb (.code yX3_addToken cX3_addToken 4 none)) (rm 0)).room = R
  have hR := hR.symm
  generalize hQ : MQ below (QV E D G) args s 0 0 (th_A G) = QF
  have hQ := hQ.symm
  refine lv_aload_n hx hb dX3_addToken_0 rfl (lv_at hl 0 rfl) ?_
  obtain ⟨a1, a3, a5, a7, a9, a11, w13, w16, w19, w20, w23, w24, hO, hq2, hq4, hq6, hq8, hq10, hq12, ⟨k14, k15⟩, ⟨k17, k18⟩, ⟨k21, k22⟩, k25⟩ := op_7 hI hG0 List.not_mem_nil
  have hI := th_I.weak (a := h0) hI
  refine th_get hx hb hts inT3 hown hK hO rfl 6 (by decide) (hts _ (tb_c wd_135)) rfl rfl dX3_addToken_1 ?_
  refine lv_aload_n hx hb dX3_addToken_4 rfl (lv_at hl 0 rfl) ?_
  refine th_get hx hb hts inT3 hown hK hO rfl 3 (by decide) (hts _ (tb_c wd_132)) rfl rfl dX3_addToken_5 ?_
  obtain ⟨_, hA26⟩ := op_0 hI hq8 (th_ne hG0 hq8 (show (7 : Nat) ≠ 0 by decide))
  refine va_alen hx hb hK (th_one hA26) 0 0 rfl (v := 401) rfl (show Int32.ofNat 401 = (401 : Int32) from by decide) dX3_addToken_8 ?_
  refine lv_icmp_ge (tgt := 52) hx hb dX3_addToken_9 (by decide) (fun c27 => ?_) (fun c27 => ?_)
  · skip
    have k28 := iv_le (X := (401)) (Y := w13.toInt) (by decide) rfl c27
    have hI := th_I.close hI hG0 hO (ok_7 hq2 hq4 hq6 hq8 hq10 hq12 ⟨by omega, by omega⟩ ⟨by omega, by omega⟩ ⟨by omega, by omega⟩ (by omega))
    rw [hQ]
    exact W.vret hx hb hr (fun t ht hW => ⟨⟨(), rfl, trivial, by rw [ht]; exact hI, hN.warm hW, va_K.moved hW.alike hK⟩, hS.F ht⟩) hS.2.2 dX3_addToken_52
  · skip
    have k29 := iv_nle (X := (401)) (Y := w13.toInt) (by decide) rfl c27
    refine lv_aload_n hx hb dX3_addToken_12 rfl (lv_at hl 0 rfl) ?_
    refine th_get hx hb hts inT3 hown hK hO rfl 3 (by decide) (hts _ (tb_c wd_132)) rfl rfl dX3_addToken_13 ?_
    refine lv_aload_n hx hb dX3_addToken_16 rfl (lv_at hl 0 rfl) ?_
    refine th_get hx hb hts inT3 hown hK hO rfl 6 (by decide) (hts _ (tb_c wd_135)) rfl rfl dX3_addToken_17 ?_
    refine lv_iload_n hx hb dX3_addToken_20 rfl (lv_at hl 1 rfl) ?_
    obtain ⟨_, hA30⟩ := op_0 hI hq8 (th_ne hG0 hq8 (show (7 : Nat) ≠ 0 by decide))
    refine th_iast hx hb hK hA30 0 rfl hS ⟨_, hq8⟩ (iv_in (X := w13.toInt) rfl (by omega) (by omega)) dX3_addToken_21 (fun H locs hA30 oq hS => ?_)
    have hI := th_I.put hI hq8 hA30 ok_0 oq
    have hO := hO.kept (oq _ (fun z => th_ne hG0 hq8 (show (7 : Nat) ≠ 0 by decide) (List.mem_singleton.mpr z.symm)))
    refine lv_aload_n hx hb dX3_addToken_22 rfl (lv_at hl 0 rfl) ?_
    refine th_get hx hb hts inT3 hown hK hO rfl 4 (by decide) (hts _ (tb_c wd_133)) rfl rfl dX3_addToken_23 ?_
    refine lv_aload_n hx hb dX3_addToken_26 rfl (lv_at hl 0 rfl) ?_
    refine th_get hx hb hts inT3 hown hK hO rfl 6 (by decide) (hts _ (tb_c wd_135)) rfl rfl dX3_addToken_27 ?_
    refine lv_iload_n hx hb dX3_addToken_30 rfl (lv_at hl 2 rfl) ?_
    obtain ⟨_, hA31⟩ := op_0 hI hq10 (th_ne hG0 hq10 (show (7 : Nat) ≠ 0 by decide))
    refine th_iast hx hb hK hA31 0 rfl hS ⟨_, hq10⟩ (iv_in (X := w13.toInt) rfl (by omega) (by omega)) dX3_addToken_31 (fun H locs hA31 oq hS => ?_)
    have hI := th_I.put hI hq10 hA31 ok_0 oq
    have hO := hO.kept (oq _ (fun z => th_ne hG0 hq10 (show (7 : Nat) ≠ 0 by decide) (List.mem_singleton.mpr z.symm)))
    refine lv_aload_n hx hb dX3_addToken_32 rfl (lv_at hl 0 rfl) ?_
    refine th_get hx hb hts inT3 hown hK hO rfl 5 (by decide) (hts _ (tb_c wd_134)) rfl rfl dX3_addToken_33 ?_
    refine lv_aload_n hx hb dX3_addToken_36 rfl (lv_at hl 0 rfl) ?_
    refine th_get hx hb hts inT3 hown hK hO rfl 6 (by decide) (hts _ (tb_c wd_135)) rfl rfl dX3_addToken_37 ?_
    refine lv_iload_n hx hb dX3_addToken_40 rfl (lv_at hl 3 rfl) ?_
    obtain ⟨_, hA32⟩ := op_0 hI hq12 (th_ne hG0 hq12 (show (7 : Nat) ≠ 0 by decide))
    refine th_iast hx hb hK hA32 0 rfl hS ⟨_, hq12⟩ (iv_in (X := w13.toInt) rfl (by omega) (by omega)) dX3_addToken_41 (fun H locs hA32 oq hS => ?_)
    have hI := th_I.put hI hq12 hA32 ok_0 oq
    have hO := hO.kept (oq _ (fun z => th_ne hG0 hq12 (show (7 : Nat) ≠ 0 by decide) (List.mem_singleton.mpr z.symm)))
    refine lv_aload_n hx hb dX3_addToken_42 rfl (lv_at hl 0 rfl) ?_
    refine lv_dup hx hb dX3_addToken_43 rfl ?_
    refine th_get hx hb hts inT3 hown hK hO rfl 6 (by decide) (hts _ (tb_c wd_135)) rfl rfl dX3_addToken_44 ?_
    refine lv_iconst (v := 1) hx hb dX3_addToken_47 (by decide) ?_
    refine lv_iadd hx hb dX3_addToken_48 ?_
    refine lv_topi (fun v33 e34 => ?_)
    have tv33 : v33.toInt = w13.toInt + (1) := iv_add rfl (by decide) e34 (by omega) (by omega)
    refine th_put (ty := .int) hx hb hts inT3 tyX3 tyX3_ok nmX3 hown hK hO hS ⟨_, hG0⟩ rfl 6 (by decide) (hts _ (tb_c wd_135)) rfl rfl (by decide +kernel) rfl rfl (Nat.le_of_ble_eq_true rfl) dX3_addToken_49 (fun H locs hO oq hS => ?_)
    have hI := th_I.moved hI oq
    have hO : va_at D vwCl (h0, .inr (3, [.ref a1, .ref a3, .ref a5, .ref a7, .ref a9, .ref a11, .int v33, .int w16, .int w19, .int w20, .int w23, .int w24])) H := hO
    have hI := th_I.close hI hG0 hO (ok_7 hq2 hq4 hq6 hq8 hq10 hq12 ⟨by omega, by omega⟩ ⟨by omega, by omega⟩ ⟨by omega, by omega⟩ (by omega))
    rw [hQ]
    exact W.vret hx hb hr (fun t ht hW => ⟨⟨(), rfl, trivial, by rw [ht]; exact hI, hN.warm hW, va_K.moved hW.alike hK⟩, hS.F ht⟩) hS.2.2 dX3_addToken_52
theorem dX3_moveTo_0g : (decode cX3_moveTo 0 = .ok (.aload_n 0, 1)) ∧ (decode cX3_moveTo 1 = .ok (.iload_n 1, 1)) ∧ (decode cX3_moveTo 2 = .ok (.putfield 43, 3)) ∧ (decode cX3_moveTo 5 = .ok (.aload_n 0, 1)) ∧ (decode cX3_moveTo 6 = .ok (.aload_n 0, 1)) ∧ (decode cX3_moveTo 7 = .ok (.getfield 43, 3)) ∧ (decode cX3_moveTo 10 = .ok (.ifCond .lt 26, 3)) ∧ (decode cX3_moveTo 13 = .ok (.aload_n 0, 1)) ∧ (decode cX3_moveTo 14 = .ok (.getfield 43, 3)) ∧ (decode cX3_moveTo 17 = .ok (.aload_n 0, 1)) := by decide +kernel
theorem dX3_moveTo_0 : decode cX3_moveTo 0 = .ok (.aload_n 0, 1) := dX3_moveTo_0g.1
theorem dX3_moveTo_1 : decode cX3_moveTo 1 = .ok (.iload_n 1, 1) := dX3_moveTo_0g.2.1
theorem dX3_moveTo_2 : decode cX3_moveTo 2 = .ok (.putfield 43, 3) := dX3_moveTo_0g.2.2.1
theorem dX3_moveTo_5 : decode cX3_moveTo 5 = .ok (.aload_n 0, 1) := dX3_moveTo_0g.2.2.2.1
theorem dX3_moveTo_6 : decode cX3_moveTo 6 = .ok (.aload_n 0, 1) := dX3_moveTo_0g.2.2.2.2.1
theorem dX3_moveTo_7 : decode cX3_moveTo 7 = .ok (.getfield 43, 3) := dX3_moveTo_0g.2.2.2.2.2.1
theorem dX3_moveTo_10 : decode cX3_moveTo 10 = .ok (.ifCond .lt 26, 3) := dX3_moveTo_0g.2.2.2.2.2.2.1
theorem dX3_moveTo_13 : decode cX3_moveTo 13 = .ok (.aload_n 0, 1) := dX3_moveTo_0g.2.2.2.2.2.2.2.1
theorem dX3_moveTo_14 : decode cX3_moveTo 14 = .ok (.getfield 43, 3) := dX3_moveTo_0g.2.2.2.2.2.2.2.2.1
theorem dX3_moveTo_17 : decode cX3_moveTo 17 = .ok (.aload_n 0, 1) := dX3_moveTo_0g.2.2.2.2.2.2.2.2.2
theorem dX3_moveTo_18g : (decode cX3_moveTo 18 = .ok (.getfield 30, 3)) ∧ (decode cX3_moveTo 21 = .ok (.if_icmp .ge 15, 3)) ∧ (decode cX3_moveTo 24 = .ok (.aload_n 0, 1)) ∧ (decode cX3_moveTo 25 = .ok (.getfield 21, 3)) ∧ (decode cX3_moveTo 28 = .ok (.aload_n 0, 1)) ∧ (decode cX3_moveTo 29 = .ok (.getfield 43, 3)) ∧ (decode cX3_moveTo 32 = .ok (.iaload, 1)) ∧ (decode cX3_moveTo 33 = .ok (.goto 4, 3)) ∧ (decode cX3_moveTo 36 = .ok (.iconst (-1), 1)) ∧ (decode cX3_moveTo 37 = .ok (.putfield 46, 3)) := by decide +kernel
theorem dX3_moveTo_18 : decode cX3_moveTo 18 = .ok (.getfield 30, 3) := dX3_moveTo_18g.1
theorem dX3_moveTo_21 : decode cX3_moveTo 21 = .ok (.if_icmp .ge 15, 3) := dX3_moveTo_18g.2.1
theorem dX3_moveTo_24 : decode cX3_moveTo 24 = .ok (.aload_n 0, 1) := dX3_moveTo_18g.2.2.1
theorem dX3_moveTo_25 : decode cX3_moveTo 25 = .ok (.getfield 21, 3) := dX3_moveTo_18g.2.2.2.1
theorem dX3_moveTo_28 : decode cX3_moveTo 28 = .ok (.aload_n 0, 1) := dX3_moveTo_18g.2.2.2.2.1
theorem dX3_moveTo_29 : decode cX3_moveTo 29 = .ok (.getfield 43, 3) := dX3_moveTo_18g.2.2.2.2.2.1
theorem dX3_moveTo_32 : decode cX3_moveTo 32 = .ok (.iaload, 1) := dX3_moveTo_18g.2.2.2.2.2.2.1
theorem dX3_moveTo_33 : decode cX3_moveTo 33 = .ok (.goto 4, 3) := dX3_moveTo_18g.2.2.2.2.2.2.2.1
theorem dX3_moveTo_36 : decode cX3_moveTo 36 = .ok (.iconst (-1), 1) := dX3_moveTo_18g.2.2.2.2.2.2.2.2.1
theorem dX3_moveTo_37 : decode cX3_moveTo 37 = .ok (.putfield 46, 3) := dX3_moveTo_18g.2.2.2.2.2.2.2.2.2
theorem dX3_moveTo_40 : decode cX3_moveTo 40 = .ok (.return_, 1) := by decide +kernel
set_option maxHeartbeats 4000000 in
set_option maxRecDepth 100000 in
theorem c_X3_moveTo (l : Launch) (E : Nat → Nat) (D : va_G) (G : th_G) (h0 n : Nat) (hG0 : G h0 = some (7, n)) (x1 : Int32) : Met l yX3_moveTo (tb (.code yX3_moveTo cX3_moveTo 2 none)) (rm 0) (va_Pc [.ref h0, .int x1] (th_P E D G)) (QV E D G) 0 0 (th_A G) := by
  refine Met.ofW (cc := cX3_moveTo) (maxL := 2) (ret := none) (by decide) rfl ?_
  intro p e s m args below meth c s₁ B hml hv
  obtain ⟨hav, hI, hN, hK⟩ := hv
  have hx := B.exec
  have hb := B.bytes
  have hr := B.returns
  have hts := atoms_spec (ws := tb (.code yX3_moveTo cX3_moveTo 2 none)) B.pre
  have hown : s.vm.findClass RX3 = some m.cls := findClass_of_methodNamed B.named
  have hlocks := B.notSynchronized
  have hS : va_S (th_A G) s.heap s.heap [] := va_S.rf
  have hl := lv_entry ([.ref h0, .int x1]) (n := 2) (Nat.le_of_ble_eq_true rfl)
  rw [show entryFrame m args 2 = entryFrame m ([.ref h0, .int x1] : List Value).toArray 2 from by rw [hav], lg_entry_eq]
  generalize (lg_sl ([.ref h0, .int x1]) ++ List.replicate (2 - (lg_sl ([.ref h0, .int x1])).length) Slot.unset).toArray = ls at hl ⊢
  have hl : lv_has ls 2 [(0, .ref h0), (1, .int x1)] := hl
  generalize hR : (headSpec (tb (.code yX3_moveTo cX3_moveTo 2 none)) (rm 0)).room = R
  have hR := hR.symm
  generalize hQ : MQ below (QV E D G) args s 0 0 (th_A G) = QF
  have hQ := hQ.symm
  refine lv_aload_n hx hb dX3_moveTo_0 rfl (lv_at hl 0 rfl) ?_
  refine lv_iload_n hx hb dX3_moveTo_1 rfl (lv_at hl 1 rfl) ?_
  obtain ⟨a1, a3, a5, a7, a9, a11, w13, w16, w19, w20, w23, w24, hO, hq2, hq4, hq6, hq8, hq10, hq12, ⟨k14, k15⟩, ⟨k17, k18⟩, ⟨k21, k22⟩, k25⟩ := op_7 hI hG0 List.not_mem_nil
  have hI := th_I.weak (a := h0) hI
  refine th_put (ty := .int) hx hb hts inT3 tyX3 tyX3_ok nmX3 hown hK hO hS ⟨_, hG0⟩ rfl 10 (by decide) (hts _ (tb_c wd_139)) rfl rfl (by decide +kernel) rfl rfl (Nat.le_of_ble_eq_true rfl) dX3_moveTo_2 (fun H locs hO oq hS => ?_)
  have hI := th_I.moved hI oq
  have hO : va_at D vwCl (h0, .inr (3, [.ref a1, .ref a3, .ref a5, .ref a7, .ref a9, .ref a11, .int w13, .int w16, .int w19, .int w20, .int x1, .int w24])) H := hO
  refine lv_aload_n hx hb dX3_moveTo_5 rfl (lv_at hl 0 rfl) ?_
  refine lv_aload_n hx hb dX3_moveTo_6 rfl (lv_at hl 0 rfl) ?_
  refine th_get hx hb hts inT3 hown hK hO rfl 10 (by decide) (hts _ (tb_c wd_139)) rfl rfl dX3_moveTo_7 ?_
  have k26 := iv_lo x1
  have k27 := iv_hi x1
  refine lv_if_lt (tgt := 36) hx hb dX3_moveTo_10 (by decide) (fun c28 => ?_) (fun c28 => ?_)
  · skip
    have k29 := iv_lt (X := x1.toInt) (Y := (0)) rfl (by decide) c28
    refine lv_iconst (v := (-1)) hx hb dX3_moveTo_36 (by decide) ?_
    refine th_put (ty := .int) hx hb hts inT3 tyX3 tyX3_ok nmX3 hown hK hO hS ⟨_, hG0⟩ rfl 11 (by decide) (hts _ (tb_c wd_140)) rfl rfl (by decide +kernel) rfl rfl (Nat.le_of_ble_eq_true rfl) dX3_moveTo_37 (fun H locs hO oq hS => ?_)
    have hI := th_I.moved hI oq
    have hO : va_at D vwCl (h0, .inr (3, [.ref a1, .ref a3, .ref a5, .ref a7, .ref a9, .ref a11, .int w13, .int w16, .int w19, .int w20, .int x1, .int (-1)])) H := hO
    have hI := th_I.close hI hG0 hO (ok_7 hq2 hq4 hq6 hq8 hq10 hq12 ⟨by omega, by omega⟩ ⟨by omega, by omega⟩ ⟨by omega, by omega⟩ (by omega))
    rw [hQ]
    exact W.vret hx hb hr (fun t ht hW => ⟨⟨(), rfl, trivial, by rw [ht]; exact hI, hN.warm hW, va_K.moved hW.alike hK⟩, hS.F ht⟩) hS.2.2 dX3_moveTo_40
  · skip
    have k30 := iv_nlt (X := x1.toInt) (Y := (0)) rfl (by decide) c28
    refine lv_aload_n hx hb dX3_moveTo_13 rfl (lv_at hl 0 rfl) ?_
    refine th_get hx hb hts inT3 hown hK hO rfl 10 (by decide) (hts _ (tb_c wd_139)) rfl rfl dX3_moveTo_14 ?_
    refine lv_aload_n hx hb dX3_moveTo_17 rfl (lv_at hl 0 rfl) ?_
    refine th_get hx hb hts inT3 hown hK hO rfl 6 (by decide) (hts _ (tb_c wd_135)) rfl rfl dX3_moveTo_18 ?_
    refine lv_icmp_ge (tgt := 36) hx hb dX3_moveTo_21 (by decide) (fun c31 => ?_) (fun c31 => ?_)
    · skip
      have k32 := iv_le (X := w13.toInt) (Y := x1.toInt) rfl rfl c31
      refine lv_iconst (v := (-1)) hx hb dX3_moveTo_36 (by decide) ?_
      refine th_put (ty := .int) hx hb hts inT3 tyX3 tyX3_ok nmX3 hown hK hO hS ⟨_, hG0⟩ rfl 11 (by decide) (hts _ (tb_c wd_140)) rfl rfl (by decide +kernel) rfl rfl (Nat.le_of_ble_eq_true rfl) dX3_moveTo_37 (fun H locs hO oq hS => ?_)
      have hI := th_I.moved hI oq
      have hO : va_at D vwCl (h0, .inr (3, [.ref a1, .ref a3, .ref a5, .ref a7, .ref a9, .ref a11, .int w13, .int w16, .int w19, .int w20, .int x1, .int (-1)])) H := hO
      have hI := th_I.close hI hG0 hO (ok_7 hq2 hq4 hq6 hq8 hq10 hq12 ⟨by omega, by omega⟩ ⟨by omega, by omega⟩ ⟨by omega, by omega⟩ (by omega))
      rw [hQ]
      exact W.vret hx hb hr (fun t ht hW => ⟨⟨(), rfl, trivial, by rw [ht]; exact hI, hN.warm hW, va_K.moved hW.alike hK⟩, hS.F ht⟩) hS.2.2 dX3_moveTo_40
    · skip
      have k33 := iv_nle (X := w13.toInt) (Y := x1.toInt) rfl rfl c31
      refine lv_aload_n hx hb dX3_moveTo_24 rfl (lv_at hl 0 rfl) ?_
      refine th_get hx hb hts inT3 hown hK hO rfl 3 (by decide) (hts _ (tb_c wd_132)) rfl rfl dX3_moveTo_25 ?_
      refine lv_aload_n hx hb dX3_moveTo_28 rfl (lv_at hl 0 rfl) ?_
      refine th_get hx hb hts inT3 hown hK hO rfl 10 (by decide) (hts _ (tb_c wd_139)) rfl rfl dX3_moveTo_29 ?_
      obtain ⟨_, hA34⟩ := op_0 hI hq8 (th_ne hG0 hq8 (show (7 : Nat) ≠ 0 by decide))
      refine th_iald hx hb hK hA34 0 rfl (iv_in (X := x1.toInt) rfl (by omega) (by omega)) dX3_moveTo_32 (fun v35 _ => ?_)
      refine lv_goto (tgt := 37) hx hb dX3_moveTo_33 (by decide) ?_
      refine th_put (ty := .int) hx hb hts inT3 tyX3 tyX3_ok nmX3 hown hK hO hS ⟨_, hG0⟩ rfl 11 (by decide) (hts _ (tb_c wd_140)) rfl rfl (by decide +kernel) rfl rfl (Nat.le_of_ble_eq_true rfl) dX3_moveTo_37 (fun H locs hO oq hS => ?_)
      have hI := th_I.moved hI oq
      have hO : va_at D vwCl (h0, .inr (3, [.ref a1, .ref a3, .ref a5, .ref a7, .ref a9, .ref a11, .int w13, .int w16, .int w19, .int w20, .int x1, .int v35])) H := hO
      have hI := th_I.close hI hG0 hO (ok_7 hq2 hq4 hq6 hq8 hq10 hq12 ⟨by omega, by omega⟩ ⟨by omega, by omega⟩ ⟨by omega, by omega⟩ (by omega))
      rw [hQ]
      exact W.vret hx hb hr (fun t ht hW => ⟨⟨(), rfl, trivial, by rw [ht]; exact hI, hN.warm hW, va_K.moved hW.alike hK⟩, hS.F ht⟩) hS.2.2 dX3_moveTo_40
theorem dX3_emit_0g : (decode cX3_emit 0 = .ok (.aload_n 0, 1)) ∧ (decode cX3_emit 1 = .ok (.getfield 40, 3)) ∧ (decode cX3_emit 4 = .ok (.aload_n 0, 1)) ∧ (decode cX3_emit 5 = .ok (.getfield 18, 3)) ∧ (decode cX3_emit 8 = .ok (.arraylength, 1)) ∧ (decode cX3_emit 9 = .ok (.if_icmp .ge 27, 3)) ∧ (decode cX3_emit 12 = .ok (.aload_n 0, 1)) ∧ (decode cX3_emit 13 = .ok (.getfield 18, 3)) ∧ (decode cX3_emit 16 = .ok (.aload_n 0, 1)) ∧ (decode cX3_emit 17 = .ok (.getfield 40, 3)) := by decide +kernel
theorem dX3_emit_0 : decode cX3_emit 0 = .ok (.aload_n 0, 1) := dX3_emit_0g.1
theorem dX3_emit_1 : decode cX3_emit 1 = .ok (.getfield 40, 3) := dX3_emit_0g.2.1
theorem dX3_emit_4 : decode cX3_emit 4 = .ok (.aload_n 0, 1) := dX3_emit_0g.2.2.1
theorem dX3_emit_5 : decode cX3_emit 5 = .ok (.getfield 18, 3) := dX3_emit_0g.2.2.2.1
theorem dX3_emit_8 : decode cX3_emit 8 = .ok (.arraylength, 1) := dX3_emit_0g.2.2.2.2.1
theorem dX3_emit_9 : decode cX3_emit 9 = .ok (.if_icmp .ge 27, 3) := dX3_emit_0g.2.2.2.2.2.1
theorem dX3_emit_12 : decode cX3_emit 12 = .ok (.aload_n 0, 1) := dX3_emit_0g.2.2.2.2.2.2.1
theorem dX3_emit_13 : decode cX3_emit 13 = .ok (.getfield 18, 3) := dX3_emit_0g.2.2.2.2.2.2.2.1
theorem dX3_emit_16 : decode cX3_emit 16 = .ok (.aload_n 0, 1) := dX3_emit_0g.2.2.2.2.2.2.2.2.1
theorem dX3_emit_17 : decode cX3_emit 17 = .ok (.getfield 40, 3) := dX3_emit_0g.2.2.2.2.2.2.2.2.2
theorem dX3_emit_20g : (decode cX3_emit 20 = .ok (.iload_n 1, 1)) ∧ (decode cX3_emit 21 = .ok (.iload_n 2, 1)) ∧ (decode cX3_emit 22 = .ok (.iconst 4, 1)) ∧ (decode cX3_emit 23 = .ok (.ishl, 1)) ∧ (decode cX3_emit 24 = .ok (.ior, 1)) ∧ (decode cX3_emit 25 = .ok (.iastore, 1)) ∧ (decode cX3_emit 26 = .ok (.aload_n 0, 1)) ∧ (decode cX3_emit 27 = .ok (.dup, 1)) ∧ (decode cX3_emit 28 = .ok (.getfield 40, 3)) ∧ (decode cX3_emit 31 = .ok (.iconst 1, 1)) := by decide +kernel
theorem dX3_emit_20 : decode cX3_emit 20 = .ok (.iload_n 1, 1) := dX3_emit_20g.1
theorem dX3_emit_21 : decode cX3_emit 21 = .ok (.iload_n 2, 1) := dX3_emit_20g.2.1
theorem dX3_emit_22 : decode cX3_emit 22 = .ok (.iconst 4, 1) := dX3_emit_20g.2.2.1
theorem dX3_emit_23 : decode cX3_emit 23 = .ok (.ishl, 1) := dX3_emit_20g.2.2.2.1
theorem dX3_emit_24 : decode cX3_emit 24 = .ok (.ior, 1) := dX3_emit_20g.2.2.2.2.1
theorem dX3_emit_25 : decode cX3_emit 25 = .ok (.iastore, 1) := dX3_emit_20g.2.2.2.2.2.1
theorem dX3_emit_26 : decode cX3_emit 26 = .ok (.aload_n 0, 1) := dX3_emit_20g.2.2.2.2.2.2.1
theorem dX3_emit_27 : decode cX3_emit 27 = .ok (.dup, 1) := dX3_emit_20g.2.2.2.2.2.2.2.1
theorem dX3_emit_28 : decode cX3_emit 28 = .ok (.getfield 40, 3) := dX3_emit_20g.2.2.2.2.2.2.2.2.1
theorem dX3_emit_31 : decode cX3_emit 31 = .ok (.iconst 1, 1) := dX3_emit_20g.2.2.2.2.2.2.2.2.2
theorem dX3_emit_32g : (decode cX3_emit 32 = .ok (.iadd, 1)) ∧ (decode cX3_emit 33 = .ok (.putfield 40, 3)) ∧ (decode cX3_emit 36 = .ok (.aload_n 0, 1)) ∧ (decode cX3_emit 37 = .ok (.getfield 40, 3)) ∧ (decode cX3_emit 40 = .ok (.iconst 1, 1)) ∧ (decode cX3_emit 41 = .ok (.isub, 1)) ∧ (decode cX3_emit 42 = .ok (.ireturn, 1)) := by decide +kernel
theorem dX3_emit_32 : decode cX3_emit 32 = .ok (.iadd, 1) := dX3_emit_32g.1
theorem dX3_emit_33 : decode cX3_emit 33 = .ok (.putfield 40, 3) := dX3_emit_32g.2.1
theorem dX3_emit_36 : decode cX3_emit 36 = .ok (.aload_n 0, 1) := dX3_emit_32g.2.2.1
theorem dX3_emit_37 : decode cX3_emit 37 = .ok (.getfield 40, 3) := dX3_emit_32g.2.2.2.1
theorem dX3_emit_40 : decode cX3_emit 40 = .ok (.iconst 1, 1) := dX3_emit_32g.2.2.2.2.1
theorem dX3_emit_41 : decode cX3_emit 41 = .ok (.isub, 1) := dX3_emit_32g.2.2.2.2.2.1
theorem dX3_emit_42 : decode cX3_emit 42 = .ok (.ireturn, 1) := dX3_emit_32g.2.2.2.2.2.2
set_option maxHeartbeats 4000000 in
set_option maxRecDepth 100000 in
theorem c_X3_emit (l : Launch) (E : Nat → Nat) (D : va_G) (G : th_G) (h0 n : Nat) (hG0 : G h0 = some (7, n)) (x1 x2 : Int32) : Met l yX3_emit (tb (.code yX3_emit cX3_emit 3 (some .int))) (rm 0) (va_Pc [.ref h0, .int x1, .int x2] (th_P E D G)) (QI E D G (fun r => True)) 0 0 (th_A G) := by
  refine Met.ofW (cc := cX3_emit) (maxL := 3) (ret := (some .int)) (by decide) rfl ?_
  intro p e s m args below meth c s₁ B hml hv
  obtain ⟨hav, hI, hN, hK⟩ := hv
  have hx := B.exec
  have hb := B.bytes
  have hr := B.returns
  have hts := atoms_spec (ws := tb (.code yX3_emit cX3_emit 3 (some .int))) B.pre
  have hown : s.vm.findClass RX3 = some m.cls := findClass_of_methodNamed B.named
  have hlocks := B.notSynchronized
  have hS : va_S (th_A G) s.heap s.heap [] := va_S.rf
  have hl := lv_entry ([.ref h0, .int x1, .int x2]) (n := 3) (Nat.le_of_ble_eq_true rfl)
  rw [show entryFrame m args 3 = entryFrame m ([.ref h0, .int x1, .int x2] : List Value).toArray 3 from by rw [hav], lg_entry_eq]
  generalize (lg_sl ([.ref h0, .int x1, .int x2]) ++ List.replicate (3 - (lg_sl ([.ref h0, .int x1, .int x2])).length) Slot.unset).toArray = ls at hl ⊢
  have hl : lv_has ls 3 [(0, .ref h0), (1, .int x1), (2, .int x2)] := hl
  generalize hR : (headSpec (tb (.code yX3_emit cX3_emit 3 (some .int))) (rm 0)).room = R
  have hR := hR.symm
  generalize hQ : MQ below (QI E D G (fun r => True)) args s 0 0 (th_A G) = QF
  have hQ := hQ.symm
  refine lv_aload_n hx hb dX3_emit_0 rfl (lv_at hl 0 rfl) ?_
  obtain ⟨a1, a3, a5, a7, a9, a11, w13, w16, w19, w20, w23, w24, hO, hq2, hq4, hq6, hq8, hq10, hq12, ⟨k14, k15⟩, ⟨k17, k18⟩, ⟨k21, k22⟩, k25⟩ := op_7 hI hG0 List.not_mem_nil
  have hI := th_I.weak (a := h0) hI
  refine th_get hx hb hts inT3 hown hK hO rfl 9 (by decide) (hts _ (tb_c wd_138)) rfl rfl dX3_emit_1 ?_
  refine lv_aload_n hx hb dX3_emit_4 rfl (lv_at hl 0 rfl) ?_
  refine th_get hx hb hts inT3 hown hK hO rfl 2 (by decide) (hts _ (tb_c wd_131)) rfl rfl dX3_emit_5 ?_
  obtain ⟨_, hA26⟩ := op_0 hI hq6 (th_ne hG0 hq6 (show (7 : Nat) ≠ 0 by decide))
  refine va_alen hx hb hK (th_one hA26) 0 0 rfl (v := 400) rfl (show Int32.ofNat 400 = (400 : Int32) from by decide) dX3_emit_8 ?_
  refine lv_icmp_ge (tgt := 36) hx hb dX3_emit_9 (by decide) (fun c27 => ?_) (fun c27 => ?_)
  · skip
    have k28 := iv_le (X := (400)) (Y := w20.toInt) (by decide) rfl c27
    refine lv_aload_n hx hb dX3_emit_36 rfl (lv_at hl 0 rfl) ?_
    refine th_get hx hb hts inT3 hown hK hO rfl 9 (by decide) (hts _ (tb_c wd_138)) rfl rfl dX3_emit_37 ?_
    refine lv_iconst (v := 1) hx hb dX3_emit_40 (by decide) ?_
    refine lv_isub hx hb dX3_emit_41 ?_
    refine lv_topi (fun v29 e30 => ?_)
    have tv29 : v29.toInt = w20.toInt - (1) := iv_sub rfl (by decide) e30 (by omega) (by omega)
    have hI := th_I.close hI hG0 hO (ok_7 hq2 hq4 hq6 hq8 hq10 hq12 ⟨by omega, by omega⟩ ⟨by omega, by omega⟩ ⟨by omega, by omega⟩ (by omega))
    have hpost : True := trivial
    rw [hQ]
    exact W.iret (v := v29) hx hb hr (fun t ht hW => ⟨⟨v29, (), rfl, hpost, by rw [ht]; exact hI, hN.warm hW, va_K.moved hW.alike hK⟩, hS.F ht⟩) hS.2.2 dX3_emit_42
  · skip
    have k31 := iv_nle (X := (400)) (Y := w20.toInt) (by decide) rfl c27
    refine lv_aload_n hx hb dX3_emit_12 rfl (lv_at hl 0 rfl) ?_
    refine th_get hx hb hts inT3 hown hK hO rfl 2 (by decide) (hts _ (tb_c wd_131)) rfl rfl dX3_emit_13 ?_
    refine lv_aload_n hx hb dX3_emit_16 rfl (lv_at hl 0 rfl) ?_
    refine th_get hx hb hts inT3 hown hK hO rfl 9 (by decide) (hts _ (tb_c wd_138)) rfl rfl dX3_emit_17 ?_
    refine lv_iload_n hx hb dX3_emit_20 rfl (lv_at hl 1 rfl) ?_
    refine lv_iload_n hx hb dX3_emit_21 rfl (lv_at hl 2 rfl) ?_
    refine lv_iconst (v := 4) hx hb dX3_emit_22 (by decide) ?_
    refine lv_ishl hx hb dX3_emit_23 ?_
    refine lv_topi (fun v32 e33 => ?_)
    refine lv_ior hx hb dX3_emit_24 ?_
    refine lv_topi (fun v34 e35 => ?_)
    obtain ⟨_, hA36⟩ := op_0 hI hq6 (th_ne hG0 hq6 (show (7 : Nat) ≠ 0 by decide))
    refine th_iast hx hb hK hA36 0 rfl hS ⟨_, hq6⟩ (iv_in (X := w20.toInt) rfl (by omega) (by omega)) dX3_emit_25 (fun H locs hA36 oq hS => ?_)
    have hI := th_I.put hI hq6 hA36 ok_0 oq
    have hO := hO.kept (oq _ (fun z => th_ne hG0 hq6 (show (7 : Nat) ≠ 0 by decide) (List.mem_singleton.mpr z.symm)))
    refine lv_aload_n hx hb dX3_emit_26 rfl (lv_at hl 0 rfl) ?_
    refine lv_dup hx hb dX3_emit_27 rfl ?_
    refine th_get hx hb hts inT3 hown hK hO rfl 9 (by decide) (hts _ (tb_c wd_138)) rfl rfl dX3_emit_28 ?_
    refine lv_iconst (v := 1) hx hb dX3_emit_31 (by decide) ?_
    refine lv_iadd hx hb dX3_emit_32 ?_
    refine lv_topi (fun v37 e38 => ?_)
    have tv37 : v37.toInt = w20.toInt + (1) := iv_add rfl (by decide) e38 (by omega) (by omega)
    refine th_put (ty := .int) hx hb hts inT3 tyX3 tyX3_ok nmX3 hown hK hO hS ⟨_, hG0⟩ rfl 9 (by decide) (hts _ (tb_c wd_138)) rfl rfl (by decide +kernel) rfl rfl (Nat.le_of_ble_eq_true rfl) dX3_emit_33 (fun H locs hO oq hS => ?_)
    have hI := th_I.moved hI oq
    have hO : va_at D vwCl (h0, .inr (3, [.ref a1, .ref a3, .ref a5, .ref a7, .ref a9, .ref a11, .int w13, .int w16, .int w19, .int v37, .int w23, .int w24])) H := hO
    refine lv_aload_n hx hb dX3_emit_36 rfl (lv_at hl 0 rfl) ?_
    refine th_get hx hb hts inT3 hown hK hO rfl 9 (by decide) (hts _ (tb_c wd_138)) rfl rfl dX3_emit_37 ?_
    refine lv_iconst (v := 1) hx hb dX3_emit_40 (by decide) ?_
    refine lv_isub hx hb dX3_emit_41 ?_
    refine lv_topi (fun v39 e40 => ?_)
    have tv39 : v39.toInt = v37.toInt - (1) := iv_sub rfl (by decide) e40 (by omega) (by omega)
    have hI := th_I.close hI hG0 hO (ok_7 hq2 hq4 hq6 hq8 hq10 hq12 ⟨by omega, by omega⟩ ⟨by omega, by omega⟩ ⟨by omega, by omega⟩ (by omega))
    have hpost : True := trivial
    rw [hQ]
    exact W.iret (v := v39) hx hb hr (fun t ht hW => ⟨⟨v39, (), rfl, hpost, by rw [ht]; exact hI, hN.warm hW, va_K.moved hW.alike hK⟩, hS.F ht⟩) hS.2.2 dX3_emit_42
theorem dX3_aim_0g : (decode cX3_aim 0 = .ok (.iload_n 1, 1)) ∧ (decode cX3_aim 1 = .ok (.ifCond .lt 33, 3)) ∧ (decode cX3_aim 4 = .ok (.iload_n 1, 1)) ∧ (decode cX3_aim 5 = .ok (.aload_n 0, 1)) ∧ (decode cX3_aim 6 = .ok (.getfield 40, 3)) ∧ (decode cX3_aim 9 = .ok (.if_icmp .ge 25, 3)) ∧ (decode cX3_aim 12 = .ok (.aload_n 0, 1)) ∧ (decode cX3_aim 13 = .ok (.getfield 18, 3)) ∧ (decode cX3_aim 16 = .ok (.iload_n 1, 1)) ∧ (decode cX3_aim 17 = .ok (.aload_n 0, 1)) := by decide +kernel
theorem dX3_aim_0 : decode cX3_aim 0 = .ok (.iload_n 1, 1) := dX3_aim_0g.1
theorem dX3_aim_1 : decode cX3_aim 1 = .ok (.ifCond .lt 33, 3) := dX3_aim_0g.2.1
theorem dX3_aim_4 : decode cX3_aim 4 = .ok (.iload_n 1, 1) := dX3_aim_0g.2.2.1
theorem dX3_aim_5 : decode cX3_aim 5 = .ok (.aload_n 0, 1) := dX3_aim_0g.2.2.2.1
theorem dX3_aim_6 : decode cX3_aim 6 = .ok (.getfield 40, 3) := dX3_aim_0g.2.2.2.2.1
theorem dX3_aim_9 : decode cX3_aim 9 = .ok (.if_icmp .ge 25, 3) := dX3_aim_0g.2.2.2.2.2.1
theorem dX3_aim_12 : decode cX3_aim 12 = .ok (.aload_n 0, 1) := dX3_aim_0g.2.2.2.2.2.2.1
theorem dX3_aim_13 : decode cX3_aim 13 = .ok (.getfield 18, 3) := dX3_aim_0g.2.2.2.2.2.2.2.1
theorem dX3_aim_16 : decode cX3_aim 16 = .ok (.iload_n 1, 1) := dX3_aim_0g.2.2.2.2.2.2.2.2.1
theorem dX3_aim_17 : decode cX3_aim 17 = .ok (.aload_n 0, 1) := dX3_aim_0g.2.2.2.2.2.2.2.2.2
theorem dX3_aim_18g : (decode cX3_aim 18 = .ok (.getfield 18, 3)) ∧ (decode cX3_aim 21 = .ok (.iload_n 1, 1)) ∧ (decode cX3_aim 22 = .ok (.iaload, 1)) ∧ (decode cX3_aim 23 = .ok (.bipush 15, 2)) ∧ (decode cX3_aim 25 = .ok (.iand, 1)) ∧ (decode cX3_aim 26 = .ok (.aload_n 0, 1)) ∧ (decode cX3_aim 27 = .ok (.getfield 40, 3)) ∧ (decode cX3_aim 30 = .ok (.iconst 4, 1)) ∧ (decode cX3_aim 31 = .ok (.ishl, 1)) ∧ (decode cX3_aim 32 = .ok (.ior, 1)) := by decide +kernel
theorem dX3_aim_18 : decode cX3_aim 18 = .ok (.getfield 18, 3) := dX3_aim_18g.1
theorem dX3_aim_21 : decode cX3_aim 21 = .ok (.iload_n 1, 1) := dX3_aim_18g.2.1
theorem dX3_aim_22 : decode cX3_aim 22 = .ok (.iaload, 1) := dX3_aim_18g.2.2.1
theorem dX3_aim_23 : decode cX3_aim 23 = .ok (.bipush 15, 2) := dX3_aim_18g.2.2.2.1
theorem dX3_aim_25 : decode cX3_aim 25 = .ok (.iand, 1) := dX3_aim_18g.2.2.2.2.1
theorem dX3_aim_26 : decode cX3_aim 26 = .ok (.aload_n 0, 1) := dX3_aim_18g.2.2.2.2.2.1
theorem dX3_aim_27 : decode cX3_aim 27 = .ok (.getfield 40, 3) := dX3_aim_18g.2.2.2.2.2.2.1
theorem dX3_aim_30 : decode cX3_aim 30 = .ok (.iconst 4, 1) := dX3_aim_18g.2.2.2.2.2.2.2.1
theorem dX3_aim_31 : decode cX3_aim 31 = .ok (.ishl, 1) := dX3_aim_18g.2.2.2.2.2.2.2.2.1
theorem dX3_aim_32 : decode cX3_aim 32 = .ok (.ior, 1) := dX3_aim_18g.2.2.2.2.2.2.2.2.2
theorem dX3_aim_33g : (decode cX3_aim 33 = .ok (.iastore, 1)) ∧ (decode cX3_aim 34 = .ok (.return_, 1)) := by decide +kernel
theorem dX3_aim_33 : decode cX3_aim 33 = .ok (.iastore, 1) := dX3_aim_33g.1
theorem dX3_aim_34 : decode cX3_aim 34 = .ok (.return_, 1) := dX3_aim_33g.2
set_option maxHeartbeats 4000000 in
set_option maxRecDepth 100000 in
theorem c_X3_aim (l : Launch) (E : Nat → Nat) (D : va_G) (G : th_G) (h0 n : Nat) (hG0 : G h0 = some (7, n)) (x1 : Int32) : Met l yX3_aim (tb (.code yX3_aim cX3_aim 2 none)) (rm 0) (va_Pc [.ref h0, .int x1] (th_P E D G)) (QV E D G) 0 0 (th_A G) := by
  refine Met.ofW (cc := cX3_aim) (maxL := 2) (ret := none) (by decide) rfl ?_
  intro p e s m args below meth c s₁ B hml hv
  obtain ⟨hav, hI, hN, hK⟩ := hv
  have hx := B.exec
  have hb := B.bytes
  have hr := B.returns
  have hts := atoms_spec (ws := tb (.code yX3_aim cX3_aim 2 none)) B.pre
  have hown : s.vm.findClass RX3 = some m.cls := findClass_of_methodNamed B.named
  have hlocks := B.notSynchronized
  have hS : va_S (th_A G) s.heap s.heap [] := va_S.rf
  have hl := lv_entry ([.ref h0, .int x1]) (n := 2) (Nat.le_of_ble_eq_true rfl)
  rw [show entryFrame m args 2 = entryFrame m ([.ref h0, .int x1] : List Value).toArray 2 from by rw [hav], lg_entry_eq]
  generalize (lg_sl ([.ref h0, .int x1]) ++ List.replicate (2 - (lg_sl ([.ref h0, .int x1])).length) Slot.unset).toArray = ls at hl ⊢
  have hl : lv_has ls 2 [(0, .ref h0), (1, .int x1)] := hl
  generalize hR : (headSpec (tb (.code yX3_aim cX3_aim 2 none)) (rm 0)).room = R
  have hR := hR.symm
  generalize hQ : MQ below (QV E D G) args s 0 0 (th_A G) = QF
  have hQ := hQ.symm
  refine lv_iload_n hx hb dX3_aim_0 rfl (lv_at hl 1 rfl) ?_
  have k1 := iv_lo x1
  have k2 := iv_hi x1
  refine lv_if_lt (tgt := 34) hx hb dX3_aim_1 (by decide) (fun c3 => ?_) (fun c3 => ?_)
  · skip
    have k4 := iv_lt (X := x1.toInt) (Y := (0)) rfl (by decide) c3
    rw [hQ]
    exact W.vret hx hb hr (fun t ht hW => ⟨⟨(), rfl, trivial, by rw [ht]; exact hI, hN.warm hW, va_K.moved hW.alike hK⟩, hS.F ht⟩) hS.2.2 dX3_aim_34
  · skip
    have k5 := iv_nlt (X := x1.toInt) (Y := (0)) rfl (by decide) c3
    refine lv_iload_n hx hb dX3_aim_4 rfl (lv_at hl 1 rfl) ?_
    refine lv_aload_n hx hb dX3_aim_5 rfl (lv_at hl 0 rfl) ?_
    obtain ⟨a6, a8, a10, a12, a14, a16, w18, w21, w24, w25, w28, w29, hO, hq7, hq9, hq11, hq13, hq15, hq17, ⟨k19, k20⟩, ⟨k22, k23⟩, ⟨k26, k27⟩, k30⟩ := op_7 hI hG0 List.not_mem_nil
    have hI := th_I.weak (a := h0) hI
    refine th_get hx hb hts inT3 hown hK hO rfl 9 (by decide) (hts _ (tb_c wd_138)) rfl rfl dX3_aim_6 ?_
    refine lv_icmp_ge (tgt := 34) hx hb dX3_aim_9 (by decide) (fun c31 => ?_) (fun c31 => ?_)
    · skip
      have k32 := iv_le (X := w25.toInt) (Y := x1.toInt) rfl rfl c31
      have hI := th_I.close hI hG0 hO (ok_7 hq7 hq9 hq11 hq13 hq15 hq17 ⟨by omega, by omega⟩ ⟨by omega, by omega⟩ ⟨by omega, by omega⟩ (by omega))
      rw [hQ]
      exact W.vret hx hb hr (fun t ht hW => ⟨⟨(), rfl, trivial, by rw [ht]; exact hI, hN.warm hW, va_K.moved hW.alike hK⟩, hS.F ht⟩) hS.2.2 dX3_aim_34
    · skip
      have k33 := iv_nle (X := w25.toInt) (Y := x1.toInt) rfl rfl c31
      refine lv_aload_n hx hb dX3_aim_12 rfl (lv_at hl 0 rfl) ?_
      refine th_get hx hb hts inT3 hown hK hO rfl 2 (by decide) (hts _ (tb_c wd_131)) rfl rfl dX3_aim_13 ?_
      refine lv_iload_n hx hb dX3_aim_16 rfl (lv_at hl 1 rfl) ?_
      refine lv_aload_n hx hb dX3_aim_17 rfl (lv_at hl 0 rfl) ?_
      refine th_get hx hb hts inT3 hown hK hO rfl 2 (by decide) (hts _ (tb_c wd_131)) rfl rfl dX3_aim_18 ?_
      refine lv_iload_n hx hb dX3_aim_21 rfl (lv_at hl 1 rfl) ?_
      obtain ⟨_, hA34⟩ := op_0 hI hq11 (th_ne hG0 hq11 (show (7 : Nat) ≠ 0 by decide))
      refine th_iald hx hb hK hA34 0 rfl (iv_in (X := x1.toInt) rfl (by omega) (by omega)) dX3_aim_22 (fun v35 _ => ?_)
      refine lv_bipush (v := 15) hx hb dX3_aim_23 (by decide) ?_
      refine lv_iand hx hb dX3_aim_25 ?_
      refine lv_topi (fun v36 e37 => ?_)
      have tv36 := iv_andr (m := 15) (M := 15) e37 (by decide) (by decide)
      refine lv_aload_n hx hb dX3_aim_26 rfl (lv_at hl 0 rfl) ?_
      refine th_get hx hb hts inT3 hown hK hO rfl 9 (by decide) (hts _ (tb_c wd_138)) rfl rfl dX3_aim_27 ?_
      refine lv_iconst (v := 4) hx hb dX3_aim_30 (by decide) ?_
      refine lv_ishl hx hb dX3_aim_31 ?_
      refine lv_topi (fun v38 e39 => ?_)
      refine lv_ior hx hb dX3_aim_32 ?_
      refine lv_topi (fun v40 e41 => ?_)
      obtain ⟨_, hA42⟩ := op_0 hI hq11 (th_ne hG0 hq11 (show (7 : Nat) ≠ 0 by decide))
      refine th_iast hx hb hK hA42 0 rfl hS ⟨_, hq11⟩ (iv_in (X := x1.toInt) rfl (by omega) (by omega)) dX3_aim_33 (fun H locs hA42 oq hS => ?_)
      have hI := th_I.put hI hq11 hA42 ok_0 oq
      have hO := hO.kept (oq _ (fun z => th_ne hG0 hq11 (show (7 : Nat) ≠ 0 by decide) (List.mem_singleton.mpr z.symm)))
      have hI := th_I.close hI hG0 hO (ok_7 hq7 hq9 hq11 hq13 hq15 hq17 ⟨by omega, by omega⟩ ⟨by omega, by omega⟩ ⟨by omega, by omega⟩ (by omega))
      rw [hQ]
      exact W.vret hx hb hr (fun t ht hW => ⟨⟨(), rfl, trivial, by rw [ht]; exact hI, hN.warm hW, va_K.moved hW.alike hK⟩, hS.F ht⟩) hS.2.2 dX3_aim_34
theorem dX3_arithmetic_0g : (decode cX3_arithmetic 0 = .ok (.aload_n 0, 1)) ∧ (decode cX3_arithmetic 1 = .ok (.getfield 46, 3)) ∧ (decode cX3_arithmetic 4 = .ok (.tableswitch 71 37 47 #[68, 71, 71, 71, 71, 64, 60, 71, 62, 71, 66], 60)) ∧ (decode cX3_arithmetic 64 = .ok (.iconst 2, 1)) ∧ (decode cX3_arithmetic 65 = .ok (.ireturn, 1)) ∧ (decode cX3_arithmetic 66 = .ok (.iconst 3, 1)) ∧ (decode cX3_arithmetic 67 = .ok (.ireturn, 1)) ∧ (decode cX3_arithmetic 68 = .ok (.iconst 4, 1)) ∧ (decode cX3_arithmetic 69 = .ok (.ireturn, 1)) ∧ (decode cX3_arithmetic 70 = .ok (.iconst 5, 1)) := by decide +kernel
theorem dX3_arithmetic_0 : decode cX3_arithmetic 0 = .ok (.aload_n 0, 1) := dX3_arithmetic_0g.1
theorem dX3_arithmetic_1 : decode cX3_arithmetic 1 = .ok (.getfield 46, 3) := dX3_arithmetic_0g.2.1
theorem dX3_arithmetic_4 : decode cX3_arithmetic 4 = .ok (.tableswitch 71 37 47 #[68, 71, 71, 71, 71, 64, 60, 71, 62, 71, 66], 60) := dX3_arithmetic_0g.2.2.1
theorem dX3_arithmetic_64 : decode cX3_arithmetic 64 = .ok (.iconst 2, 1) := dX3_arithmetic_0g.2.2.2.1
theorem dX3_arithmetic_65 : decode cX3_arithmetic 65 = .ok (.ireturn, 1) := dX3_arithmetic_0g.2.2.2.2.1
theorem dX3_arithmetic_66 : decode cX3_arithmetic 66 = .ok (.iconst 3, 1) := dX3_arithmetic_0g.2.2.2.2.2.1
theorem dX3_arithmetic_67 : decode cX3_arithmetic 67 = .ok (.ireturn, 1) := dX3_arithmetic_0g.2.2.2.2.2.2.1
theorem dX3_arithmetic_68 : decode cX3_arithmetic 68 = .ok (.iconst 4, 1) := dX3_arithmetic_0g.2.2.2.2.2.2.2.1
theorem dX3_arithmetic_69 : decode cX3_arithmetic 69 = .ok (.ireturn, 1) := dX3_arithmetic_0g.2.2.2.2.2.2.2.2.1
theorem dX3_arithmetic_70 : decode cX3_arithmetic 70 = .ok (.iconst 5, 1) := dX3_arithmetic_0g.2.2.2.2.2.2.2.2.2
theorem dX3_arithmetic_71g : (decode cX3_arithmetic 71 = .ok (.ireturn, 1)) ∧ (decode cX3_arithmetic 72 = .ok (.bipush 6, 2)) ∧ (decode cX3_arithmetic 74 = .ok (.ireturn, 1)) ∧ (decode cX3_arithmetic 75 = .ok (.iconst (-1), 1)) ∧ (decode cX3_arithmetic 76 = .ok (.ireturn, 1)) := by decide +kernel
theorem dX3_arithmetic_71 : decode cX3_arithmetic 71 = .ok (.ireturn, 1) := dX3_arithmetic_71g.1
theorem dX3_arithmetic_72 : decode cX3_arithmetic 72 = .ok (.bipush 6, 2) := dX3_arithmetic_71g.2.1
theorem dX3_arithmetic_74 : decode cX3_arithmetic 74 = .ok (.ireturn, 1) := dX3_arithmetic_71g.2.2.1
theorem dX3_arithmetic_75 : decode cX3_arithmetic 75 = .ok (.iconst (-1), 1) := dX3_arithmetic_71g.2.2.2.1
theorem dX3_arithmetic_76 : decode cX3_arithmetic 76 = .ok (.ireturn, 1) := dX3_arithmetic_71g.2.2.2.2
set_option maxHeartbeats 4000000 in
set_option maxRecDepth 100000 in
theorem c_X3_arithmetic (l : Launch) (E : Nat → Nat) (D : va_G) (G : th_G) (h0 n : Nat) (hG0 : G h0 = some (7, n)) : Met l yX3_arithmetic (tb (.code yX3_arithmetic cX3_arithmetic 1 (some .int))) (rm 0) (va_Pc [.ref h0] (th_P E D G)) (QI E D G (fun r => True)) 0 0 (th_A G) := by
  refine Met.ofW (cc := cX3_arithmetic) (maxL := 1) (ret := (some .int)) (by decide) rfl ?_
  intro p e s m args below meth c s₁ B hml hv
  obtain ⟨hav, hI, hN, hK⟩ := hv
  have hx := B.exec
  have hb := B.bytes
  have hr := B.returns
  have hts := atoms_spec (ws := tb (.code yX3_arithmetic cX3_arithmetic 1 (some .int))) B.pre
  have hown : s.vm.findClass RX3 = some m.cls := findClass_of_methodNamed B.named
  have hlocks := B.notSynchronized
  have hS : va_S (th_A G) s.heap s.heap [] := va_S.rf
  have hl := lv_entry ([.ref h0]) (n := 1) (Nat.le_of_ble_eq_true rfl)
  rw [show entryFrame m args 1 = entryFrame m ([.ref h0] : List Value).toArray 1 from by rw [hav], lg_entry_eq]
  generalize (lg_sl ([.ref h0]) ++ List.replicate (1 - (lg_sl ([.ref h0])).length) Slot.unset).toArray = ls at hl ⊢
  have hl : lv_has ls 1 [(0, .ref h0)] := hl
  generalize hR : (headSpec (tb (.code yX3_arithmetic cX3_arithmetic 1 (some .int))) (rm 0)).room = R
  have hR := hR.symm
  generalize hQ : MQ below (QI E D G (fun r => True)) args s 0 0 (th_A G) = QF
  have hQ := hQ.symm
  refine lv_aload_n hx hb dX3_arithmetic_0 rfl (lv_at hl 0 rfl) ?_
  obtain ⟨a1, a3, a5, a7, a9, a11, w13, w16, w19, w20, w23, w24, hO, hq2, hq4, hq6, hq8, hq10, hq12, ⟨k14, k15⟩, ⟨k17, k18⟩, ⟨k21, k22⟩, k25⟩ := op_7 hI hG0 List.not_mem_nil
  have hI := th_I.weak (a := h0) hI
  refine th_get hx hb hts inT3 hown hK hO rfl 11 (by decide) (hts _ (tb_c wd_140)) rfl rfl dX3_arithmetic_1 ?_
  have k26 := iv_lo w24
  have k27 := iv_hi w24
  by_cases c28 : w24 = 37
  · skip
    have k29 := iv_eq (X := w24.toInt) (Y := 37) rfl (by decide) c28
    refine lv_tableIn (tgt := 72) (off := 68) hx hb dX3_arithmetic_4 (by omega) (by omega) (by rw [k29]; rfl) (by decide) ?_
    refine lv_bipush (v := 6) hx hb dX3_arithmetic_72 (by decide) ?_
    have hI := th_I.close hI hG0 hO (ok_7 hq2 hq4 hq6 hq8 hq10 hq12 ⟨by omega, by omega⟩ ⟨by omega, by omega⟩ ⟨by omega, by omega⟩ (by omega))
    have hpost : True := trivial
    rw [hQ]
    exact W.iret (v := 6) hx hb hr (fun t ht hW => ⟨⟨6, (), rfl, hpost, by rw [ht]; exact hI, hN.warm hW, va_K.moved hW.alike hK⟩, hS.F ht⟩) hS.2.2 dX3_arithmetic_74
  have k30 := iv_ne (X := w24.toInt) (Y := 37) rfl (by decide) c28
  by_cases c31 : w24 = 38
  · skip
    have k32 := iv_eq (X := w24.toInt) (Y := 38) rfl (by decide) c31
    refine lv_tableIn (tgt := 75) (off := 71) hx hb dX3_arithmetic_4 (by omega) (by omega) (by rw [k32]; rfl) (by decide) ?_
    refine lv_iconst (v := (-1)) hx hb dX3_arithmetic_75 (by decide) ?_
    have hI := th_I.close hI hG0 hO (ok_7 hq2 hq4 hq6 hq8 hq10 hq12 ⟨by omega, by omega⟩ ⟨by omega, by omega⟩ ⟨by omega, by omega⟩ (by omega))
    have hpost : True := trivial
    rw [hQ]
    exact W.iret (v := (-1)) hx hb hr (fun t ht hW => ⟨⟨(-1), (), rfl, hpost, by rw [ht]; exact hI, hN.warm hW, va_K.moved hW.alike hK⟩, hS.F ht⟩) hS.2.2 dX3_arithmetic_76
  have k33 := iv_ne (X := w24.toInt) (Y := 38) rfl (by decide) c31
  by_cases c34 : w24 = 39
  · skip
    have k35 := iv_eq (X := w24.toInt) (Y := 39) rfl (by decide) c34
    refine lv_tableIn (tgt := 75) (off := 71) hx hb dX3_arithmetic_4 (by omega) (by omega) (by rw [k35]; rfl) (by decide) ?_
    refine lv_iconst (v := (-1)) hx hb dX3_arithmetic_75 (by decide) ?_
    have hI := th_I.close hI hG0 hO (ok_7 hq2 hq4 hq6 hq8 hq10 hq12 ⟨by omega, by omega⟩ ⟨by omega, by omega⟩ ⟨by omega, by omega⟩ (by omega))
    have hpost : True := trivial
    rw [hQ]
    exact W.iret (v := (-1)) hx hb hr (fun t ht hW => ⟨⟨(-1), (), rfl, hpost, by rw [ht]; exact hI, hN.warm hW, va_K.moved hW.alike hK⟩, hS.F ht⟩) hS.2.2 dX3_arithmetic_76
  have k36 := iv_ne (X := w24.toInt) (Y := 39) rfl (by decide) c34
  by_cases c37 : w24 = 40
  · skip
    have k38 := iv_eq (X := w24.toInt) (Y := 40) rfl (by decide) c37
    refine lv_tableIn (tgt := 75) (off := 71) hx hb dX3_arithmetic_4 (by omega) (by omega) (by rw [k38]; rfl) (by decide) ?_
    refine lv_iconst (v := (-1)) hx hb dX3_arithmetic_75 (by decide) ?_
    have hI := th_I.close hI hG0 hO (ok_7 hq2 hq4 hq6 hq8 hq10 hq12 ⟨by omega, by omega⟩ ⟨by omega, by omega⟩ ⟨by omega, by omega⟩ (by omega))
    have hpost : True := trivial
    rw [hQ]
    exact W.iret (v := (-1)) hx hb hr (fun t ht hW => ⟨⟨(-1), (), rfl, hpost, by rw [ht]; exact hI, hN.warm hW, va_K.moved hW.alike hK⟩, hS.F ht⟩) hS.2.2 dX3_arithmetic_76
  have k39 := iv_ne (X := w24.toInt) (Y := 40) rfl (by decide) c37
  by_cases c40 : w24 = 41
  · skip
    have k41 := iv_eq (X := w24.toInt) (Y := 41) rfl (by decide) c40
    refine lv_tableIn (tgt := 75) (off := 71) hx hb dX3_arithmetic_4 (by omega) (by omega) (by rw [k41]; rfl) (by decide) ?_
    refine lv_iconst (v := (-1)) hx hb dX3_arithmetic_75 (by decide) ?_
    have hI := th_I.close hI hG0 hO (ok_7 hq2 hq4 hq6 hq8 hq10 hq12 ⟨by omega, by omega⟩ ⟨by omega, by omega⟩ ⟨by omega, by omega⟩ (by omega))
    have hpost : True := trivial
    rw [hQ]
    exact W.iret (v := (-1)) hx hb hr (fun t ht hW => ⟨⟨(-1), (), rfl, hpost, by rw [ht]; exact hI, hN.warm hW, va_K.moved hW.alike hK⟩, hS.F ht⟩) hS.2.2 dX3_arithmetic_76
  have k42 := iv_ne (X := w24.toInt) (Y := 41) rfl (by decide) c40
  by_cases c43 : w24 = 42
  · skip
    have k44 := iv_eq (X := w24.toInt) (Y := 42) rfl (by decide) c43
    refine lv_tableIn (tgt := 68) (off := 64) hx hb dX3_arithmetic_4 (by omega) (by omega) (by rw [k44]; rfl) (by decide) ?_
    refine lv_iconst (v := 4) hx hb dX3_arithmetic_68 (by decide) ?_
    have hI := th_I.close hI hG0 hO (ok_7 hq2 hq4 hq6 hq8 hq10 hq12 ⟨by omega, by omega⟩ ⟨by omega, by omega⟩ ⟨by omega, by omega⟩ (by omega))
    have hpost : True := trivial
    rw [hQ]
    exact W.iret (v := 4) hx hb hr (fun t ht hW => ⟨⟨4, (), rfl, hpost, by rw [ht]; exact hI, hN.warm hW, va_K.moved hW.alike hK⟩, hS.F ht⟩) hS.2.2 dX3_arithmetic_69
  have k45 := iv_ne (X := w24.toInt) (Y := 42) rfl (by decide) c43
  by_cases c46 : w24 = 43
  · skip
    have k47 := iv_eq (X := w24.toInt) (Y := 43) rfl (by decide) c46
    refine lv_tableIn (tgt := 64) (off := 60) hx hb dX3_arithmetic_4 (by omega) (by omega) (by rw [k47]; rfl) (by decide) ?_
    refine lv_iconst (v := 2) hx hb dX3_arithmetic_64 (by decide) ?_
    have hI := th_I.close hI hG0 hO (ok_7 hq2 hq4 hq6 hq8 hq10 hq12 ⟨by omega, by omega⟩ ⟨by omega, by omega⟩ ⟨by omega, by omega⟩ (by omega))
    have hpost : True := trivial
    rw [hQ]
    exact W.iret (v := 2) hx hb hr (fun t ht hW => ⟨⟨2, (), rfl, hpost, by rw [ht]; exact hI, hN.warm hW, va_K.moved hW.alike hK⟩, hS.F ht⟩) hS.2.2 dX3_arithmetic_65
  have k48 := iv_ne (X := w24.toInt) (Y := 43) rfl (by decide) c46
  by_cases c49 : w24 = 44
  · skip
    have k50 := iv_eq (X := w24.toInt) (Y := 44) rfl (by decide) c49
    refine lv_tableIn (tgt := 75) (off := 71) hx hb dX3_arithmetic_4 (by omega) (by omega) (by rw [k50]; rfl) (by decide) ?_
    refine lv_iconst (v := (-1)) hx hb dX3_arithmetic_75 (by decide) ?_
    have hI := th_I.close hI hG0 hO (ok_7 hq2 hq4 hq6 hq8 hq10 hq12 ⟨by omega, by omega⟩ ⟨by omega, by omega⟩ ⟨by omega, by omega⟩ (by omega))
    have hpost : True := trivial
    rw [hQ]
    exact W.iret (v := (-1)) hx hb hr (fun t ht hW => ⟨⟨(-1), (), rfl, hpost, by rw [ht]; exact hI, hN.warm hW, va_K.moved hW.alike hK⟩, hS.F ht⟩) hS.2.2 dX3_arithmetic_76
  have k51 := iv_ne (X := w24.toInt) (Y := 44) rfl (by decide) c49
  by_cases c52 : w24 = 45
  · skip
    have k53 := iv_eq (X := w24.toInt) (Y := 45) rfl (by decide) c52
    refine lv_tableIn (tgt := 66) (off := 62) hx hb dX3_arithmetic_4 (by omega) (by omega) (by rw [k53]; rfl) (by decide) ?_
    refine lv_iconst (v := 3) hx hb dX3_arithmetic_66 (by decide) ?_
    have hI := th_I.close hI hG0 hO (ok_7 hq2 hq4 hq6 hq8 hq10 hq12 ⟨by omega, by omega⟩ ⟨by omega, by omega⟩ ⟨by omega, by omega⟩ (by omega))
    have hpost : True := trivial
    rw [hQ]
    exact W.iret (v := 3) hx hb hr (fun t ht hW => ⟨⟨3, (), rfl, hpost, by rw [ht]; exact hI, hN.warm hW, va_K.moved hW.alike hK⟩, hS.F ht⟩) hS.2.2 dX3_arithmetic_67
  have k54 := iv_ne (X := w24.toInt) (Y := 45) rfl (by decide) c52
  by_cases c55 : w24 = 46
  · skip
    have k56 := iv_eq (X := w24.toInt) (Y := 46) rfl (by decide) c55
    refine lv_tableIn (tgt := 75) (off := 71) hx hb dX3_arithmetic_4 (by omega) (by omega) (by rw [k56]; rfl) (by decide) ?_
    refine lv_iconst (v := (-1)) hx hb dX3_arithmetic_75 (by decide) ?_
    have hI := th_I.close hI hG0 hO (ok_7 hq2 hq4 hq6 hq8 hq10 hq12 ⟨by omega, by omega⟩ ⟨by omega, by omega⟩ ⟨by omega, by omega⟩ (by omega))
    have hpost : True := trivial
    rw [hQ]
    exact W.iret (v := (-1)) hx hb hr (fun t ht hW => ⟨⟨(-1), (), rfl, hpost, by rw [ht]; exact hI, hN.warm hW, va_K.moved hW.alike hK⟩, hS.F ht⟩) hS.2.2 dX3_arithmetic_76
  have k57 := iv_ne (X := w24.toInt) (Y := 46) rfl (by decide) c55
  by_cases c58 : w24 = 47
  · skip
    have k59 := iv_eq (X := w24.toInt) (Y := 47) rfl (by decide) c58
    refine lv_tableIn (tgt := 70) (off := 66) hx hb dX3_arithmetic_4 (by omega) (by omega) (by rw [k59]; rfl) (by decide) ?_
    refine lv_iconst (v := 5) hx hb dX3_arithmetic_70 (by decide) ?_
    have hI := th_I.close hI hG0 hO (ok_7 hq2 hq4 hq6 hq8 hq10 hq12 ⟨by omega, by omega⟩ ⟨by omega, by omega⟩ ⟨by omega, by omega⟩ (by omega))
    have hpost : True := trivial
    rw [hQ]
    exact W.iret (v := 5) hx hb hr (fun t ht hW => ⟨⟨5, (), rfl, hpost, by rw [ht]; exact hI, hN.warm hW, va_K.moved hW.alike hK⟩, hS.F ht⟩) hS.2.2 dX3_arithmetic_71
  have k60 := iv_ne (X := w24.toInt) (Y := 47) rfl (by decide) c58
  refine lv_tableOut (tgt := 75) hx hb dX3_arithmetic_4 (by omega) (by decide) ?_
  refine lv_iconst (v := (-1)) hx hb dX3_arithmetic_75 (by decide) ?_
  have hI := th_I.close hI hG0 hO (ok_7 hq2 hq4 hq6 hq8 hq10 hq12 ⟨by omega, by omega⟩ ⟨by omega, by omega⟩ ⟨by omega, by omega⟩ (by omega))
  have hpost : True := trivial
  rw [hQ]
  exact W.iret (v := (-1)) hx hb hr (fun t ht hW => ⟨⟨(-1), (), rfl, hpost, by rw [ht]; exact hI, hN.warm hW, va_K.moved hW.alike hK⟩, hS.F ht⟩) hS.2.2 dX3_arithmetic_76
theorem dX3_isLetter_0g : (decode cX3_isLetter 0 = .ok (.iload_n 0, 1)) ∧ (decode cX3_isLetter 1 = .ok (.bipush 97, 2)) ∧ (decode cX3_isLetter 3 = .ok (.if_icmp .lt 13, 3)) ∧ (decode cX3_isLetter 6 = .ok (.iload_n 0, 1)) ∧ (decode cX3_isLetter 7 = .ok (.bipush 122, 2)) ∧ (decode cX3_isLetter 9 = .ok (.if_icmp .gt 7, 3)) ∧ (decode cX3_isLetter 12 = .ok (.iconst 1, 1)) ∧ (decode cX3_isLetter 13 = .ok (.goto 4, 3)) ∧ (decode cX3_isLetter 16 = .ok (.iconst 0, 1)) ∧ (decode cX3_isLetter 17 = .ok (.ireturn, 1)) := by decide +kernel
theorem dX3_isLetter_0 : decode cX3_isLetter 0 = .ok (.iload_n 0, 1) := dX3_isLetter_0g.1
theorem dX3_isLetter_1 : decode cX3_isLetter 1 = .ok (.bipush 97, 2) := dX3_isLetter_0g.2.1
theorem dX3_isLetter_3 : decode cX3_isLetter 3 = .ok (.if_icmp .lt 13, 3) := dX3_isLetter_0g.2.2.1
theorem dX3_isLetter_6 : decode cX3_isLetter 6 = .ok (.iload_n 0, 1) := dX3_isLetter_0g.2.2.2.1
theorem dX3_isLetter_7 : decode cX3_isLetter 7 = .ok (.bipush 122, 2) := dX3_isLetter_0g.2.2.2.2.1
theorem dX3_isLetter_9 : decode cX3_isLetter 9 = .ok (.if_icmp .gt 7, 3) := dX3_isLetter_0g.2.2.2.2.2.1
theorem dX3_isLetter_12 : decode cX3_isLetter 12 = .ok (.iconst 1, 1) := dX3_isLetter_0g.2.2.2.2.2.2.1
theorem dX3_isLetter_13 : decode cX3_isLetter 13 = .ok (.goto 4, 3) := dX3_isLetter_0g.2.2.2.2.2.2.2.1
theorem dX3_isLetter_16 : decode cX3_isLetter 16 = .ok (.iconst 0, 1) := dX3_isLetter_0g.2.2.2.2.2.2.2.2.1
theorem dX3_isLetter_17 : decode cX3_isLetter 17 = .ok (.ireturn, 1) := dX3_isLetter_0g.2.2.2.2.2.2.2.2.2
set_option maxHeartbeats 4000000 in
set_option maxRecDepth 100000 in
theorem c_X3_isLetter (l : Launch) (H0 : Heap) (x0 : Int32) : Met l yX3_isLetter (tb (.code yX3_isLetter cX3_isLetter 1 (some .boolean))) (rm 0) (va_Pc [.int x0] (PS H0)) (QS H0 (fun r => ((r : Int32) = 1 ∧ rg x0 97 122) ∨ ((r : Int32) = 0 ∧ ¬ rg x0 97 122))) 0 0 (fun _ => False) := by
  refine Met.ofW (cc := cX3_isLetter) (maxL := 1) (ret := (some .boolean)) (by decide) rfl ?_
  intro p e s m args below meth c s₁ B hml hv
  obtain ⟨hav, rfl, hN⟩ := hv
  have hx := B.exec
  have hb := B.bytes
  have hr := B.returns
  have hts := atoms_spec (ws := tb (.code yX3_isLetter cX3_isLetter 1 (some .boolean))) B.pre
  have hown : s.vm.findClass RX3 = some m.cls := findClass_of_methodNamed B.named
  have hlocks := B.notSynchronized
  have hS : va_S (fun _ => False) s.heap s.heap [] := va_S.rf
  have hl := lv_entry ([.int x0]) (n := 1) (Nat.le_of_ble_eq_true rfl)
  rw [show entryFrame m args 1 = entryFrame m ([.int x0] : List Value).toArray 1 from by rw [hav], lg_entry_eq]
  generalize (lg_sl ([.int x0]) ++ List.replicate (1 - (lg_sl ([.int x0])).length) Slot.unset).toArray = ls at hl ⊢
  have hl : lv_has ls 1 [(0, .int x0)] := hl
  generalize hR : (headSpec (tb (.code yX3_isLetter cX3_isLetter 1 (some .boolean))) (rm 0)).room = R
  have hR := hR.symm
  generalize hQ : MQ below (QS s.heap (fun r => ((r : Int32) = 1 ∧ rg x0 97 122) ∨ ((r : Int32) = 0 ∧ ¬ rg x0 97 122))) args s 0 0 (fun _ => False) = QF
  have hQ := hQ.symm
  refine lv_iload_n hx hb dX3_isLetter_0 rfl (lv_at hl 0 rfl) ?_
  refine lv_bipush (v := 97) hx hb dX3_isLetter_1 (by decide) ?_
  have k1 := iv_lo x0
  have k2 := iv_hi x0
  refine lv_icmp_lt (tgt := 16) hx hb dX3_isLetter_3 (by decide) (fun c3 => ?_) (fun c3 => ?_)
  · skip
    have k4 := iv_lt (X := x0.toInt) (Y := (97)) rfl (by decide) c3
    refine lv_iconst (v := 0) hx hb dX3_isLetter_16 (by decide) ?_
    have hpost : ((0 : Int32) = 1 ∧ rg x0 97 122) ∨ ((0 : Int32) = 0 ∧ ¬ rg x0 97 122) := by first | exact Or.inl ⟨rfl, by simp only [rg]; omega⟩ | exact Or.inr ⟨rfl, by simp only [rg]; omega⟩
    rw [hQ]
    exact W.zret (v := 0) hx hb hr (by decide) (fun t ht hW => ⟨⟨0, (), rfl, hpost, ht⟩, hS.F ht⟩) hS.2.2 dX3_isLetter_17
  · skip
    have k5 := iv_nlt (X := x0.toInt) (Y := (97)) rfl (by decide) c3
    refine lv_iload_n hx hb dX3_isLetter_6 rfl (lv_at hl 0 rfl) ?_
    refine lv_bipush (v := 122) hx hb dX3_isLetter_7 (by decide) ?_
    refine lv_icmp_gt (tgt := 16) hx hb dX3_isLetter_9 (by decide) (fun c6 => ?_) (fun c6 => ?_)
    · skip
      have k7 := iv_lt (X := (122)) (Y := x0.toInt) (by decide) rfl c6
      refine lv_iconst (v := 0) hx hb dX3_isLetter_16 (by decide) ?_
      have hpost : ((0 : Int32) = 1 ∧ rg x0 97 122) ∨ ((0 : Int32) = 0 ∧ ¬ rg x0 97 122) := by first | exact Or.inl ⟨rfl, by simp only [rg]; omega⟩ | exact Or.inr ⟨rfl, by simp only [rg]; omega⟩
      rw [hQ]
      exact W.zret (v := 0) hx hb hr (by decide) (fun t ht hW => ⟨⟨0, (), rfl, hpost, ht⟩, hS.F ht⟩) hS.2.2 dX3_isLetter_17
    · skip
      have k8 := iv_nlt (X := (122)) (Y := x0.toInt) (by decide) rfl c6
      refine lv_iconst (v := 1) hx hb dX3_isLetter_12 (by decide) ?_
      refine lv_goto (tgt := 17) hx hb dX3_isLetter_13 (by decide) ?_
      have hpost : ((1 : Int32) = 1 ∧ rg x0 97 122) ∨ ((1 : Int32) = 0 ∧ ¬ rg x0 97 122) := by first | exact Or.inl ⟨rfl, by simp only [rg]; omega⟩ | exact Or.inr ⟨rfl, by simp only [rg]; omega⟩
      rw [hQ]
      exact W.zret (v := 1) hx hb hr (by decide) (fun t ht hW => ⟨⟨1, (), rfl, hpost, ht⟩, hS.F ht⟩) hS.2.2 dX3_isLetter_17
theorem dX3_isDigit_0g : (decode cX3_isDigit 0 = .ok (.iload_n 0, 1)) ∧ (decode cX3_isDigit 1 = .ok (.bipush 48, 2)) ∧ (decode cX3_isDigit 3 = .ok (.if_icmp .lt 13, 3)) ∧ (decode cX3_isDigit 6 = .ok (.iload_n 0, 1)) ∧ (decode cX3_isDigit 7 = .ok (.bipush 57, 2)) ∧ (decode cX3_isDigit 9 = .ok (.if_icmp .gt 7, 3)) ∧ (decode cX3_isDigit 12 = .ok (.iconst 1, 1)) ∧ (decode cX3_isDigit 13 = .ok (.goto 4, 3)) ∧ (decode cX3_isDigit 16 = .ok (.iconst 0, 1)) ∧ (decode cX3_isDigit 17 = .ok (.ireturn, 1)) := by decide +kernel
theorem dX3_isDigit_0 : decode cX3_isDigit 0 = .ok (.iload_n 0, 1) := dX3_isDigit_0g.1
theorem dX3_isDigit_1 : decode cX3_isDigit 1 = .ok (.bipush 48, 2) := dX3_isDigit_0g.2.1
theorem dX3_isDigit_3 : decode cX3_isDigit 3 = .ok (.if_icmp .lt 13, 3) := dX3_isDigit_0g.2.2.1
theorem dX3_isDigit_6 : decode cX3_isDigit 6 = .ok (.iload_n 0, 1) := dX3_isDigit_0g.2.2.2.1
theorem dX3_isDigit_7 : decode cX3_isDigit 7 = .ok (.bipush 57, 2) := dX3_isDigit_0g.2.2.2.2.1
theorem dX3_isDigit_9 : decode cX3_isDigit 9 = .ok (.if_icmp .gt 7, 3) := dX3_isDigit_0g.2.2.2.2.2.1
theorem dX3_isDigit_12 : decode cX3_isDigit 12 = .ok (.iconst 1, 1) := dX3_isDigit_0g.2.2.2.2.2.2.1
theorem dX3_isDigit_13 : decode cX3_isDigit 13 = .ok (.goto 4, 3) := dX3_isDigit_0g.2.2.2.2.2.2.2.1
theorem dX3_isDigit_16 : decode cX3_isDigit 16 = .ok (.iconst 0, 1) := dX3_isDigit_0g.2.2.2.2.2.2.2.2.1
theorem dX3_isDigit_17 : decode cX3_isDigit 17 = .ok (.ireturn, 1) := dX3_isDigit_0g.2.2.2.2.2.2.2.2.2
set_option maxHeartbeats 4000000 in
set_option maxRecDepth 100000 in
theorem c_X3_isDigit (l : Launch) (H0 : Heap) (x0 : Int32) : Met l yX3_isDigit (tb (.code yX3_isDigit cX3_isDigit 1 (some .boolean))) (rm 0) (va_Pc [.int x0] (PS H0)) (QS H0 (fun r => ((r : Int32) = 1 ∧ rg x0 48 57) ∨ ((r : Int32) = 0 ∧ ¬ rg x0 48 57))) 0 0 (fun _ => False) := by
  refine Met.ofW (cc := cX3_isDigit) (maxL := 1) (ret := (some .boolean)) (by decide) rfl ?_
  intro p e s m args below meth c s₁ B hml hv
  obtain ⟨hav, rfl, hN⟩ := hv
  have hx := B.exec
  have hb := B.bytes
  have hr := B.returns
  have hts := atoms_spec (ws := tb (.code yX3_isDigit cX3_isDigit 1 (some .boolean))) B.pre
  have hown : s.vm.findClass RX3 = some m.cls := findClass_of_methodNamed B.named
  have hlocks := B.notSynchronized
  have hS : va_S (fun _ => False) s.heap s.heap [] := va_S.rf
  have hl := lv_entry ([.int x0]) (n := 1) (Nat.le_of_ble_eq_true rfl)
  rw [show entryFrame m args 1 = entryFrame m ([.int x0] : List Value).toArray 1 from by rw [hav], lg_entry_eq]
  generalize (lg_sl ([.int x0]) ++ List.replicate (1 - (lg_sl ([.int x0])).length) Slot.unset).toArray = ls at hl ⊢
  have hl : lv_has ls 1 [(0, .int x0)] := hl
  generalize hR : (headSpec (tb (.code yX3_isDigit cX3_isDigit 1 (some .boolean))) (rm 0)).room = R
  have hR := hR.symm
  generalize hQ : MQ below (QS s.heap (fun r => ((r : Int32) = 1 ∧ rg x0 48 57) ∨ ((r : Int32) = 0 ∧ ¬ rg x0 48 57))) args s 0 0 (fun _ => False) = QF
  have hQ := hQ.symm
  refine lv_iload_n hx hb dX3_isDigit_0 rfl (lv_at hl 0 rfl) ?_
  refine lv_bipush (v := 48) hx hb dX3_isDigit_1 (by decide) ?_
  have k1 := iv_lo x0
  have k2 := iv_hi x0
  refine lv_icmp_lt (tgt := 16) hx hb dX3_isDigit_3 (by decide) (fun c3 => ?_) (fun c3 => ?_)
  · skip
    have k4 := iv_lt (X := x0.toInt) (Y := (48)) rfl (by decide) c3
    refine lv_iconst (v := 0) hx hb dX3_isDigit_16 (by decide) ?_
    have hpost : ((0 : Int32) = 1 ∧ rg x0 48 57) ∨ ((0 : Int32) = 0 ∧ ¬ rg x0 48 57) := by first | exact Or.inl ⟨rfl, by simp only [rg]; omega⟩ | exact Or.inr ⟨rfl, by simp only [rg]; omega⟩
    rw [hQ]
    exact W.zret (v := 0) hx hb hr (by decide) (fun t ht hW => ⟨⟨0, (), rfl, hpost, ht⟩, hS.F ht⟩) hS.2.2 dX3_isDigit_17
  · skip
    have k5 := iv_nlt (X := x0.toInt) (Y := (48)) rfl (by decide) c3
    refine lv_iload_n hx hb dX3_isDigit_6 rfl (lv_at hl 0 rfl) ?_
    refine lv_bipush (v := 57) hx hb dX3_isDigit_7 (by decide) ?_
    refine lv_icmp_gt (tgt := 16) hx hb dX3_isDigit_9 (by decide) (fun c6 => ?_) (fun c6 => ?_)
    · skip
      have k7 := iv_lt (X := (57)) (Y := x0.toInt) (by decide) rfl c6
      refine lv_iconst (v := 0) hx hb dX3_isDigit_16 (by decide) ?_
      have hpost : ((0 : Int32) = 1 ∧ rg x0 48 57) ∨ ((0 : Int32) = 0 ∧ ¬ rg x0 48 57) := by first | exact Or.inl ⟨rfl, by simp only [rg]; omega⟩ | exact Or.inr ⟨rfl, by simp only [rg]; omega⟩
      rw [hQ]
      exact W.zret (v := 0) hx hb hr (by decide) (fun t ht hW => ⟨⟨0, (), rfl, hpost, ht⟩, hS.F ht⟩) hS.2.2 dX3_isDigit_17
    · skip
      have k8 := iv_nlt (X := (57)) (Y := x0.toInt) (by decide) rfl c6
      refine lv_iconst (v := 1) hx hb dX3_isDigit_12 (by decide) ?_
      refine lv_goto (tgt := 17) hx hb dX3_isDigit_13 (by decide) ?_
      have hpost : ((1 : Int32) = 1 ∧ rg x0 48 57) ∨ ((1 : Int32) = 0 ∧ ¬ rg x0 48 57) := by first | exact Or.inl ⟨rfl, by simp only [rg]; omega⟩ | exact Or.inr ⟨rfl, by simp only [rg]; omega⟩
      rw [hQ]
      exact W.zret (v := 1) hx hb hr (by decide) (fun t ht hW => ⟨⟨1, (), rfl, hpost, ht⟩, hS.F ht⟩) hS.2.2 dX3_isDigit_17
theorem dX3_sum_0g : (decode cX3_sum 0 = .ok (.iconst (-1), 1)) ∧ (decode cX3_sum 1 = .ok (.istore_n 2, 1)) ∧ (decode cX3_sum 2 = .ok (.aload_n 0, 1)) ∧ (decode cX3_sum 3 = .ok (.iload_n 1, 1)) ∧ (decode cX3_sum 4 = .ok (.invokevirtual 115, 3)) ∧ (decode cX3_sum 7 = .ok (.istore_n 3, 1)) ∧ (decode cX3_sum 8 = .ok (.aload_n 0, 1)) ∧ (decode cX3_sum 9 = .ok (.invokevirtual 118, 3)) ∧ (decode cX3_sum 12 = .ok (.istore 4, 2)) ∧ (decode cX3_sum 14 = .ok (.iconst 0, 1)) := by decide +kernel
theorem dX3_sum_0 : decode cX3_sum 0 = .ok (.iconst (-1), 1) := dX3_sum_0g.1
theorem dX3_sum_1 : decode cX3_sum 1 = .ok (.istore_n 2, 1) := dX3_sum_0g.2.1
theorem dX3_sum_2 : decode cX3_sum 2 = .ok (.aload_n 0, 1) := dX3_sum_0g.2.2.1
theorem dX3_sum_3 : decode cX3_sum 3 = .ok (.iload_n 1, 1) := dX3_sum_0g.2.2.2.1
theorem dX3_sum_4 : decode cX3_sum 4 = .ok (.invokevirtual 115, 3) := dX3_sum_0g.2.2.2.2.1
theorem dX3_sum_7 : decode cX3_sum 7 = .ok (.istore_n 3, 1) := dX3_sum_0g.2.2.2.2.2.1
theorem dX3_sum_8 : decode cX3_sum 8 = .ok (.aload_n 0, 1) := dX3_sum_0g.2.2.2.2.2.2.1
theorem dX3_sum_9 : decode cX3_sum 9 = .ok (.invokevirtual 118, 3) := dX3_sum_0g.2.2.2.2.2.2.2.1
theorem dX3_sum_12 : decode cX3_sum 12 = .ok (.istore 4, 2) := dX3_sum_0g.2.2.2.2.2.2.2.2.1
theorem dX3_sum_14 : decode cX3_sum 14 = .ok (.iconst 0, 1) := dX3_sum_0g.2.2.2.2.2.2.2.2.2
theorem dX3_sum_15g : (decode cX3_sum 15 = .ok (.istore 5, 2)) ∧ (decode cX3_sum 17 = .ok (.iload 5, 2)) ∧ (decode cX3_sum 19 = .ok (.sipush 400, 3)) ∧ (decode cX3_sum 22 = .ok (.if_icmp .ge 96, 3)) ∧ (decode cX3_sum 25 = .ok (.iload_n 3, 1)) ∧ (decode cX3_sum 26 = .ok (.ifCond .eq 92, 3)) ∧ (decode cX3_sum 29 = .ok (.iload 4, 2)) ∧ (decode cX3_sum 31 = .ok (.iconst (-1), 1)) ∧ (decode cX3_sum 32 = .ok (.if_icmp .eq 86, 3)) ∧ (decode cX3_sum 35 = .ok (.iload 4, 2)) := by decide +kernel
theorem dX3_sum_15 : decode cX3_sum 15 = .ok (.istore 5, 2) := dX3_sum_15g.1
theorem dX3_sum_17 : decode cX3_sum 17 = .ok (.iload 5, 2) := dX3_sum_15g.2.1
theorem dX3_sum_19 : decode cX3_sum 19 = .ok (.sipush 400, 3) := dX3_sum_15g.2.2.1
theorem dX3_sum_22 : decode cX3_sum 22 = .ok (.if_icmp .ge 96, 3) := dX3_sum_15g.2.2.2.1
theorem dX3_sum_25 : decode cX3_sum 25 = .ok (.iload_n 3, 1) := dX3_sum_15g.2.2.2.2.1
theorem dX3_sum_26 : decode cX3_sum 26 = .ok (.ifCond .eq 92, 3) := dX3_sum_15g.2.2.2.2.2.1
theorem dX3_sum_29 : decode cX3_sum 29 = .ok (.iload 4, 2) := dX3_sum_15g.2.2.2.2.2.2.1
theorem dX3_sum_31 : decode cX3_sum 31 = .ok (.iconst (-1), 1) := dX3_sum_15g.2.2.2.2.2.2.2.1
theorem dX3_sum_32 : decode cX3_sum 32 = .ok (.if_icmp .eq 86, 3) := dX3_sum_15g.2.2.2.2.2.2.2.2.1
theorem dX3_sum_35 : decode cX3_sum 35 = .ok (.iload 4, 2) := dX3_sum_15g.2.2.2.2.2.2.2.2.2
theorem dX3_sum_37g : (decode cX3_sum 37 = .ok (.iconst 2, 1)) ∧ (decode cX3_sum 38 = .ok (.if_icmp .eq 9, 3)) ∧ (decode cX3_sum 41 = .ok (.iload 4, 2)) ∧ (decode cX3_sum 43 = .ok (.iconst 3, 1)) ∧ (decode cX3_sum 44 = .ok (.if_icmp .ne 7, 3)) ∧ (decode cX3_sum 47 = .ok (.iconst 1, 1)) ∧ (decode cX3_sum 48 = .ok (.goto 4, 3)) ∧ (decode cX3_sum 51 = .ok (.iconst 0, 1)) ∧ (decode cX3_sum 52 = .ok (.istore 6, 2)) ∧ (decode cX3_sum 54 = .ok (.iload 6, 2)) := by decide +kernel
theorem dX3_sum_37 : decode cX3_sum 37 = .ok (.iconst 2, 1) := dX3_sum_37g.1
theorem dX3_sum_38 : decode cX3_sum 38 = .ok (.if_icmp .eq 9, 3) := dX3_sum_37g.2.1
theorem dX3_sum_41 : decode cX3_sum 41 = .ok (.iload 4, 2) := dX3_sum_37g.2.2.1
theorem dX3_sum_43 : decode cX3_sum 43 = .ok (.iconst 3, 1) := dX3_sum_37g.2.2.2.1
theorem dX3_sum_44 : decode cX3_sum 44 = .ok (.if_icmp .ne 7, 3) := dX3_sum_37g.2.2.2.2.1
theorem dX3_sum_47 : decode cX3_sum 47 = .ok (.iconst 1, 1) := dX3_sum_37g.2.2.2.2.2.1
theorem dX3_sum_48 : decode cX3_sum 48 = .ok (.goto 4, 3) := dX3_sum_37g.2.2.2.2.2.2.1
theorem dX3_sum_51 : decode cX3_sum 51 = .ok (.iconst 0, 1) := dX3_sum_37g.2.2.2.2.2.2.2.1
theorem dX3_sum_52 : decode cX3_sum 52 = .ok (.istore 6, 2) := dX3_sum_37g.2.2.2.2.2.2.2.2.1
theorem dX3_sum_54 : decode cX3_sum 54 = .ok (.iload 6, 2) := dX3_sum_37g.2.2.2.2.2.2.2.2.2
theorem dX3_sum_56g : (decode cX3_sum 56 = .ok (.ifCond .eq 15, 3)) ∧ (decode cX3_sum 59 = .ok (.iload_n 2, 1)) ∧ (decode cX3_sum 60 = .ok (.iconst (-1), 1)) ∧ (decode cX3_sum 61 = .ok (.if_icmp .eq 10, 3)) ∧ (decode cX3_sum 64 = .ok (.aload_n 0, 1)) ∧ (decode cX3_sum 65 = .ok (.iload_n 2, 1)) ∧ (decode cX3_sum 66 = .ok (.iconst 0, 1)) ∧ (decode cX3_sum 67 = .ok (.invokevirtual 109, 3)) ∧ (decode cX3_sum 70 = .ok (.pop, 1)) ∧ (decode cX3_sum 71 = .ok (.aload_n 0, 1)) := by decide +kernel
theorem dX3_sum_56 : decode cX3_sum 56 = .ok (.ifCond .eq 15, 3) := dX3_sum_56g.1
theorem dX3_sum_59 : decode cX3_sum 59 = .ok (.iload_n 2, 1) := dX3_sum_56g.2.1
theorem dX3_sum_60 : decode cX3_sum 60 = .ok (.iconst (-1), 1) := dX3_sum_56g.2.2.1
theorem dX3_sum_61 : decode cX3_sum 61 = .ok (.if_icmp .eq 10, 3) := dX3_sum_56g.2.2.2.1
theorem dX3_sum_64 : decode cX3_sum 64 = .ok (.aload_n 0, 1) := dX3_sum_56g.2.2.2.2.1
theorem dX3_sum_65 : decode cX3_sum 65 = .ok (.iload_n 2, 1) := dX3_sum_56g.2.2.2.2.2.1
theorem dX3_sum_66 : decode cX3_sum 66 = .ok (.iconst 0, 1) := dX3_sum_56g.2.2.2.2.2.2.1
theorem dX3_sum_67 : decode cX3_sum 67 = .ok (.invokevirtual 109, 3) := dX3_sum_56g.2.2.2.2.2.2.2.1
theorem dX3_sum_70 : decode cX3_sum 70 = .ok (.pop, 1) := dX3_sum_56g.2.2.2.2.2.2.2.2.1
theorem dX3_sum_71 : decode cX3_sum 71 = .ok (.aload_n 0, 1) := dX3_sum_56g.2.2.2.2.2.2.2.2.2
theorem dX3_sum_72g : (decode cX3_sum 72 = .ok (.aload_n 0, 1)) ∧ (decode cX3_sum 73 = .ok (.getfield 43, 3)) ∧ (decode cX3_sum 76 = .ok (.iconst 1, 1)) ∧ (decode cX3_sum 77 = .ok (.iadd, 1)) ∧ (decode cX3_sum 78 = .ok (.invokevirtual 66, 3)) ∧ (decode cX3_sum 81 = .ok (.aload_n 0, 1)) ∧ (decode cX3_sum 82 = .ok (.iload_n 1, 1)) ∧ (decode cX3_sum 83 = .ok (.invokevirtual 115, 3)) ∧ (decode cX3_sum 86 = .ok (.istore_n 3, 1)) ∧ (decode cX3_sum 87 = .ok (.iload 6, 2)) := by decide +kernel
theorem dX3_sum_72 : decode cX3_sum 72 = .ok (.aload_n 0, 1) := dX3_sum_72g.1
theorem dX3_sum_73 : decode cX3_sum 73 = .ok (.getfield 43, 3) := dX3_sum_72g.2.1
theorem dX3_sum_76 : decode cX3_sum 76 = .ok (.iconst 1, 1) := dX3_sum_72g.2.2.1
theorem dX3_sum_77 : decode cX3_sum 77 = .ok (.iadd, 1) := dX3_sum_72g.2.2.2.1
theorem dX3_sum_78 : decode cX3_sum 78 = .ok (.invokevirtual 66, 3) := dX3_sum_72g.2.2.2.2.1
theorem dX3_sum_81 : decode cX3_sum 81 = .ok (.aload_n 0, 1) := dX3_sum_72g.2.2.2.2.2.1
theorem dX3_sum_82 : decode cX3_sum 82 = .ok (.iload_n 1, 1) := dX3_sum_72g.2.2.2.2.2.2.1
theorem dX3_sum_83 : decode cX3_sum 83 = .ok (.invokevirtual 115, 3) := dX3_sum_72g.2.2.2.2.2.2.2.1
theorem dX3_sum_86 : decode cX3_sum 86 = .ok (.istore_n 3, 1) := dX3_sum_72g.2.2.2.2.2.2.2.2.1
theorem dX3_sum_87 : decode cX3_sum 87 = .ok (.iload 6, 2) := dX3_sum_72g.2.2.2.2.2.2.2.2.2
theorem dX3_sum_89g : (decode cX3_sum 89 = .ok (.ifCond .eq 9, 3)) ∧ (decode cX3_sum 92 = .ok (.iload 4, 2)) ∧ (decode cX3_sum 94 = .ok (.istore_n 2, 1)) ∧ (decode cX3_sum 95 = .ok (.goto 11, 3)) ∧ (decode cX3_sum 98 = .ok (.aload_n 0, 1)) ∧ (decode cX3_sum 99 = .ok (.iload 4, 2)) ∧ (decode cX3_sum 101 = .ok (.iconst 0, 1)) ∧ (decode cX3_sum 102 = .ok (.invokevirtual 109, 3)) ∧ (decode cX3_sum 105 = .ok (.pop, 1)) ∧ (decode cX3_sum 106 = .ok (.aload_n 0, 1)) := by decide +kernel
theorem dX3_sum_89 : decode cX3_sum 89 = .ok (.ifCond .eq 9, 3) := dX3_sum_89g.1
theorem dX3_sum_92 : decode cX3_sum 92 = .ok (.iload 4, 2) := dX3_sum_89g.2.1
theorem dX3_sum_94 : decode cX3_sum 94 = .ok (.istore_n 2, 1) := dX3_sum_89g.2.2.1
theorem dX3_sum_95 : decode cX3_sum 95 = .ok (.goto 11, 3) := dX3_sum_89g.2.2.2.1
theorem dX3_sum_98 : decode cX3_sum 98 = .ok (.aload_n 0, 1) := dX3_sum_89g.2.2.2.2.1
theorem dX3_sum_99 : decode cX3_sum 99 = .ok (.iload 4, 2) := dX3_sum_89g.2.2.2.2.2.1
theorem dX3_sum_101 : decode cX3_sum 101 = .ok (.iconst 0, 1) := dX3_sum_89g.2.2.2.2.2.2.1
theorem dX3_sum_102 : decode cX3_sum 102 = .ok (.invokevirtual 109, 3) := dX3_sum_89g.2.2.2.2.2.2.2.1
theorem dX3_sum_105 : decode cX3_sum 105 = .ok (.pop, 1) := dX3_sum_89g.2.2.2.2.2.2.2.2.1
theorem dX3_sum_106 : decode cX3_sum 106 = .ok (.aload_n 0, 1) := dX3_sum_89g.2.2.2.2.2.2.2.2.2
theorem dX3_sum_107g : (decode cX3_sum 107 = .ok (.invokevirtual 118, 3)) ∧ (decode cX3_sum 110 = .ok (.istore 4, 2)) ∧ (decode cX3_sum 112 = .ok (.iinc 5 1, 3)) ∧ (decode cX3_sum 115 = .ok (.goto (-98), 3)) ∧ (decode cX3_sum 118 = .ok (.iload_n 2, 1)) ∧ (decode cX3_sum 119 = .ok (.iconst (-1), 1)) ∧ (decode cX3_sum 120 = .ok (.if_icmp .eq 10, 3)) ∧ (decode cX3_sum 123 = .ok (.aload_n 0, 1)) ∧ (decode cX3_sum 124 = .ok (.iload_n 2, 1)) ∧ (decode cX3_sum 125 = .ok (.iconst 0, 1)) := by decide +kernel
theorem dX3_sum_107 : decode cX3_sum 107 = .ok (.invokevirtual 118, 3) := dX3_sum_107g.1
theorem dX3_sum_110 : decode cX3_sum 110 = .ok (.istore 4, 2) := dX3_sum_107g.2.1
theorem dX3_sum_112 : decode cX3_sum 112 = .ok (.iinc 5 1, 3) := dX3_sum_107g.2.2.1
theorem dX3_sum_115 : decode cX3_sum 115 = .ok (.goto (-98), 3) := dX3_sum_107g.2.2.2.1
theorem dX3_sum_118 : decode cX3_sum 118 = .ok (.iload_n 2, 1) := dX3_sum_107g.2.2.2.2.1
theorem dX3_sum_119 : decode cX3_sum 119 = .ok (.iconst (-1), 1) := dX3_sum_107g.2.2.2.2.2.1
theorem dX3_sum_120 : decode cX3_sum 120 = .ok (.if_icmp .eq 10, 3) := dX3_sum_107g.2.2.2.2.2.2.1
theorem dX3_sum_123 : decode cX3_sum 123 = .ok (.aload_n 0, 1) := dX3_sum_107g.2.2.2.2.2.2.2.1
theorem dX3_sum_124 : decode cX3_sum 124 = .ok (.iload_n 2, 1) := dX3_sum_107g.2.2.2.2.2.2.2.2.1
theorem dX3_sum_125 : decode cX3_sum 125 = .ok (.iconst 0, 1) := dX3_sum_107g.2.2.2.2.2.2.2.2.2
theorem dX3_sum_126g : (decode cX3_sum 126 = .ok (.invokevirtual 109, 3)) ∧ (decode cX3_sum 129 = .ok (.pop, 1)) ∧ (decode cX3_sum 130 = .ok (.iload_n 3, 1)) ∧ (decode cX3_sum 131 = .ok (.ireturn, 1)) := by decide +kernel
theorem dX3_sum_126 : decode cX3_sum 126 = .ok (.invokevirtual 109, 3) := dX3_sum_126g.1
theorem dX3_sum_129 : decode cX3_sum 129 = .ok (.pop, 1) := dX3_sum_126g.2.1
theorem dX3_sum_130 : decode cX3_sum 130 = .ok (.iload_n 3, 1) := dX3_sum_126g.2.2.1
theorem dX3_sum_131 : decode cX3_sum 131 = .ok (.ireturn, 1) := dX3_sum_126g.2.2.2
set_option maxHeartbeats 4000000 in
set_option maxRecDepth 100000 in
theorem c_X3_sum (l : Launch) (E : Nat → Nat) (D : va_G) (G : th_G) (k : Nat) (h0 n : Nat) (hG0 : G h0 = some (7, n)) (x1 : Int32) (hx1 : (0 : Int) ≤ x1.toInt) (hk : (8 : Int) - x1.toInt ≤ (k : Int)) (hpart : ∀ (h0 n : Nat) (hG0 : G h0 = some (7, n)) (x1 : Int32) (_ : (0 : Int) ≤ x1.toInt) (_ : (8 : Int) - x1.toInt ≤ (k : Int)), Met l yX3_part (tb (.code yX3_part cX3_part 4 (some .boolean))) (rm (2 + 2 * k)) (va_Pc [.ref h0, .int x1] (th_P E D G)) (QI E D G (fun r => 0 ≤ (r : Int32).toInt ∧ (r : Int32).toInt ≤ 1)) 0 0 (th_A G)) : Met l yX3_sum (tb (.code yX3_sum cX3_sum 7 (some .boolean))) (rm (3 + 2 * k)) (va_Pc [.ref h0, .int x1] (th_P E D G)) (QI E D G (fun r => 0 ≤ (r : Int32).toInt ∧ (r : Int32).toInt ≤ 1)) 0 0 (th_A G) := by
  refine Met.ofW (cc := cX3_sum) (maxL := 7) (ret := (some .boolean)) (by decide) rfl ?_
  intro p e s m args below meth c s₁ B hml hv
  obtain ⟨hav, hI, hN, hK⟩ := hv
  have hx := B.exec
  have hb := B.bytes
  have hr := B.returns
  have hts := atoms_spec (ws := tb (.code yX3_sum cX3_sum 7 (some .boolean))) B.pre
  have hown : s.vm.findClass RX3 = some m.cls := findClass_of_methodNamed B.named
  have hlocks := B.notSynchronized
  have hS : va_S (th_A G) s.heap s.heap [] := va_S.rf
  have hl := lv_entry ([.ref h0, .int x1]) (n := 7) (Nat.le_of_ble_eq_true rfl)
  rw [show entryFrame m args 7 = entryFrame m ([.ref h0, .int x1] : List Value).toArray 7 from by rw [hav], lg_entry_eq]
  generalize (lg_sl ([.ref h0, .int x1]) ++ List.replicate (7 - (lg_sl ([.ref h0, .int x1])).length) Slot.unset).toArray = ls at hl ⊢
  have hl : lv_has ls 7 [(0, .ref h0), (1, .int x1)] := hl
  generalize hR : (headSpec (tb (.code yX3_sum cX3_sum 7 (some .boolean))) (rm (3 + 2 * k))).room = R
  have hR := hR.symm
  generalize hQ : MQ below (QI E D G (fun r => 0 ≤ (r : Int32).toInt ∧ (r : Int32).toInt ≤ 1)) args s 0 0 (th_A G) = QF
  have hQ := hQ.symm
  have J_118 : ∀ (H : Heap) (locs : List Loc) (ls : Array Slot) (v8890 : Int32) (v8891 : Int32) (v8892 : Int32) (v8893 : Int32), lv_has ls 7 [(5, .int v8890), (4, .int v8891), (3, .int v8892), (2, .int v8893), (0, .ref h0), (1, .int x1)] → ((0 : Int) ≤ v8890.toInt ∧ v8890.toInt ≤ 401) → ((0 : Int) ≤ v8892.toInt ∧ v8892.toInt ≤ 1) → ((0 : Int) ≤ x1.toInt) → th_I (okC E) D G [] H → va_S (th_A G) s.heap H locs → W p l e R s m args below meth c H locs 0 0 QF (F0 m 118 ls []) := by
    intro H locs ls v8890 v8891 v8892 v8893 hl k8894 k8895 k8896 hI hS
    refine lv_iload_n hx hb dX3_sum_118 rfl (lv_at hl 3 rfl) ?_
    refine lv_iconst (v := (-1)) hx hb dX3_sum_119 (by decide) ?_
    have k8897 := iv_lo v8893
    have k8898 := iv_hi v8893
    refine lv_icmp_eq (tgt := 130) hx hb dX3_sum_120 (by decide) (fun c8899 => ?_) (fun c8899 => ?_)
    · skip
      have k8900 := iv_eq (X := v8893.toInt) (Y := (-1)) rfl (by decide) c8899
      refine lv_iload_n hx hb dX3_sum_130 rfl (lv_at hl 2 rfl) ?_
      have hpost : 0 ≤ (v8892 : Int32).toInt ∧ (v8892 : Int32).toInt ≤ 1 := by first | decide | omega
      rw [hQ]
      exact W.zret (v := v8892) hx hb hr (th_zn (by omega)) (fun t ht hW => ⟨⟨v8892, (), rfl, hpost, by rw [ht]; exact hI, hN.warm hW, va_K.moved hW.alike hK⟩, hS.F ht⟩) hS.2.2 dX3_sum_131
    · skip
      have k8901 := iv_ne (X := v8893.toInt) (Y := (-1)) rfl (by decide) c8899
      refine lv_aload_n hx hb dX3_sum_123 rfl (lv_at hl 4 rfl) ?_
      refine lv_iload_n hx hb dX3_sum_124 rfl (lv_at hl 3 rfl) ?_
      refine lv_iconst (v := 0) hx hb dX3_sum_125 (by decide) ?_
      refine th_cVi (As := [.int v8893, .int 0]) (rest := []) (n := 2) (d := 0) ⟨hx, hb, hml, hown, hts⟩ (c_X3_emit l E D G h0 (n) hG0 v8893 0) wd_723 wd_725 wp_17 wd_5 wd_726 (by decide +kernel) ⟨by rw [hR]; show 0 + 1 ≤ 3 + 2 * k; omega, by rw [hR]; show 8 + (3 + 11) + 40 * (0) ≤ 40 * (3 + 2 * k); omega⟩ hI hN hK hS (rc_7 hI hG0 List.not_mem_nil) rfl rfl hl.1 rfl (Nat.le_of_ble_eq_true rfl) dX3_sum_126 ⟨Nat.zero_le _, Nat.zero_le _⟩ (fun r8902 H locs hp hI hS => ?_)
      refine lv_pop hx hb dX3_sum_129 rfl ?_
      refine lv_iload_n hx hb dX3_sum_130 rfl (lv_at hl 2 rfl) ?_
      have hpost : 0 ≤ (v8892 : Int32).toInt ∧ (v8892 : Int32).toInt ≤ 1 := by first | decide | omega
      rw [hQ]
      exact W.zret (v := v8892) hx hb hr (th_zn (by omega)) (fun t ht hW => ⟨⟨v8892, (), rfl, hpost, by rw [ht]; exact hI, hN.warm hW, va_K.moved hW.alike hK⟩, hS.F ht⟩) hS.2.2 dX3_sum_131
  have J_17 : ∀ (nn : Nat) (H : Heap) (locs : List Loc) (ls : Array Slot) (v8903 : Int32) (v8904 : Int32) (v8905 : Int32) (v8906 : Int32), (Int.toNat (401 - v8903.toInt) = nn) → lv_has ls 7 [(5, .int v8903), (4, .int v8904), (3, .int v8905), (2, .int v8906), (0, .ref h0), (1, .int x1)] → ((0 : Int) ≤ v8903.toInt ∧ v8903.toInt ≤ 401) → ((0 : Int) ≤ v8905.toInt ∧ v8905.toInt ≤ 1) → ((0 : Int) ≤ x1.toInt) → th_I (okC E) D G [] H → va_S (th_A G) s.heap H locs → W p l e R s m args below meth c H locs 0 0 QF (F0 m 17 ls []) := by
    intro nn
    induction nn using Nat.strongRecOn with
    | ind nn ih_17 =>
      intro H locs ls v8903 v8904 v8905 v8906 hm hl k8907 k8908 k8909 hI hS
      have J_106 : ∀ (H : Heap) (locs : List Loc) (ls : Array Slot) (v8910 : Int32) (v8911 : Int32) (v8914 : Int32), lv_has ls 7 [(3, .int v8910), (6, .int v8911), (5, .int v8903), (4, .int v8904), (2, .int v8914), (0, .ref h0), (1, .int x1)] → ((0 : Int) ≤ v8910.toInt ∧ v8910.toInt ≤ 1) → ((0 : Int) ≤ v8911.toInt ∧ v8911.toInt ≤ 1) → ((0 : Int) ≤ v8903.toInt ∧ v8903.toInt ≤ 400) → th_I (okC E) D G [] H → va_S (th_A G) s.heap H locs → W p l e R s m args below meth c H locs 0 0 QF (F0 m 106 ls []) := by
        intro H locs ls v8910 v8911 v8914 hl k8915 k8916 k8917 hI hS
        refine lv_aload_n hx hb dX3_sum_106 rfl (lv_at hl 5 rfl) ?_
        refine th_cVi (As := []) (rest := []) (n := 0) (d := 0) ⟨hx, hb, hml, hown, hts⟩ (c_X3_arithmetic l E D G h0 (n) hG0 ) wd_727 wd_729 wp_18 wd_5 wd_730 (by decide +kernel) ⟨by rw [hR]; show 0 + 1 ≤ 3 + 2 * k; omega, by rw [hR]; show 8 + (1 + 11) + 40 * (0) ≤ 40 * (3 + 2 * k); omega⟩ hI hN hK hS (rc_7 hI hG0 List.not_mem_nil) rfl rfl hl.1 rfl (Nat.le_of_ble_eq_true rfl) dX3_sum_107 ⟨Nat.zero_le _, Nat.zero_le _⟩ (fun r8918 H locs hp hI hS => ?_)
        refine lv_istore (lv' := [(4, .int r8918), (3, .int v8910), (6, .int v8911), (5, .int v8903), (2, .int v8914), (0, .ref h0), (1, .int x1)]) hx hb dX3_sum_110 hl (by decide) rfl (fun ls hl => ?_)
        obtain ⟨v8919, e8920⟩ : ∃ y : Int32, y = v8903 + (1) := ⟨_, rfl⟩
        have tv8919 : v8919.toInt = v8903.toInt + (1) := iv_add rfl (by decide) e8920 (by omega) (by omega)
        refine lv_iinc (v := v8919) (lv' := [(5, .int v8919), (4, .int r8918), (3, .int v8910), (6, .int v8911), (2, .int v8914), (0, .ref h0), (1, .int x1)]) hx hb dX3_sum_112 hl (k := 3) rfl (by rw [e8920]; rfl) (by decide) rfl (fun ls hl => ?_)
        refine lv_goto (tgt := 17) hx hb dX3_sum_115 (by decide) ?_
        exact ih_17 _ (by omega) H locs ls v8919 r8918 v8910 v8914 rfl (lv_sub hl [0, 1, 2, 4, 5, 6] rfl) ⟨by omega, by omega⟩ ⟨by omega, by omega⟩ (by omega) hI hS
      have J_71 : ∀ (H : Heap) (locs : List Loc) (ls : Array Slot) (v8921 : Int32), lv_has ls 7 [(6, .int v8921), (5, .int v8903), (4, .int v8904), (3, .int v8905), (2, .int v8906), (0, .ref h0), (1, .int x1)] → ((0 : Int) ≤ v8921.toInt ∧ v8921.toInt ≤ 1) → ((0 : Int) ≤ v8903.toInt ∧ v8903.toInt ≤ 399) → ((1 : Int) ≤ v8905.toInt ∧ v8905.toInt ≤ 1) → th_I (okC E) D G [] H → va_S (th_A G) s.heap H locs → W p l e R s m args below meth c H locs 0 0 QF (F0 m 71 ls []) := by
        intro H locs ls v8921 hl k8926 k8927 k8928 hI hS
        refine lv_aload_n hx hb dX3_sum_71 rfl (lv_at hl 5 rfl) ?_
        refine lv_aload_n hx hb dX3_sum_72 rfl (lv_at hl 5 rfl) ?_
        obtain ⟨a8929, a8931, a8933, a8935, a8937, a8939, w8941, w8944, w8947, w8948, w8951, w8952, hO, hq8930, hq8932, hq8934, hq8936, hq8938, hq8940, ⟨k8942, k8943⟩, ⟨k8945, k8946⟩, ⟨k8949, k8950⟩, k8953⟩ := op_7 hI hG0 List.not_mem_nil
        have hI := th_I.weak (a := h0) hI
        refine th_get hx hb hts inT3 hown hK hO rfl 10 (by decide) (hts _ (tb_c wd_139)) rfl rfl dX3_sum_73 ?_
        refine lv_iconst (v := 1) hx hb dX3_sum_76 (by decide) ?_
        refine lv_iadd hx hb dX3_sum_77 ?_
        refine lv_topi (fun v8954 e8955 => ?_)
        try have tv8954 : v8954.toInt = w8951.toInt + (1) := iv_add rfl (by decide) e8955 (by omega) (by omega)
        have hI := th_I.close hI hG0 hO (ok_7 hq8930 hq8932 hq8934 hq8936 hq8938 hq8940 ⟨by omega, by omega⟩ ⟨by omega, by omega⟩ ⟨by omega, by omega⟩ (by omega))
        refine th_cVv (As := [.int v8954]) (rest := []) (n := 1) (d := 0) ⟨hx, hb, hml, hown, hts⟩ (c_X3_moveTo l E D G h0 (n) hG0 v8954) wd_707 wd_709 wp_13 wd_5 wd_710 (by decide +kernel) ⟨by rw [hR]; show 0 + 1 ≤ 3 + 2 * k; omega, by rw [hR]; show 8 + (2 + 11) + 40 * (0) ≤ 40 * (3 + 2 * k); omega⟩ hI hN hK hS (rc_7 hI hG0 List.not_mem_nil) rfl rfl hl.1 rfl (Nat.le_of_ble_eq_true rfl) dX3_sum_78 ⟨Nat.zero_le _, Nat.zero_le _⟩ (fun H locs hI hS => ?_)
        refine lv_aload_n hx hb dX3_sum_81 rfl (lv_at hl 5 rfl) ?_
        refine lv_iload_n hx hb dX3_sum_82 rfl (lv_at hl 6 rfl) ?_
        refine th_cVi (As := [.int x1]) (rest := []) (n := 1) (d := (2 + 2 * k)) ⟨hx, hb, hml, hown, hts⟩ (hpart h0 n hG0 x1 (by omega) (by omega)) wd_719 wd_721 wp_16 wd_5 wd_722 (by decide +kernel) ⟨by rw [hR]; show (2 + 2 * k) + 1 ≤ 3 + 2 * k; omega, by rw [hR]; show 8 + (4 + 11) + 40 * ((2 + 2 * k)) ≤ 40 * (3 + 2 * k); omega⟩ hI hN hK hS (rc_7 hI hG0 List.not_mem_nil) rfl rfl hl.1 rfl (Nat.le_of_ble_eq_true rfl) dX3_sum_83 ⟨Nat.zero_le _, Nat.zero_le _⟩ (fun r8957 H locs hp hI hS => ?_)
        have hp8958 := hp
        refine lv_istore_n (lv' := [(3, .int r8957), (6, .int v8921), (5, .int v8903), (4, .int v8904), (2, .int v8906), (0, .ref h0), (1, .int x1)]) hx hb dX3_sum_86 rfl hl (by decide) rfl (fun ls hl => ?_)
        refine lv_iload hx hb dX3_sum_87 (lv_at hl 1 rfl) ?_
        refine lv_if_eq (tgt := 98) hx hb dX3_sum_89 (by decide) (fun c8959 => ?_) (fun c8959 => ?_)
        · skip
          have k8960 := iv_eq (X := v8921.toInt) (Y := (0)) rfl (by decide) c8959
          refine lv_aload_n hx hb dX3_sum_98 rfl (lv_at hl 5 rfl) ?_
          refine lv_iload hx hb dX3_sum_99 (lv_at hl 3 rfl) ?_
          refine lv_iconst (v := 0) hx hb dX3_sum_101 (by decide) ?_
          refine th_cVi (As := [.int v8904, .int 0]) (rest := []) (n := 2) (d := 0) ⟨hx, hb, hml, hown, hts⟩ (c_X3_emit l E D G h0 (n) hG0 v8904 0) wd_723 wd_725 wp_17 wd_5 wd_726 (by decide +kernel) ⟨by rw [hR]; show 0 + 1 ≤ 3 + 2 * k; omega, by rw [hR]; show 8 + (3 + 11) + 40 * (0) ≤ 40 * (3 + 2 * k); omega⟩ hI hN hK hS (rc_7 hI hG0 List.not_mem_nil) rfl rfl hl.1 rfl (Nat.le_of_ble_eq_true rfl) dX3_sum_102 ⟨Nat.zero_le _, Nat.zero_le _⟩ (fun r8961 H locs hp hI hS => ?_)
          refine lv_pop hx hb dX3_sum_105 rfl ?_
          exact J_106 H locs ls r8957 v8921 v8906 (lv_sub hl [0, 1, 2, 3, 4, 5, 6] rfl) ⟨by omega, by omega⟩ ⟨by omega, by omega⟩ ⟨by omega, by omega⟩ hI hS
        · skip
          have k8962 := iv_ne (X := v8921.toInt) (Y := (0)) rfl (by decide) c8959
          refine lv_iload hx hb dX3_sum_92 (lv_at hl 3 rfl) ?_
          refine lv_istore_n (lv' := [(2, .int v8904), (3, .int r8957), (6, .int v8921), (5, .int v8903), (4, .int v8904), (0, .ref h0), (1, .int x1)]) hx hb dX3_sum_94 rfl hl (by decide) rfl (fun ls hl => ?_)
          refine lv_goto (tgt := 106) hx hb dX3_sum_95 (by decide) ?_
          exact J_106 H locs ls r8957 v8921 v8904 (lv_sub hl [1, 2, 3, 4, 0, 5, 6] rfl) ⟨by omega, by omega⟩ ⟨by omega, by omega⟩ ⟨by omega, by omega⟩ hI hS
      have J_52 : ∀ (H : Heap) (locs : List Loc) (ls : Array Slot) (v8967 : Int32), lv_has ls 7 [(5, .int v8903), (4, .int v8904), (3, .int v8905), (2, .int v8906), (0, .ref h0), (1, .int x1)] → ((0 : Int) ≤ v8903.toInt ∧ v8903.toInt ≤ 399) → ((1 : Int) ≤ v8905.toInt ∧ v8905.toInt ≤ 1) → ((0 : Int) ≤ v8967.toInt ∧ v8967.toInt ≤ 1) → th_I (okC E) D G [] H → va_S (th_A G) s.heap H locs → W p l e R s m args below meth c H locs 0 0 QF (F0 m 52 ls [.int v8967]) := by
        intro H locs ls v8967 hl k8968 k8969 k8970 hI hS
        refine lv_istore (lv' := [(6, .int v8967), (5, .int v8903), (4, .int v8904), (3, .int v8905), (2, .int v8906), (0, .ref h0), (1, .int x1)]) hx hb dX3_sum_52 hl (by decide) rfl (fun ls hl => ?_)
        refine lv_iload hx hb dX3_sum_54 (lv_at hl 0 rfl) ?_
        refine lv_if_eq (tgt := 71) hx hb dX3_sum_56 (by decide) (fun c8971 => ?_) (fun c8971 => ?_)
        · skip
          have k8972 := iv_eq (X := v8967.toInt) (Y := (0)) rfl (by decide) c8971
          exact J_71 H locs ls v8967 (lv_sub hl [0, 1, 2, 3, 4, 5, 6] rfl) ⟨by omega, by omega⟩ ⟨by omega, by omega⟩ ⟨by omega, by omega⟩ hI hS
        · skip
          have k8973 := iv_ne (X := v8967.toInt) (Y := (0)) rfl (by decide) c8971
          refine lv_iload_n hx hb dX3_sum_59 rfl (lv_at hl 4 rfl) ?_
          refine lv_iconst (v := (-1)) hx hb dX3_sum_60 (by decide) ?_
          have k8974 := iv_lo v8906
          have k8975 := iv_hi v8906
          refine lv_icmp_eq (tgt := 71) hx hb dX3_sum_61 (by decide) (fun c8976 => ?_) (fun c8976 => ?_)
          · skip
            have k8977 := iv_eq (X := v8906.toInt) (Y := (-1)) rfl (by decide) c8976
            exact J_71 H locs ls v8967 (lv_sub hl [0, 1, 2, 3, 4, 5, 6] rfl) ⟨by omega, by omega⟩ ⟨by omega, by omega⟩ ⟨by omega, by omega⟩ hI hS
          · skip
            have k8978 := iv_ne (X := v8906.toInt) (Y := (-1)) rfl (by decide) c8976
            refine lv_aload_n hx hb dX3_sum_64 rfl (lv_at hl 5 rfl) ?_
            refine lv_iload_n hx hb dX3_sum_65 rfl (lv_at hl 4 rfl) ?_
            refine lv_iconst (v := 0) hx hb dX3_sum_66 (by decide) ?_
            refine th_cVi (As := [.int v8906, .int 0]) (rest := []) (n := 2) (d := 0) ⟨hx, hb, hml, hown, hts⟩ (c_X3_emit l E D G h0 (n) hG0 v8906 0) wd_723 wd_725 wp_17 wd_5 wd_726 (by decide +kernel) ⟨by rw [hR]; show 0 + 1 ≤ 3 + 2 * k; omega, by rw [hR]; show 8 + (3 + 11) + 40 * (0) ≤ 40 * (3 + 2 * k); omega⟩ hI hN hK hS (rc_7 hI hG0 List.not_mem_nil) rfl rfl hl.1 rfl (Nat.le_of_ble_eq_true rfl) dX3_sum_67 ⟨Nat.zero_le _, Nat.zero_le _⟩ (fun r8979 H locs hp hI hS => ?_)
            refine lv_pop hx hb dX3_sum_70 rfl ?_
            exact J_71 H locs ls v8967 (lv_sub hl [0, 1, 2, 3, 4, 5, 6] rfl) ⟨by omega, by omega⟩ ⟨by omega, by omega⟩ ⟨by omega, by omega⟩ hI hS
      have J_47 : ∀ (H : Heap) (locs : List Loc) (ls : Array Slot) , lv_has ls 7 [(5, .int v8903), (4, .int v8904), (3, .int v8905), (2, .int v8906), (0, .ref h0), (1, .int x1)] → ((0 : Int) ≤ v8903.toInt ∧ v8903.toInt ≤ 399) → ((2 : Int) ≤ v8904.toInt ∧ v8904.toInt ≤ 3) → ((1 : Int) ≤ v8905.toInt ∧ v8905.toInt ≤ 1) → th_I (okC E) D G [] H → va_S (th_A G) s.heap H locs → W p l e R s m args below meth c H locs 0 0 QF (F0 m 47 ls []) := by
        intro H locs ls  hl k8984 k8985 k8986 hI hS
        refine lv_iconst (v := 1) hx hb dX3_sum_47 (by decide) ?_
        refine lv_goto (tgt := 52) hx hb dX3_sum_48 (by decide) ?_
        exact J_52 H locs ls 1 (lv_sub hl [0, 1, 2, 3, 4, 5] rfl) ⟨by omega, by omega⟩ ⟨by omega, by omega⟩ ⟨by decide, by decide⟩ hI hS
      refine lv_iload hx hb dX3_sum_17 (lv_at hl 0 rfl) ?_
      refine lv_sipush (v := 400) hx hb dX3_sum_19 (by decide) ?_
      refine lv_icmp_ge (tgt := 118) hx hb dX3_sum_22 (by decide) (fun c8987 => ?_) (fun c8987 => ?_)
      · skip
        have k8988 := iv_le (X := (400)) (Y := v8903.toInt) (by decide) rfl c8987
        exact J_118 H locs ls v8903 v8904 v8905 v8906 (lv_sub hl [0, 1, 2, 3, 4, 5] rfl) ⟨by omega, by omega⟩ ⟨by omega, by omega⟩ (by omega) hI hS
      · skip
        have k8989 := iv_nle (X := (400)) (Y := v8903.toInt) (by decide) rfl c8987
        refine lv_iload_n hx hb dX3_sum_25 rfl (lv_at hl 2 rfl) ?_
        refine lv_if_eq (tgt := 118) hx hb dX3_sum_26 (by decide) (fun c8990 => ?_) (fun c8990 => ?_)
        · skip
          have k8991 := iv_eq (X := v8905.toInt) (Y := (0)) rfl (by decide) c8990
          exact J_118 H locs ls v8903 v8904 v8905 v8906 (lv_sub hl [0, 1, 2, 3, 4, 5] rfl) ⟨by omega, by omega⟩ ⟨by omega, by omega⟩ (by omega) hI hS
        · skip
          have k8992 := iv_ne (X := v8905.toInt) (Y := (0)) rfl (by decide) c8990
          refine lv_iload hx hb dX3_sum_29 (lv_at hl 1 rfl) ?_
          refine lv_iconst (v := (-1)) hx hb dX3_sum_31 (by decide) ?_
          have k8993 := iv_lo v8904
          have k8994 := iv_hi v8904
          refine lv_icmp_eq (tgt := 118) hx hb dX3_sum_32 (by decide) (fun c8995 => ?_) (fun c8995 => ?_)
          · skip
            have k8996 := iv_eq (X := v8904.toInt) (Y := (-1)) rfl (by decide) c8995
            exact J_118 H locs ls v8903 v8904 v8905 v8906 (lv_sub hl [0, 1, 2, 3, 4, 5] rfl) ⟨by omega, by omega⟩ ⟨by omega, by omega⟩ (by omega) hI hS
          · skip
            have k8997 := iv_ne (X := v8904.toInt) (Y := (-1)) rfl (by decide) c8995
            refine lv_iload hx hb dX3_sum_35 (lv_at hl 1 rfl) ?_
            refine lv_iconst (v := 2) hx hb dX3_sum_37 (by decide) ?_
            refine lv_icmp_eq (tgt := 47) hx hb dX3_sum_38 (by decide) (fun c8998 => ?_) (fun c8998 => ?_)
            · skip
              have k8999 := iv_eq (X := v8904.toInt) (Y := (2)) rfl (by decide) c8998
              exact J_47 H locs ls  (lv_sub hl [0, 1, 2, 3, 4, 5] rfl) ⟨by omega, by omega⟩ ⟨by omega, by omega⟩ ⟨by omega, by omega⟩ hI hS
            · skip
              have k9000 := iv_ne (X := v8904.toInt) (Y := (2)) rfl (by decide) c8998
              refine lv_iload hx hb dX3_sum_41 (lv_at hl 1 rfl) ?_
              refine lv_iconst (v := 3) hx hb dX3_sum_43 (by decide) ?_
              refine lv_icmp_ne (tgt := 51) hx hb dX3_sum_44 (by decide) (fun c9001 => ?_) (fun c9001 => ?_)
              · skip
                have k9002 := iv_ne (X := v8904.toInt) (Y := (3)) rfl (by decide) c9001
                refine lv_iconst (v := 0) hx hb dX3_sum_51 (by decide) ?_
                exact J_52 H locs ls 0 (lv_sub hl [0, 1, 2, 3, 4, 5] rfl) ⟨by omega, by omega⟩ ⟨by omega, by omega⟩ ⟨by decide, by decide⟩ hI hS
              · skip
                have k9003 := iv_eq (X := v8904.toInt) (Y := (3)) rfl (by decide) c9001
                exact J_47 H locs ls  (lv_sub hl [0, 1, 2, 3, 4, 5] rfl) ⟨by omega, by omega⟩ ⟨by omega, by omega⟩ ⟨by omega, by omega⟩ hI hS
  refine lv_iconst (v := (-1)) hx hb dX3_sum_0 (by decide) ?_
  refine lv_istore_n (lv' := [(2, .int (-1)), (0, .ref h0), (1, .int x1)]) hx hb dX3_sum_1 rfl hl (by decide) rfl (fun ls hl => ?_)
  refine lv_aload_n hx hb dX3_sum_2 rfl (lv_at hl 1 rfl) ?_
  refine lv_iload_n hx hb dX3_sum_3 rfl (lv_at hl 2 rfl) ?_
  refine th_cVi (As := [.int x1]) (rest := []) (n := 1) (d := (2 + 2 * k)) ⟨hx, hb, hml, hown, hts⟩ (hpart h0 n hG0 x1 (by omega) (by omega)) wd_719 wd_721 wp_16 wd_5 wd_722 (by decide +kernel) ⟨by rw [hR]; show (2 + 2 * k) + 1 ≤ 3 + 2 * k; omega, by rw [hR]; show 8 + (4 + 11) + 40 * ((2 + 2 * k)) ≤ 40 * (3 + 2 * k); omega⟩ hI hN hK hS (rc_7 hI hG0 List.not_mem_nil) rfl rfl hl.1 rfl (Nat.le_of_ble_eq_true rfl) dX3_sum_4 ⟨Nat.zero_le _, Nat.zero_le _⟩ (fun r9004 H locs hp hI hS => ?_)
  have hp9005 := hp
  refine lv_istore_n (lv' := [(3, .int r9004), (2, .int (-1)), (0, .ref h0), (1, .int x1)]) hx hb dX3_sum_7 rfl hl (by decide) rfl (fun ls hl => ?_)
  refine lv_aload_n hx hb dX3_sum_8 rfl (lv_at hl 2 rfl) ?_
  refine th_cVi (As := []) (rest := []) (n := 0) (d := 0) ⟨hx, hb, hml, hown, hts⟩ (c_X3_arithmetic l E D G h0 (n) hG0 ) wd_727 wd_729 wp_18 wd_5 wd_730 (by decide +kernel) ⟨by rw [hR]; show 0 + 1 ≤ 3 + 2 * k; omega, by rw [hR]; show 8 + (1 + 11) + 40 * (0) ≤ 40 * (3 + 2 * k); omega⟩ hI hN hK hS (rc_7 hI hG0 List.not_mem_nil) rfl rfl hl.1 rfl (Nat.le_of_ble_eq_true rfl) dX3_sum_9 ⟨Nat.zero_le _, Nat.zero_le _⟩ (fun r9006 H locs hp hI hS => ?_)
  refine lv_istore (lv' := [(4, .int r9006), (3, .int r9004), (2, .int (-1)), (0, .ref h0), (1, .int x1)]) hx hb dX3_sum_12 hl (by decide) rfl (fun ls hl => ?_)
  refine lv_iconst (v := 0) hx hb dX3_sum_14 (by decide) ?_
  refine lv_istore (lv' := [(5, .int 0), (4, .int r9006), (3, .int r9004), (2, .int (-1)), (0, .ref h0), (1, .int x1)]) hx hb dX3_sum_15 hl (by decide) rfl (fun ls hl => ?_)
  have zl : (0 : Int32).toInt = 0 := by decide
  exact J_17 _ H locs ls 0 r9006 r9004 (-1) rfl (lv_sub hl [0, 1, 2, 3, 4, 5] rfl) ⟨by decide, by decide⟩ ⟨by omega, by omega⟩ (by omega) hI hS
theorem dX3_part_0g : (decode cX3_part 0 = .ok (.aload_n 0, 1)) ∧ (decode cX3_part 1 = .ok (.getfield 46, 3)) ∧ (decode cX3_part 4 = .ok (.bipush 91, 2)) ∧ (decode cX3_part 6 = .ok (.if_icmp .ne 69, 3)) ∧ (decode cX3_part 9 = .ok (.iload_n 1, 1)) ∧ (decode cX3_part 10 = .ok (.bipush 8, 2)) ∧ (decode cX3_part 12 = .ok (.if_icmp .lt 5, 3)) ∧ (decode cX3_part 15 = .ok (.iconst 0, 1)) ∧ (decode cX3_part 16 = .ok (.ireturn, 1)) ∧ (decode cX3_part 17 = .ok (.aload_n 0, 1)) := by decide +kernel
theorem dX3_part_0 : decode cX3_part 0 = .ok (.aload_n 0, 1) := dX3_part_0g.1
theorem dX3_part_1 : decode cX3_part 1 = .ok (.getfield 46, 3) := dX3_part_0g.2.1
theorem dX3_part_4 : decode cX3_part 4 = .ok (.bipush 91, 2) := dX3_part_0g.2.2.1
theorem dX3_part_6 : decode cX3_part 6 = .ok (.if_icmp .ne 69, 3) := dX3_part_0g.2.2.2.1
theorem dX3_part_9 : decode cX3_part 9 = .ok (.iload_n 1, 1) := dX3_part_0g.2.2.2.2.1
theorem dX3_part_10 : decode cX3_part 10 = .ok (.bipush 8, 2) := dX3_part_0g.2.2.2.2.2.1
theorem dX3_part_12 : decode cX3_part 12 = .ok (.if_icmp .lt 5, 3) := dX3_part_0g.2.2.2.2.2.2.1
theorem dX3_part_15 : decode cX3_part 15 = .ok (.iconst 0, 1) := dX3_part_0g.2.2.2.2.2.2.2.1
theorem dX3_part_16 : decode cX3_part 16 = .ok (.ireturn, 1) := dX3_part_0g.2.2.2.2.2.2.2.2.1
theorem dX3_part_17 : decode cX3_part 17 = .ok (.aload_n 0, 1) := dX3_part_0g.2.2.2.2.2.2.2.2.2
theorem dX3_part_18g : (decode cX3_part 18 = .ok (.aload_n 0, 1)) ∧ (decode cX3_part 19 = .ok (.getfield 43, 3)) ∧ (decode cX3_part 22 = .ok (.iconst 1, 1)) ∧ (decode cX3_part 23 = .ok (.iadd, 1)) ∧ (decode cX3_part 24 = .ok (.invokevirtual 66, 3)) ∧ (decode cX3_part 27 = .ok (.aload_n 0, 1)) ∧ (decode cX3_part 28 = .ok (.iload_n 1, 1)) ∧ (decode cX3_part 29 = .ok (.iconst 1, 1)) ∧ (decode cX3_part 30 = .ok (.iadd, 1)) ∧ (decode cX3_part 31 = .ok (.invokevirtual 97, 3)) := by decide +kernel
theorem dX3_part_18 : decode cX3_part 18 = .ok (.aload_n 0, 1) := dX3_part_18g.1
theorem dX3_part_19 : decode cX3_part 19 = .ok (.getfield 43, 3) := dX3_part_18g.2.1
theorem dX3_part_22 : decode cX3_part 22 = .ok (.iconst 1, 1) := dX3_part_18g.2.2.1
theorem dX3_part_23 : decode cX3_part 23 = .ok (.iadd, 1) := dX3_part_18g.2.2.2.1
theorem dX3_part_24 : decode cX3_part 24 = .ok (.invokevirtual 66, 3) := dX3_part_18g.2.2.2.2.1
theorem dX3_part_27 : decode cX3_part 27 = .ok (.aload_n 0, 1) := dX3_part_18g.2.2.2.2.2.1
theorem dX3_part_28 : decode cX3_part 28 = .ok (.iload_n 1, 1) := dX3_part_18g.2.2.2.2.2.2.1
theorem dX3_part_29 : decode cX3_part 29 = .ok (.iconst 1, 1) := dX3_part_18g.2.2.2.2.2.2.2.1
theorem dX3_part_30 : decode cX3_part 30 = .ok (.iadd, 1) := dX3_part_18g.2.2.2.2.2.2.2.2.1
theorem dX3_part_31 : decode cX3_part 31 = .ok (.invokevirtual 97, 3) := dX3_part_18g.2.2.2.2.2.2.2.2.2
theorem dX3_part_34g : (decode cX3_part 34 = .ok (.ifCond .eq 16, 3)) ∧ (decode cX3_part 37 = .ok (.aload_n 0, 1)) ∧ (decode cX3_part 38 = .ok (.getfield 46, 3)) ∧ (decode cX3_part 41 = .ok (.bipush 93, 2)) ∧ (decode cX3_part 43 = .ok (.if_icmp .ne 7, 3)) ∧ (decode cX3_part 46 = .ok (.iconst 1, 1)) ∧ (decode cX3_part 47 = .ok (.goto 4, 3)) ∧ (decode cX3_part 50 = .ok (.iconst 0, 1)) ∧ (decode cX3_part 51 = .ok (.istore_n 2, 1)) ∧ (decode cX3_part 52 = .ok (.aload_n 0, 1)) := by decide +kernel
theorem dX3_part_34 : decode cX3_part 34 = .ok (.ifCond .eq 16, 3) := dX3_part_34g.1
theorem dX3_part_37 : decode cX3_part 37 = .ok (.aload_n 0, 1) := dX3_part_34g.2.1
theorem dX3_part_38 : decode cX3_part 38 = .ok (.getfield 46, 3) := dX3_part_34g.2.2.1
theorem dX3_part_41 : decode cX3_part 41 = .ok (.bipush 93, 2) := dX3_part_34g.2.2.2.1
theorem dX3_part_43 : decode cX3_part 43 = .ok (.if_icmp .ne 7, 3) := dX3_part_34g.2.2.2.2.1
theorem dX3_part_46 : decode cX3_part 46 = .ok (.iconst 1, 1) := dX3_part_34g.2.2.2.2.2.1
theorem dX3_part_47 : decode cX3_part 47 = .ok (.goto 4, 3) := dX3_part_34g.2.2.2.2.2.2.1
theorem dX3_part_50 : decode cX3_part 50 = .ok (.iconst 0, 1) := dX3_part_34g.2.2.2.2.2.2.2.1
theorem dX3_part_51 : decode cX3_part 51 = .ok (.istore_n 2, 1) := dX3_part_34g.2.2.2.2.2.2.2.2.1
theorem dX3_part_52 : decode cX3_part 52 = .ok (.aload_n 0, 1) := dX3_part_34g.2.2.2.2.2.2.2.2.2
theorem dX3_part_53g : (decode cX3_part 53 = .ok (.iload_n 2, 1)) ∧ (decode cX3_part 54 = .ok (.ifCond .eq 12, 3)) ∧ (decode cX3_part 57 = .ok (.aload_n 0, 1)) ∧ (decode cX3_part 58 = .ok (.getfield 43, 3)) ∧ (decode cX3_part 61 = .ok (.iconst 1, 1)) ∧ (decode cX3_part 62 = .ok (.iadd, 1)) ∧ (decode cX3_part 63 = .ok (.goto 7, 3)) ∧ (decode cX3_part 66 = .ok (.aload_n 0, 1)) ∧ (decode cX3_part 67 = .ok (.getfield 43, 3)) ∧ (decode cX3_part 70 = .ok (.invokevirtual 66, 3)) := by decide +kernel
theorem dX3_part_53 : decode cX3_part 53 = .ok (.iload_n 2, 1) := dX3_part_53g.1
theorem dX3_part_54 : decode cX3_part 54 = .ok (.ifCond .eq 12, 3) := dX3_part_53g.2.1
theorem dX3_part_57 : decode cX3_part 57 = .ok (.aload_n 0, 1) := dX3_part_53g.2.2.1
theorem dX3_part_58 : decode cX3_part 58 = .ok (.getfield 43, 3) := dX3_part_53g.2.2.2.1
theorem dX3_part_61 : decode cX3_part 61 = .ok (.iconst 1, 1) := dX3_part_53g.2.2.2.2.1
theorem dX3_part_62 : decode cX3_part 62 = .ok (.iadd, 1) := dX3_part_53g.2.2.2.2.2.1
theorem dX3_part_63 : decode cX3_part 63 = .ok (.goto 7, 3) := dX3_part_53g.2.2.2.2.2.2.1
theorem dX3_part_66 : decode cX3_part 66 = .ok (.aload_n 0, 1) := dX3_part_53g.2.2.2.2.2.2.2.1
theorem dX3_part_67 : decode cX3_part 67 = .ok (.getfield 43, 3) := dX3_part_53g.2.2.2.2.2.2.2.2.1
theorem dX3_part_70 : decode cX3_part 70 = .ok (.invokevirtual 66, 3) := dX3_part_53g.2.2.2.2.2.2.2.2.2
theorem dX3_part_73g : (decode cX3_part 73 = .ok (.iload_n 2, 1)) ∧ (decode cX3_part 74 = .ok (.ireturn, 1)) ∧ (decode cX3_part 75 = .ok (.aload_n 0, 1)) ∧ (decode cX3_part 76 = .ok (.getfield 43, 3)) ∧ (decode cX3_part 79 = .ok (.ifCond .lt 27, 3)) ∧ (decode cX3_part 82 = .ok (.aload_n 0, 1)) ∧ (decode cX3_part 83 = .ok (.getfield 43, 3)) ∧ (decode cX3_part 86 = .ok (.aload_n 0, 1)) ∧ (decode cX3_part 87 = .ok (.getfield 27, 3)) ∧ (decode cX3_part 90 = .ok (.arraylength, 1)) := by decide +kernel
theorem dX3_part_73 : decode cX3_part 73 = .ok (.iload_n 2, 1) := dX3_part_73g.1
theorem dX3_part_74 : decode cX3_part 74 = .ok (.ireturn, 1) := dX3_part_73g.2.1
theorem dX3_part_75 : decode cX3_part 75 = .ok (.aload_n 0, 1) := dX3_part_73g.2.2.1
theorem dX3_part_76 : decode cX3_part 76 = .ok (.getfield 43, 3) := dX3_part_73g.2.2.2.1
theorem dX3_part_79 : decode cX3_part 79 = .ok (.ifCond .lt 27, 3) := dX3_part_73g.2.2.2.2.1
theorem dX3_part_82 : decode cX3_part 82 = .ok (.aload_n 0, 1) := dX3_part_73g.2.2.2.2.2.1
theorem dX3_part_83 : decode cX3_part 83 = .ok (.getfield 43, 3) := dX3_part_73g.2.2.2.2.2.2.1
theorem dX3_part_86 : decode cX3_part 86 = .ok (.aload_n 0, 1) := dX3_part_73g.2.2.2.2.2.2.2.1
theorem dX3_part_87 : decode cX3_part 87 = .ok (.getfield 27, 3) := dX3_part_73g.2.2.2.2.2.2.2.2.1
theorem dX3_part_90 : decode cX3_part 90 = .ok (.arraylength, 1) := dX3_part_73g.2.2.2.2.2.2.2.2.2
theorem dX3_part_91g : (decode cX3_part 91 = .ok (.if_icmp .ge 15, 3)) ∧ (decode cX3_part 94 = .ok (.aload_n 0, 1)) ∧ (decode cX3_part 95 = .ok (.getfield 27, 3)) ∧ (decode cX3_part 98 = .ok (.aload_n 0, 1)) ∧ (decode cX3_part 99 = .ok (.getfield 43, 3)) ∧ (decode cX3_part 102 = .ok (.iaload, 1)) ∧ (decode cX3_part 103 = .ok (.goto 4, 3)) ∧ (decode cX3_part 106 = .ok (.iconst 0, 1)) ∧ (decode cX3_part 107 = .ok (.istore_n 2, 1)) ∧ (decode cX3_part 108 = .ok (.aload_n 0, 1)) := by decide +kernel
theorem dX3_part_91 : decode cX3_part 91 = .ok (.if_icmp .ge 15, 3) := dX3_part_91g.1
theorem dX3_part_94 : decode cX3_part 94 = .ok (.aload_n 0, 1) := dX3_part_91g.2.1
theorem dX3_part_95 : decode cX3_part 95 = .ok (.getfield 27, 3) := dX3_part_91g.2.2.1
theorem dX3_part_98 : decode cX3_part 98 = .ok (.aload_n 0, 1) := dX3_part_91g.2.2.2.1
theorem dX3_part_99 : decode cX3_part 99 = .ok (.getfield 43, 3) := dX3_part_91g.2.2.2.2.1
theorem dX3_part_102 : decode cX3_part 102 = .ok (.iaload, 1) := dX3_part_91g.2.2.2.2.2.1
theorem dX3_part_103 : decode cX3_part 103 = .ok (.goto 4, 3) := dX3_part_91g.2.2.2.2.2.2.1
theorem dX3_part_106 : decode cX3_part 106 = .ok (.iconst 0, 1) := dX3_part_91g.2.2.2.2.2.2.2.1
theorem dX3_part_107 : decode cX3_part 107 = .ok (.istore_n 2, 1) := dX3_part_91g.2.2.2.2.2.2.2.2.1
theorem dX3_part_108 : decode cX3_part 108 = .ok (.aload_n 0, 1) := dX3_part_91g.2.2.2.2.2.2.2.2.2
theorem dX3_part_109g : (decode cX3_part 109 = .ok (.getfield 46, 3)) ∧ (decode cX3_part 112 = .ok (.bipush (-2), 2)) ∧ (decode cX3_part 114 = .ok (.if_icmp .ne 14, 3)) ∧ (decode cX3_part 117 = .ok (.iload_n 2, 1)) ∧ (decode cX3_part 118 = .ok (.sipush 1000, 3)) ∧ (decode cX3_part 121 = .ok (.if_icmp .gt 7, 3)) ∧ (decode cX3_part 124 = .ok (.iconst 1, 1)) ∧ (decode cX3_part 125 = .ok (.goto 4, 3)) ∧ (decode cX3_part 128 = .ok (.iconst 0, 1)) ∧ (decode cX3_part 129 = .ok (.istore_n 3, 1)) := by decide +kernel
theorem dX3_part_109 : decode cX3_part 109 = .ok (.getfield 46, 3) := dX3_part_109g.1
theorem dX3_part_112 : decode cX3_part 112 = .ok (.bipush (-2), 2) := dX3_part_109g.2.1
theorem dX3_part_114 : decode cX3_part 114 = .ok (.if_icmp .ne 14, 3) := dX3_part_109g.2.2.1
theorem dX3_part_117 : decode cX3_part 117 = .ok (.iload_n 2, 1) := dX3_part_109g.2.2.2.1
theorem dX3_part_118 : decode cX3_part 118 = .ok (.sipush 1000, 3) := dX3_part_109g.2.2.2.2.1
theorem dX3_part_121 : decode cX3_part 121 = .ok (.if_icmp .gt 7, 3) := dX3_part_109g.2.2.2.2.2.1
theorem dX3_part_124 : decode cX3_part 124 = .ok (.iconst 1, 1) := dX3_part_109g.2.2.2.2.2.2.1
theorem dX3_part_125 : decode cX3_part 125 = .ok (.goto 4, 3) := dX3_part_109g.2.2.2.2.2.2.2.1
theorem dX3_part_128 : decode cX3_part 128 = .ok (.iconst 0, 1) := dX3_part_109g.2.2.2.2.2.2.2.2.1
theorem dX3_part_129 : decode cX3_part 129 = .ok (.istore_n 3, 1) := dX3_part_109g.2.2.2.2.2.2.2.2.2
theorem dX3_part_130g : (decode cX3_part 130 = .ok (.aload_n 0, 1)) ∧ (decode cX3_part 131 = .ok (.getfield 37, 3)) ∧ (decode cX3_part 134 = .ok (.bipush 50, 2)) ∧ (decode cX3_part 136 = .ok (.if_icmp .ge 17, 3)) ∧ (decode cX3_part 139 = .ok (.iload_n 3, 1)) ∧ (decode cX3_part 140 = .ok (.ifCond .ne 15, 3)) ∧ (decode cX3_part 143 = .ok (.aload_n 0, 1)) ∧ (decode cX3_part 144 = .ok (.getfield 46, 3)) ∧ (decode cX3_part 147 = .ok (.sipush 264, 3)) ∧ (decode cX3_part 150 = .ok (.if_icmp .ge 5, 3)) := by decide +kernel
theorem dX3_part_130 : decode cX3_part 130 = .ok (.aload_n 0, 1) := dX3_part_130g.1
theorem dX3_part_131 : decode cX3_part 131 = .ok (.getfield 37, 3) := dX3_part_130g.2.1
theorem dX3_part_134 : decode cX3_part 134 = .ok (.bipush 50, 2) := dX3_part_130g.2.2.1
theorem dX3_part_136 : decode cX3_part 136 = .ok (.if_icmp .ge 17, 3) := dX3_part_130g.2.2.2.1
theorem dX3_part_139 : decode cX3_part 139 = .ok (.iload_n 3, 1) := dX3_part_130g.2.2.2.2.1
theorem dX3_part_140 : decode cX3_part 140 = .ok (.ifCond .ne 15, 3) := dX3_part_130g.2.2.2.2.2.1
theorem dX3_part_143 : decode cX3_part 143 = .ok (.aload_n 0, 1) := dX3_part_130g.2.2.2.2.2.2.1
theorem dX3_part_144 : decode cX3_part 144 = .ok (.getfield 46, 3) := dX3_part_130g.2.2.2.2.2.2.2.1
theorem dX3_part_147 : decode cX3_part 147 = .ok (.sipush 264, 3) := dX3_part_130g.2.2.2.2.2.2.2.2.1
theorem dX3_part_150 : decode cX3_part 150 = .ok (.if_icmp .ge 5, 3) := dX3_part_130g.2.2.2.2.2.2.2.2.2
theorem dX3_part_153g : (decode cX3_part 153 = .ok (.iconst 0, 1)) ∧ (decode cX3_part 154 = .ok (.ireturn, 1)) ∧ (decode cX3_part 155 = .ok (.aload_n 0, 1)) ∧ (decode cX3_part 156 = .ok (.iload_n 3, 1)) ∧ (decode cX3_part 157 = .ok (.ifCond .eq 7, 3)) ∧ (decode cX3_part 160 = .ok (.iconst 0, 1)) ∧ (decode cX3_part 161 = .ok (.goto 4, 3)) ∧ (decode cX3_part 164 = .ok (.iconst 1, 1)) ∧ (decode cX3_part 165 = .ok (.iload_n 3, 1)) ∧ (decode cX3_part 166 = .ok (.ifCond .eq 7, 3)) := by decide +kernel
theorem dX3_part_153 : decode cX3_part 153 = .ok (.iconst 0, 1) := dX3_part_153g.1
theorem dX3_part_154 : decode cX3_part 154 = .ok (.ireturn, 1) := dX3_part_153g.2.1
theorem dX3_part_155 : decode cX3_part 155 = .ok (.aload_n 0, 1) := dX3_part_153g.2.2.1
theorem dX3_part_156 : decode cX3_part 156 = .ok (.iload_n 3, 1) := dX3_part_153g.2.2.2.1
theorem dX3_part_157 : decode cX3_part 157 = .ok (.ifCond .eq 7, 3) := dX3_part_153g.2.2.2.2.1
theorem dX3_part_160 : decode cX3_part 160 = .ok (.iconst 0, 1) := dX3_part_153g.2.2.2.2.2.1
theorem dX3_part_161 : decode cX3_part 161 = .ok (.goto 4, 3) := dX3_part_153g.2.2.2.2.2.2.1
theorem dX3_part_164 : decode cX3_part 164 = .ok (.iconst 1, 1) := dX3_part_153g.2.2.2.2.2.2.2.1
theorem dX3_part_165 : decode cX3_part 165 = .ok (.iload_n 3, 1) := dX3_part_153g.2.2.2.2.2.2.2.2.1
theorem dX3_part_166 : decode cX3_part 166 = .ok (.ifCond .eq 7, 3) := dX3_part_153g.2.2.2.2.2.2.2.2.2
theorem dX3_part_169g : (decode cX3_part 169 = .ok (.iload_n 2, 1)) ∧ (decode cX3_part 170 = .ok (.goto 11, 3)) ∧ (decode cX3_part 173 = .ok (.aload_n 0, 1)) ∧ (decode cX3_part 174 = .ok (.getfield 46, 3)) ∧ (decode cX3_part 177 = .ok (.sipush 264, 3)) ∧ (decode cX3_part 180 = .ok (.isub, 1)) ∧ (decode cX3_part 181 = .ok (.invokevirtual 109, 3)) ∧ (decode cX3_part 184 = .ok (.pop, 1)) ∧ (decode cX3_part 185 = .ok (.aload_n 0, 1)) ∧ (decode cX3_part 186 = .ok (.dup, 1)) := by decide +kernel
theorem dX3_part_169 : decode cX3_part 169 = .ok (.iload_n 2, 1) := dX3_part_169g.1
theorem dX3_part_170 : decode cX3_part 170 = .ok (.goto 11, 3) := dX3_part_169g.2.1
theorem dX3_part_173 : decode cX3_part 173 = .ok (.aload_n 0, 1) := dX3_part_169g.2.2.1
theorem dX3_part_174 : decode cX3_part 174 = .ok (.getfield 46, 3) := dX3_part_169g.2.2.2.1
theorem dX3_part_177 : decode cX3_part 177 = .ok (.sipush 264, 3) := dX3_part_169g.2.2.2.2.1
theorem dX3_part_180 : decode cX3_part 180 = .ok (.isub, 1) := dX3_part_169g.2.2.2.2.2.1
theorem dX3_part_181 : decode cX3_part 181 = .ok (.invokevirtual 109, 3) := dX3_part_169g.2.2.2.2.2.2.1
theorem dX3_part_184 : decode cX3_part 184 = .ok (.pop, 1) := dX3_part_169g.2.2.2.2.2.2.2.1
theorem dX3_part_185 : decode cX3_part 185 = .ok (.aload_n 0, 1) := dX3_part_169g.2.2.2.2.2.2.2.2.1
theorem dX3_part_186 : decode cX3_part 186 = .ok (.dup, 1) := dX3_part_169g.2.2.2.2.2.2.2.2.2
theorem dX3_part_187g : (decode cX3_part 187 = .ok (.getfield 37, 3)) ∧ (decode cX3_part 190 = .ok (.iconst 1, 1)) ∧ (decode cX3_part 191 = .ok (.iadd, 1)) ∧ (decode cX3_part 192 = .ok (.putfield 37, 3)) ∧ (decode cX3_part 195 = .ok (.aload_n 0, 1)) ∧ (decode cX3_part 196 = .ok (.aload_n 0, 1)) ∧ (decode cX3_part 197 = .ok (.getfield 43, 3)) ∧ (decode cX3_part 200 = .ok (.iconst 1, 1)) ∧ (decode cX3_part 201 = .ok (.iadd, 1)) ∧ (decode cX3_part 202 = .ok (.invokevirtual 66, 3)) := by decide +kernel
theorem dX3_part_187 : decode cX3_part 187 = .ok (.getfield 37, 3) := dX3_part_187g.1
theorem dX3_part_190 : decode cX3_part 190 = .ok (.iconst 1, 1) := dX3_part_187g.2.1
theorem dX3_part_191 : decode cX3_part 191 = .ok (.iadd, 1) := dX3_part_187g.2.2.1
theorem dX3_part_192 : decode cX3_part 192 = .ok (.putfield 37, 3) := dX3_part_187g.2.2.2.1
theorem dX3_part_195 : decode cX3_part 195 = .ok (.aload_n 0, 1) := dX3_part_187g.2.2.2.2.1
theorem dX3_part_196 : decode cX3_part 196 = .ok (.aload_n 0, 1) := dX3_part_187g.2.2.2.2.2.1
theorem dX3_part_197 : decode cX3_part 197 = .ok (.getfield 43, 3) := dX3_part_187g.2.2.2.2.2.2.1
theorem dX3_part_200 : decode cX3_part 200 = .ok (.iconst 1, 1) := dX3_part_187g.2.2.2.2.2.2.2.1
theorem dX3_part_201 : decode cX3_part 201 = .ok (.iadd, 1) := dX3_part_187g.2.2.2.2.2.2.2.2.1
theorem dX3_part_202 : decode cX3_part 202 = .ok (.invokevirtual 66, 3) := dX3_part_187g.2.2.2.2.2.2.2.2.2
theorem dX3_part_205g : (decode cX3_part 205 = .ok (.iconst 1, 1)) ∧ (decode cX3_part 206 = .ok (.ireturn, 1)) := by decide +kernel
theorem dX3_part_205 : decode cX3_part 205 = .ok (.iconst 1, 1) := dX3_part_205g.1
theorem dX3_part_206 : decode cX3_part 206 = .ok (.ireturn, 1) := dX3_part_205g.2
set_option maxHeartbeats 4000000 in
set_option maxRecDepth 100000 in
theorem c_X3_part (l : Launch) (E : Nat → Nat) (D : va_G) (G : th_G) (k : Nat) : ∀ (h0 n : Nat) (hG0 : G h0 = some (7, n)) (x1 : Int32) (_ : (0 : Int) ≤ x1.toInt) (_ : (8 : Int) - x1.toInt ≤ (k : Int)), Met l yX3_part (tb (.code yX3_part cX3_part 4 (some .boolean))) (rm (2 + 2 * k)) (va_Pc [.ref h0, .int x1] (th_P E D G)) (QI E D G (fun r => 0 ≤ (r : Int32).toInt ∧ (r : Int32).toInt ≤ 1)) 0 0 (th_A G) := by
  induction k using Nat.strongRecOn with
  | ind k ih =>
  intro h0 n hG0 x1 hx1 hk
  refine Met.ofW (cc := cX3_part) (maxL := 4) (ret := (some .boolean)) (by decide) rfl ?_
  intro p e s m args below meth c s₁ B hml hv
  obtain ⟨hav, hI, hN, hK⟩ := hv
  have hx := B.exec
  have hb := B.bytes
  have hr := B.returns
  have hts := atoms_spec (ws := tb (.code yX3_part cX3_part 4 (some .boolean))) B.pre
  have hown : s.vm.findClass RX3 = some m.cls := findClass_of_methodNamed B.named
  have hlocks := B.notSynchronized
  have hS : va_S (th_A G) s.heap s.heap [] := va_S.rf
  have hl := lv_entry ([.ref h0, .int x1]) (n := 4) (Nat.le_of_ble_eq_true rfl)
  rw [show entryFrame m args 4 = entryFrame m ([.ref h0, .int x1] : List Value).toArray 4 from by rw [hav], lg_entry_eq]
  generalize (lg_sl ([.ref h0, .int x1]) ++ List.replicate (4 - (lg_sl ([.ref h0, .int x1])).length) Slot.unset).toArray = ls at hl ⊢
  have hl : lv_has ls 4 [(0, .ref h0), (1, .int x1)] := hl
  generalize hR : (headSpec (tb (.code yX3_part cX3_part 4 (some .boolean))) (rm (2 + 2 * k))).room = R
  have hR := hR.symm
  generalize hQ : MQ below (QI E D G (fun r => 0 ≤ (r : Int32).toInt ∧ (r : Int32).toInt ≤ 1)) args s 0 0 (th_A G) = QF
  have hQ := hQ.symm
  have J_181 : ∀ (H : Heap) (locs : List Loc) (ls : Array Slot) (v3276 : Int32) (v3277 : Int32) (v3278 : Int32) (v3279 : Int32), lv_has ls 4 [(3, .int v3276), (2, .int v3277), (0, .ref h0), (1, .int x1)] → ((0 : Int) ≤ v3276.toInt ∧ v3276.toInt ≤ 1) → ((0 : Int) ≤ x1.toInt) → ((0 : Int) ≤ v3279.toInt ∧ v3279.toInt ≤ 1) → th_I (okC E) D G [] H → va_S (th_A G) s.heap H locs → W p l e R s m args below meth c H locs 0 0 QF (F0 m 181 ls [.int v3278, .int v3279, .ref h0]) := by
    intro H locs ls v3276 v3277 v3278 v3279 hl k3280 k3281 k3282 hI hS
    refine th_cVi (As := [.int v3279, .int v3278]) (rest := []) (n := 2) (d := 0) ⟨hx, hb, hml, hown, hts⟩ (c_X3_emit l E D G h0 (n) hG0 v3279 v3278) wd_723 wd_725 wp_17 wd_5 wd_726 (by decide +kernel) ⟨by rw [hR]; show 0 + 1 ≤ 2 + 2 * k; omega, by rw [hR]; show 8 + (3 + 11) + 40 * (0) ≤ 40 * (2 + 2 * k); omega⟩ hI hN hK hS (rc_7 hI hG0 List.not_mem_nil) rfl rfl hl.1 rfl (Nat.le_of_ble_eq_true rfl) dX3_part_181 ⟨Nat.zero_le _, Nat.zero_le _⟩ (fun r3283 H locs hp hI hS => ?_)
    refine lv_pop hx hb dX3_part_184 rfl ?_
    refine lv_aload_n hx hb dX3_part_185 rfl (lv_at hl 2 rfl) ?_
    refine lv_dup hx hb dX3_part_186 rfl ?_
    obtain ⟨a3284, a3286, a3288, a3290, a3292, a3294, w3296, w3299, w3302, w3303, w3306, w3307, hO, hq3285, hq3287, hq3289, hq3291, hq3293, hq3295, ⟨k3297, k3298⟩, ⟨k3300, k3301⟩, ⟨k3304, k3305⟩, k3308⟩ := op_7 hI hG0 List.not_mem_nil
    have hI := th_I.weak (a := h0) hI
    refine th_get hx hb hts inT3 hown hK hO rfl 8 (by decide) (hts _ (tb_c wd_137)) rfl rfl dX3_part_187 ?_
    refine lv_iconst (v := 1) hx hb dX3_part_190 (by decide) ?_
    refine lv_iadd hx hb dX3_part_191 ?_
    refine lv_topi (fun v3309 e3310 => ?_)
    try have tv3309 : v3309.toInt = w3302.toInt + (1) := iv_add rfl (by decide) e3310 (by omega) (by omega)
    refine th_put (ty := .int) hx hb hts inT3 tyX3 tyX3_ok nmX3 hown hK hO hS ⟨_, hG0⟩ rfl 8 (by decide) (hts _ (tb_c wd_137)) rfl rfl (by decide +kernel) rfl rfl (Nat.le_of_ble_eq_true rfl) dX3_part_192 (fun H locs hO oq hS => ?_)
    have hI := th_I.moved hI oq
    have hO : va_at D vwCl (h0, .inr (3, [.ref a3284, .ref a3286, .ref a3288, .ref a3290, .ref a3292, .ref a3294, .int w3296, .int w3299, .int v3309, .int w3303, .int w3306, .int w3307])) H := hO
    refine lv_aload_n hx hb dX3_part_195 rfl (lv_at hl 2 rfl) ?_
    refine lv_aload_n hx hb dX3_part_196 rfl (lv_at hl 2 rfl) ?_
    refine th_get hx hb hts inT3 hown hK hO rfl 10 (by decide) (hts _ (tb_c wd_139)) rfl rfl dX3_part_197 ?_
    refine lv_iconst (v := 1) hx hb dX3_part_200 (by decide) ?_
    refine lv_iadd hx hb dX3_part_201 ?_
    refine lv_topi (fun v3311 e3312 => ?_)
    try have tv3311 : v3311.toInt = w3306.toInt + (1) := iv_add rfl (by decide) e3312 (by omega) (by omega)
    have hI := th_I.close hI hG0 hO (ok_7 hq3285 hq3287 hq3289 hq3291 hq3293 hq3295 ⟨by omega, by omega⟩ ⟨by omega, by omega⟩ ⟨by omega, by omega⟩ (by omega))
    refine th_cVv (As := [.int v3311]) (rest := []) (n := 1) (d := 0) ⟨hx, hb, hml, hown, hts⟩ (c_X3_moveTo l E D G h0 (n) hG0 v3311) wd_707 wd_709 wp_13 wd_5 wd_710 (by decide +kernel) ⟨by rw [hR]; show 0 + 1 ≤ 2 + 2 * k; omega, by rw [hR]; show 8 + (2 + 11) + 40 * (0) ≤ 40 * (2 + 2 * k); omega⟩ hI hN hK hS (rc_7 hI hG0 List.not_mem_nil) rfl rfl hl.1 rfl (Nat.le_of_ble_eq_true rfl) dX3_part_202 ⟨Nat.zero_le _, Nat.zero_le _⟩ (fun H locs hI hS => ?_)
    refine lv_iconst (v := 1) hx hb dX3_part_205 (by decide) ?_
    have hpost : 0 ≤ (1 : Int32).toInt ∧ (1 : Int32).toInt ≤ 1 := by first | decide | omega
    rw [hQ]
    exact W.zret (v := 1) hx hb hr (by decide) (fun t ht hW => ⟨⟨1, (), rfl, hpost, by rw [ht]; exact hI, hN.warm hW, va_K.moved hW.alike hK⟩, hS.F ht⟩) hS.2.2 dX3_part_206
  have J_165 : ∀ (H : Heap) (locs : List Loc) (ls : Array Slot) (v3314 : Int32) (v3315 : Int32) (v3316 : Int32), lv_has ls 4 [(3, .int v3314), (2, .int v3315), (0, .ref h0), (1, .int x1)] → ((0 : Int) ≤ v3314.toInt ∧ v3314.toInt ≤ 1) → ((0 : Int) ≤ x1.toInt) → ((0 : Int) ≤ v3316.toInt ∧ v3316.toInt ≤ 1) → th_I (okC E) D G [] H → va_S (th_A G) s.heap H locs → W p l e R s m args below meth c H locs 0 0 QF (F0 m 165 ls [.int v3316, .ref h0]) := by
    intro H locs ls v3314 v3315 v3316 hl k3317 k3318 k3319 hI hS
    refine lv_iload_n hx hb dX3_part_165 rfl (lv_at hl 0 rfl) ?_
    refine lv_if_eq (tgt := 173) hx hb dX3_part_166 (by decide) (fun c3320 => ?_) (fun c3320 => ?_)
    · skip
      have k3321 := iv_eq (X := v3314.toInt) (Y := (0)) rfl (by decide) c3320
      refine lv_aload_n hx hb dX3_part_173 rfl (lv_at hl 2 rfl) ?_
      obtain ⟨a3322, a3324, a3326, a3328, a3330, a3332, w3334, w3337, w3340, w3341, w3344, w3345, hO, hq3323, hq3325, hq3327, hq3329, hq3331, hq3333, ⟨k3335, k3336⟩, ⟨k3338, k3339⟩, ⟨k3342, k3343⟩, k3346⟩ := op_7 hI hG0 List.not_mem_nil
      have hI := th_I.weak (a := h0) hI
      refine th_get hx hb hts inT3 hown hK hO rfl 11 (by decide) (hts _ (tb_c wd_140)) rfl rfl dX3_part_174 ?_
      refine lv_sipush (v := 264) hx hb dX3_part_177 (by decide) ?_
      refine lv_isub hx hb dX3_part_180 ?_
      refine lv_topi (fun v3347 e3348 => ?_)
      try have tv3347 : v3347.toInt = w3345.toInt - (264) := iv_sub rfl (by decide) e3348 (by omega) (by omega)
      have hI := th_I.close hI hG0 hO (ok_7 hq3323 hq3325 hq3327 hq3329 hq3331 hq3333 ⟨by omega, by omega⟩ ⟨by omega, by omega⟩ ⟨by omega, by omega⟩ (by omega))
      exact J_181 H locs ls v3314 v3315 v3347 v3316 (lv_sub hl [0, 1, 2, 3] rfl) ⟨by omega, by omega⟩ (by omega) ⟨by omega, by omega⟩ hI hS
    · skip
      have k3349 := iv_ne (X := v3314.toInt) (Y := (0)) rfl (by decide) c3320
      refine lv_iload_n hx hb dX3_part_169 rfl (lv_at hl 1 rfl) ?_
      refine lv_goto (tgt := 181) hx hb dX3_part_170 (by decide) ?_
      exact J_181 H locs ls v3314 v3315 v3315 v3316 (lv_sub hl [0, 1, 2, 3] rfl) ⟨by omega, by omega⟩ (by omega) ⟨by omega, by omega⟩ hI hS
  have J_155 : ∀ (H : Heap) (locs : List Loc) (ls : Array Slot) (v3350 : Int32) (v3351 : Int32), lv_has ls 4 [(3, .int v3350), (2, .int v3351), (0, .ref h0), (1, .int x1)] → ((0 : Int) ≤ v3350.toInt ∧ v3350.toInt ≤ 1) → ((0 : Int) ≤ x1.toInt) → th_I (okC E) D G [] H → va_S (th_A G) s.heap H locs → W p l e R s m args below meth c H locs 0 0 QF (F0 m 155 ls []) := by
    intro H locs ls v3350 v3351 hl k3352 k3353 hI hS
    refine lv_aload_n hx hb dX3_part_155 rfl (lv_at hl 2 rfl) ?_
    refine lv_iload_n hx hb dX3_part_156 rfl (lv_at hl 0 rfl) ?_
    refine lv_if_eq (tgt := 164) hx hb dX3_part_157 (by decide) (fun c3354 => ?_) (fun c3354 => ?_)
    · skip
      have k3355 := iv_eq (X := v3350.toInt) (Y := (0)) rfl (by decide) c3354
      refine lv_iconst (v := 1) hx hb dX3_part_164 (by decide) ?_
      exact J_165 H locs ls v3350 v3351 1 (lv_sub hl [0, 1, 2, 3] rfl) ⟨by omega, by omega⟩ (by omega) ⟨by decide, by decide⟩ hI hS
    · skip
      have k3356 := iv_ne (X := v3350.toInt) (Y := (0)) rfl (by decide) c3354
      refine lv_iconst (v := 0) hx hb dX3_part_160 (by decide) ?_
      refine lv_goto (tgt := 165) hx hb dX3_part_161 (by decide) ?_
      exact J_165 H locs ls v3350 v3351 0 (lv_sub hl [0, 1, 2, 3] rfl) ⟨by omega, by omega⟩ (by omega) ⟨by decide, by decide⟩ hI hS
  have J_153 : ∀ (H : Heap) (locs : List Loc) (ls : Array Slot) (v3357 : Int32) (v3358 : Int32), lv_has ls 4 [(3, .int v3357), (2, .int v3358), (0, .ref h0), (1, .int x1)] → ((0 : Int) ≤ v3357.toInt ∧ v3357.toInt ≤ 1) → ((0 : Int) ≤ x1.toInt) → th_I (okC E) D G [] H → va_S (th_A G) s.heap H locs → W p l e R s m args below meth c H locs 0 0 QF (F0 m 153 ls []) := by
    intro H locs ls v3357 v3358 hl k3359 k3360 hI hS
    refine lv_iconst (v := 0) hx hb dX3_part_153 (by decide) ?_
    have hpost : 0 ≤ (0 : Int32).toInt ∧ (0 : Int32).toInt ≤ 1 := by first | decide | omega
    rw [hQ]
    exact W.zret (v := 0) hx hb hr (by decide) (fun t ht hW => ⟨⟨0, (), rfl, hpost, by rw [ht]; exact hI, hN.warm hW, va_K.moved hW.alike hK⟩, hS.F ht⟩) hS.2.2 dX3_part_154
  have J_129 : ∀ (H : Heap) (locs : List Loc) (ls : Array Slot) (v3361 : Int32) (v3362 : Int32), lv_has ls 4 [(2, .int v3361), (0, .ref h0), (1, .int x1)] → ((0 : Int) ≤ x1.toInt) → ((0 : Int) ≤ v3362.toInt ∧ v3362.toInt ≤ 1) → th_I (okC E) D G [] H → va_S (th_A G) s.heap H locs → W p l e R s m args below meth c H locs 0 0 QF (F0 m 129 ls [.int v3362]) := by
    intro H locs ls v3361 v3362 hl k3363 k3364 hI hS
    refine lv_istore_n (lv' := [(3, .int v3362), (2, .int v3361), (0, .ref h0), (1, .int x1)]) hx hb dX3_part_129 rfl hl (by decide) rfl (fun ls hl => ?_)
    refine lv_aload_n hx hb dX3_part_130 rfl (lv_at hl 2 rfl) ?_
    obtain ⟨a3365, a3367, a3369, a3371, a3373, a3375, w3377, w3380, w3383, w3384, w3387, w3388, hO, hq3366, hq3368, hq3370, hq3372, hq3374, hq3376, ⟨k3378, k3379⟩, ⟨k3381, k3382⟩, ⟨k3385, k3386⟩, k3389⟩ := op_7 hI hG0 List.not_mem_nil
    have hI := th_I.weak (a := h0) hI
    refine th_get hx hb hts inT3 hown hK hO rfl 8 (by decide) (hts _ (tb_c wd_137)) rfl rfl dX3_part_131 ?_
    refine lv_bipush (v := 50) hx hb dX3_part_134 (by decide) ?_
    have k3390 := iv_lo w3383
    have k3391 := iv_hi w3383
    refine lv_icmp_ge (tgt := 153) hx hb dX3_part_136 (by decide) (fun c3392 => ?_) (fun c3392 => ?_)
    · skip
      have k3393 := iv_le (X := (50)) (Y := w3383.toInt) (by decide) rfl c3392
      have hI := th_I.close hI hG0 hO (ok_7 hq3366 hq3368 hq3370 hq3372 hq3374 hq3376 ⟨by omega, by omega⟩ ⟨by omega, by omega⟩ ⟨by omega, by omega⟩ (by omega))
      exact J_153 H locs ls v3362 v3361 (lv_sub hl [0, 1, 2, 3] rfl) ⟨by omega, by omega⟩ (by omega) hI hS
    · skip
      have k3394 := iv_nle (X := (50)) (Y := w3383.toInt) (by decide) rfl c3392
      refine lv_iload_n hx hb dX3_part_139 rfl (lv_at hl 0 rfl) ?_
      refine lv_if_ne (tgt := 155) hx hb dX3_part_140 (by decide) (fun c3395 => ?_) (fun c3395 => ?_)
      · skip
        have k3396 := iv_ne (X := v3362.toInt) (Y := (0)) rfl (by decide) c3395
        have hI := th_I.close hI hG0 hO (ok_7 hq3366 hq3368 hq3370 hq3372 hq3374 hq3376 ⟨by omega, by omega⟩ ⟨by omega, by omega⟩ ⟨by omega, by omega⟩ (by omega))
        exact J_155 H locs ls v3362 v3361 (lv_sub hl [0, 1, 2, 3] rfl) ⟨by omega, by omega⟩ (by omega) hI hS
      · skip
        have k3397 := iv_eq (X := v3362.toInt) (Y := (0)) rfl (by decide) c3395
        refine lv_aload_n hx hb dX3_part_143 rfl (lv_at hl 2 rfl) ?_
        refine th_get hx hb hts inT3 hown hK hO rfl 11 (by decide) (hts _ (tb_c wd_140)) rfl rfl dX3_part_144 ?_
        refine lv_sipush (v := 264) hx hb dX3_part_147 (by decide) ?_
        have k3398 := iv_lo w3388
        have k3399 := iv_hi w3388
        refine lv_icmp_ge (tgt := 155) hx hb dX3_part_150 (by decide) (fun c3400 => ?_) (fun c3400 => ?_)
        · skip
          have k3401 := iv_le (X := (264)) (Y := w3388.toInt) (by decide) rfl c3400
          have hI := th_I.close hI hG0 hO (ok_7 hq3366 hq3368 hq3370 hq3372 hq3374 hq3376 ⟨by omega, by omega⟩ ⟨by omega, by omega⟩ ⟨by omega, by omega⟩ (by omega))
          exact J_155 H locs ls v3362 v3361 (lv_sub hl [0, 1, 2, 3] rfl) ⟨by omega, by omega⟩ (by omega) hI hS
        · skip
          have k3402 := iv_nle (X := (264)) (Y := w3388.toInt) (by decide) rfl c3400
          have hI := th_I.close hI hG0 hO (ok_7 hq3366 hq3368 hq3370 hq3372 hq3374 hq3376 ⟨by omega, by omega⟩ ⟨by omega, by omega⟩ ⟨by omega, by omega⟩ (by omega))
          exact J_153 H locs ls v3362 v3361 (lv_sub hl [0, 1, 2, 3] rfl) ⟨by omega, by omega⟩ (by omega) hI hS
  have J_128 : ∀ (H : Heap) (locs : List Loc) (ls : Array Slot) (v3403 : Int32), lv_has ls 4 [(2, .int v3403), (0, .ref h0), (1, .int x1)] → ((0 : Int) ≤ x1.toInt) → th_I (okC E) D G [] H → va_S (th_A G) s.heap H locs → W p l e R s m args below meth c H locs 0 0 QF (F0 m 128 ls []) := by
    intro H locs ls v3403 hl k3404 hI hS
    refine lv_iconst (v := 0) hx hb dX3_part_128 (by decide) ?_
    exact J_129 H locs ls v3403 0 (lv_sub hl [0, 1, 2] rfl) (by omega) ⟨by decide, by decide⟩ hI hS
  have J_107 : ∀ (H : Heap) (locs : List Loc) (ls : Array Slot) (v3405 : Int32), lv_has ls 4 [(0, .ref h0), (1, .int x1)] → ((0 : Int) ≤ x1.toInt) → th_I (okC E) D G [] H → va_S (th_A G) s.heap H locs → W p l e R s m args below meth c H locs 0 0 QF (F0 m 107 ls [.int v3405]) := by
    intro H locs ls v3405 hl k3406 hI hS
    refine lv_istore_n (lv' := [(2, .int v3405), (0, .ref h0), (1, .int x1)]) hx hb dX3_part_107 rfl hl (by decide) rfl (fun ls hl => ?_)
    refine lv_aload_n hx hb dX3_part_108 rfl (lv_at hl 1 rfl) ?_
    obtain ⟨a3407, a3409, a3411, a3413, a3415, a3417, w3419, w3422, w3425, w3426, w3429, w3430, hO, hq3408, hq3410, hq3412, hq3414, hq3416, hq3418, ⟨k3420, k3421⟩, ⟨k3423, k3424⟩, ⟨k3427, k3428⟩, k3431⟩ := op_7 hI hG0 List.not_mem_nil
    have hI := th_I.weak (a := h0) hI
    refine th_get hx hb hts inT3 hown hK hO rfl 11 (by decide) (hts _ (tb_c wd_140)) rfl rfl dX3_part_109 ?_
    refine lv_bipush (v := (-2)) hx hb dX3_part_112 (by decide) ?_
    have k3432 := iv_lo w3430
    have k3433 := iv_hi w3430
    refine lv_icmp_ne (tgt := 128) hx hb dX3_part_114 (by decide) (fun c3434 => ?_) (fun c3434 => ?_)
    · skip
      have k3435 := iv_ne (X := w3430.toInt) (Y := (-2)) rfl (by decide) c3434
      have hI := th_I.close hI hG0 hO (ok_7 hq3408 hq3410 hq3412 hq3414 hq3416 hq3418 ⟨by omega, by omega⟩ ⟨by omega, by omega⟩ ⟨by omega, by omega⟩ (by omega))
      exact J_128 H locs ls v3405 (lv_sub hl [0, 1, 2] rfl) (by omega) hI hS
    · skip
      have k3436 := iv_eq (X := w3430.toInt) (Y := (-2)) rfl (by decide) c3434
      refine lv_iload_n hx hb dX3_part_117 rfl (lv_at hl 0 rfl) ?_
      refine lv_sipush (v := 1000) hx hb dX3_part_118 (by decide) ?_
      have k3437 := iv_lo v3405
      have k3438 := iv_hi v3405
      refine lv_icmp_gt (tgt := 128) hx hb dX3_part_121 (by decide) (fun c3439 => ?_) (fun c3439 => ?_)
      · skip
        have k3440 := iv_lt (X := (1000)) (Y := v3405.toInt) (by decide) rfl c3439
        have hI := th_I.close hI hG0 hO (ok_7 hq3408 hq3410 hq3412 hq3414 hq3416 hq3418 ⟨by omega, by omega⟩ ⟨by omega, by omega⟩ ⟨by omega, by omega⟩ (by omega))
        exact J_128 H locs ls v3405 (lv_sub hl [0, 1, 2] rfl) (by omega) hI hS
      · skip
        have k3441 := iv_nlt (X := (1000)) (Y := v3405.toInt) (by decide) rfl c3439
        refine lv_iconst (v := 1) hx hb dX3_part_124 (by decide) ?_
        refine lv_goto (tgt := 129) hx hb dX3_part_125 (by decide) ?_
        have hI := th_I.close hI hG0 hO (ok_7 hq3408 hq3410 hq3412 hq3414 hq3416 hq3418 ⟨by omega, by omega⟩ ⟨by omega, by omega⟩ ⟨by omega, by omega⟩ (by omega))
        exact J_129 H locs ls v3405 1 (lv_sub hl [0, 1, 2] rfl) (by omega) ⟨by decide, by decide⟩ hI hS
  have J_106 : ∀ (H : Heap) (locs : List Loc) (ls : Array Slot) , lv_has ls 4 [(0, .ref h0), (1, .int x1)] → ((0 : Int) ≤ x1.toInt) → th_I (okC E) D G [] H → va_S (th_A G) s.heap H locs → W p l e R s m args below meth c H locs 0 0 QF (F0 m 106 ls []) := by
    intro H locs ls  hl k3442 hI hS
    refine lv_iconst (v := 0) hx hb dX3_part_106 (by decide) ?_
    exact J_107 H locs ls 0 (lv_sub hl [0, 1] rfl) (by omega) hI hS
  have J_70 : ∀ (H : Heap) (locs : List Loc) (ls : Array Slot) (v3443 : Int32) (v3444 : Int32), lv_has ls 4 [(2, .int v3443), (0, .ref h0), (1, .int x1)] → ((0 : Int) ≤ v3443.toInt ∧ v3443.toInt ≤ 1) → ((0 : Int) ≤ x1.toInt ∧ x1.toInt ≤ 7) → th_I (okC E) D G [] H → va_S (th_A G) s.heap H locs → W p l e R s m args below meth c H locs 0 0 QF (F0 m 70 ls [.int v3444, .ref h0]) := by
    intro H locs ls v3443 v3444 hl k3445 k3446 hI hS
    refine th_cVv (As := [.int v3444]) (rest := []) (n := 1) (d := 0) ⟨hx, hb, hml, hown, hts⟩ (c_X3_moveTo l E D G h0 (n) hG0 v3444) wd_707 wd_709 wp_13 wd_5 wd_710 (by decide +kernel) ⟨by rw [hR]; show 0 + 1 ≤ 2 + 2 * k; omega, by rw [hR]; show 8 + (2 + 11) + 40 * (0) ≤ 40 * (2 + 2 * k); omega⟩ hI hN hK hS (rc_7 hI hG0 List.not_mem_nil) rfl rfl hl.1 rfl (Nat.le_of_ble_eq_true rfl) dX3_part_70 ⟨Nat.zero_le _, Nat.zero_le _⟩ (fun H locs hI hS => ?_)
    refine lv_iload_n hx hb dX3_part_73 rfl (lv_at hl 0 rfl) ?_
    have hpost : 0 ≤ (v3443 : Int32).toInt ∧ (v3443 : Int32).toInt ≤ 1 := by first | decide | omega
    rw [hQ]
    exact W.zret (v := v3443) hx hb hr (th_zn (by omega)) (fun t ht hW => ⟨⟨v3443, (), rfl, hpost, by rw [ht]; exact hI, hN.warm hW, va_K.moved hW.alike hK⟩, hS.F ht⟩) hS.2.2 dX3_part_74
  have J_51 : ∀ (H : Heap) (locs : List Loc) (ls : Array Slot) (v3448 : Int32), lv_has ls 4 [(0, .ref h0), (1, .int x1)] → ((0 : Int) ≤ x1.toInt ∧ x1.toInt ≤ 7) → ((0 : Int) ≤ v3448.toInt ∧ v3448.toInt ≤ 1) → th_I (okC E) D G [] H → va_S (th_A G) s.heap H locs → W p l e R s m args below meth c H locs 0 0 QF (F0 m 51 ls [.int v3448]) := by
    intro H locs ls v3448 hl k3449 k3450 hI hS
    refine lv_istore_n (lv' := [(2, .int v3448), (0, .ref h0), (1, .int x1)]) hx hb dX3_part_51 rfl hl (by decide) rfl (fun ls hl => ?_)
    refine lv_aload_n hx hb dX3_part_52 rfl (lv_at hl 1 rfl) ?_
    refine lv_iload_n hx hb dX3_part_53 rfl (lv_at hl 0 rfl) ?_
    refine lv_if_eq (tgt := 66) hx hb dX3_part_54 (by decide) (fun c3451 => ?_) (fun c3451 => ?_)
    · skip
      have k3452 := iv_eq (X := v3448.toInt) (Y := (0)) rfl (by decide) c3451
      refine lv_aload_n hx hb dX3_part_66 rfl (lv_at hl 1 rfl) ?_
      obtain ⟨a3453, a3455, a3457, a3459, a3461, a3463, w3465, w3468, w3471, w3472, w3475, w3476, hO, hq3454, hq3456, hq3458, hq3460, hq3462, hq3464, ⟨k3466, k3467⟩, ⟨k3469, k3470⟩, ⟨k3473, k3474⟩, k3477⟩ := op_7 hI hG0 List.not_mem_nil
      have hI := th_I.weak (a := h0) hI
      refine th_get hx hb hts inT3 hown hK hO rfl 10 (by decide) (hts _ (tb_c wd_139)) rfl rfl dX3_part_67 ?_
      have hI := th_I.close hI hG0 hO (ok_7 hq3454 hq3456 hq3458 hq3460 hq3462 hq3464 ⟨by omega, by omega⟩ ⟨by omega, by omega⟩ ⟨by omega, by omega⟩ (by omega))
      exact J_70 H locs ls v3448 w3475 (lv_sub hl [0, 1, 2] rfl) ⟨by omega, by omega⟩ ⟨by omega, by omega⟩ hI hS
    · skip
      have k3478 := iv_ne (X := v3448.toInt) (Y := (0)) rfl (by decide) c3451
      refine lv_aload_n hx hb dX3_part_57 rfl (lv_at hl 1 rfl) ?_
      obtain ⟨a3479, a3481, a3483, a3485, a3487, a3489, w3491, w3494, w3497, w3498, w3501, w3502, hO, hq3480, hq3482, hq3484, hq3486, hq3488, hq3490, ⟨k3492, k3493⟩, ⟨k3495, k3496⟩, ⟨k3499, k3500⟩, k3503⟩ := op_7 hI hG0 List.not_mem_nil
      have hI := th_I.weak (a := h0) hI
      refine th_get hx hb hts inT3 hown hK hO rfl 10 (by decide) (hts _ (tb_c wd_139)) rfl rfl dX3_part_58 ?_
      refine lv_iconst (v := 1) hx hb dX3_part_61 (by decide) ?_
      refine lv_iadd hx hb dX3_part_62 ?_
      refine lv_topi (fun v3504 e3505 => ?_)
      try have tv3504 : v3504.toInt = w3501.toInt + (1) := iv_add rfl (by decide) e3505 (by omega) (by omega)
      refine lv_goto (tgt := 70) hx hb dX3_part_63 (by decide) ?_
      have hI := th_I.close hI hG0 hO (ok_7 hq3480 hq3482 hq3484 hq3486 hq3488 hq3490 ⟨by omega, by omega⟩ ⟨by omega, by omega⟩ ⟨by omega, by omega⟩ (by omega))
      exact J_70 H locs ls v3448 v3504 (lv_sub hl [0, 1, 2] rfl) ⟨by omega, by omega⟩ ⟨by omega, by omega⟩ hI hS
  have J_50 : ∀ (H : Heap) (locs : List Loc) (ls : Array Slot) , lv_has ls 4 [(0, .ref h0), (1, .int x1)] → ((0 : Int) ≤ x1.toInt ∧ x1.toInt ≤ 7) → th_I (okC E) D G [] H → va_S (th_A G) s.heap H locs → W p l e R s m args below meth c H locs 0 0 QF (F0 m 50 ls []) := by
    intro H locs ls  hl k3506 hI hS
    refine lv_iconst (v := 0) hx hb dX3_part_50 (by decide) ?_
    exact J_51 H locs ls 0 (lv_sub hl [0, 1] rfl) ⟨by omega, by omega⟩ ⟨by decide, by decide⟩ hI hS
  refine lv_aload_n hx hb dX3_part_0 rfl (lv_at hl 0 rfl) ?_
  obtain ⟨a3507, a3509, a3511, a3513, a3515, a3517, w3519, w3522, w3525, w3526, w3529, w3530, hO, hq3508, hq3510, hq3512, hq3514, hq3516, hq3518, ⟨k3520, k3521⟩, ⟨k3523, k3524⟩, ⟨k3527, k3528⟩, k3531⟩ := op_7 hI hG0 List.not_mem_nil
  have hI := th_I.weak (a := h0) hI
  refine th_get hx hb hts inT3 hown hK hO rfl 11 (by decide) (hts _ (tb_c wd_140)) rfl rfl dX3_part_1 ?_
  refine lv_bipush (v := 91) hx hb dX3_part_4 (by decide) ?_
  have k3532 := iv_lo w3530
  have k3533 := iv_hi w3530
  refine lv_icmp_ne (tgt := 75) hx hb dX3_part_6 (by decide) (fun c3534 => ?_) (fun c3534 => ?_)
  · skip
    have k3535 := iv_ne (X := w3530.toInt) (Y := (91)) rfl (by decide) c3534
    refine lv_aload_n hx hb dX3_part_75 rfl (lv_at hl 0 rfl) ?_
    refine th_get hx hb hts inT3 hown hK hO rfl 10 (by decide) (hts _ (tb_c wd_139)) rfl rfl dX3_part_76 ?_
    have k3536 := iv_lo w3529
    have k3537 := iv_hi w3529
    refine lv_if_lt (tgt := 106) hx hb dX3_part_79 (by decide) (fun c3538 => ?_) (fun c3538 => ?_)
    · skip
      have k3539 := iv_lt (X := w3529.toInt) (Y := (0)) rfl (by decide) c3538
      have hI := th_I.close hI hG0 hO (ok_7 hq3508 hq3510 hq3512 hq3514 hq3516 hq3518 ⟨by omega, by omega⟩ ⟨by omega, by omega⟩ ⟨by omega, by omega⟩ (by omega))
      exact J_106 s.heap [] ls  (lv_sub hl [0, 1] rfl) (by omega) hI hS
    · skip
      have k3540 := iv_nlt (X := w3529.toInt) (Y := (0)) rfl (by decide) c3538
      refine lv_aload_n hx hb dX3_part_82 rfl (lv_at hl 0 rfl) ?_
      refine th_get hx hb hts inT3 hown hK hO rfl 10 (by decide) (hts _ (tb_c wd_139)) rfl rfl dX3_part_83 ?_
      refine lv_aload_n hx hb dX3_part_86 rfl (lv_at hl 0 rfl) ?_
      refine th_get hx hb hts inT3 hown hK hO rfl 5 (by decide) (hts _ (tb_c wd_134)) rfl rfl dX3_part_87 ?_
      obtain ⟨_, hA3541⟩ := op_0 hI hq3518 (th_ne hG0 hq3518 (show (7 : Nat) ≠ 0 by decide))
      refine va_alen hx hb hK (th_one hA3541) 0 0 rfl (v := 401) rfl (show Int32.ofNat 401 = (401 : Int32) from by decide) dX3_part_90 ?_
      refine lv_icmp_ge (tgt := 106) hx hb dX3_part_91 (by decide) (fun c3542 => ?_) (fun c3542 => ?_)
      · skip
        have k3543 := iv_le (X := (401)) (Y := w3529.toInt) (by decide) rfl c3542
        have hI := th_I.close hI hG0 hO (ok_7 hq3508 hq3510 hq3512 hq3514 hq3516 hq3518 ⟨by omega, by omega⟩ ⟨by omega, by omega⟩ ⟨by omega, by omega⟩ (by omega))
        exact J_106 s.heap [] ls  (lv_sub hl [0, 1] rfl) (by omega) hI hS
      · skip
        have k3544 := iv_nle (X := (401)) (Y := w3529.toInt) (by decide) rfl c3542
        refine lv_aload_n hx hb dX3_part_94 rfl (lv_at hl 0 rfl) ?_
        refine th_get hx hb hts inT3 hown hK hO rfl 5 (by decide) (hts _ (tb_c wd_134)) rfl rfl dX3_part_95 ?_
        refine lv_aload_n hx hb dX3_part_98 rfl (lv_at hl 0 rfl) ?_
        refine th_get hx hb hts inT3 hown hK hO rfl 10 (by decide) (hts _ (tb_c wd_139)) rfl rfl dX3_part_99 ?_
        obtain ⟨_, hA3545⟩ := op_0 hI hq3518 (th_ne hG0 hq3518 (show (7 : Nat) ≠ 0 by decide))
        refine th_iald hx hb hK hA3545 0 rfl (iv_in (X := w3529.toInt) rfl (by omega) (by omega)) dX3_part_102 (fun v3546 _ => ?_)
        refine lv_goto (tgt := 107) hx hb dX3_part_103 (by decide) ?_
        have hI := th_I.close hI hG0 hO (ok_7 hq3508 hq3510 hq3512 hq3514 hq3516 hq3518 ⟨by omega, by omega⟩ ⟨by omega, by omega⟩ ⟨by omega, by omega⟩ (by omega))
        exact J_107 s.heap [] ls v3546 (lv_sub hl [0, 1] rfl) (by omega) hI hS
  · skip
    have k3547 := iv_eq (X := w3530.toInt) (Y := (91)) rfl (by decide) c3534
    refine lv_iload_n hx hb dX3_part_9 rfl (lv_at hl 1 rfl) ?_
    refine lv_bipush (v := 8) hx hb dX3_part_10 (by decide) ?_
    have k3548 := iv_lo x1
    have k3549 := iv_hi x1
    refine lv_icmp_lt (tgt := 17) hx hb dX3_part_12 (by decide) (fun c3550 => ?_) (fun c3550 => ?_)
    · skip
      have k3551 := iv_lt (X := x1.toInt) (Y := (8)) rfl (by decide) c3550
      refine lv_aload_n hx hb dX3_part_17 rfl (lv_at hl 0 rfl) ?_
      refine lv_aload_n hx hb dX3_part_18 rfl (lv_at hl 0 rfl) ?_
      refine th_get hx hb hts inT3 hown hK hO rfl 10 (by decide) (hts _ (tb_c wd_139)) rfl rfl dX3_part_19 ?_
      refine lv_iconst (v := 1) hx hb dX3_part_22 (by decide) ?_
      refine lv_iadd hx hb dX3_part_23 ?_
      refine lv_topi (fun v3552 e3553 => ?_)
      try have tv3552 : v3552.toInt = w3529.toInt + (1) := iv_add rfl (by decide) e3553 (by omega) (by omega)
      have hI := th_I.close hI hG0 hO (ok_7 hq3508 hq3510 hq3512 hq3514 hq3516 hq3518 ⟨by omega, by omega⟩ ⟨by omega, by omega⟩ ⟨by omega, by omega⟩ (by omega))
      refine th_cVv (As := [.int v3552]) (rest := []) (n := 1) (d := 0) ⟨hx, hb, hml, hown, hts⟩ (c_X3_moveTo l E D G h0 (n) hG0 v3552) wd_707 wd_709 wp_13 wd_5 wd_710 (by decide +kernel) ⟨by rw [hR]; show 0 + 1 ≤ 2 + 2 * k; omega, by rw [hR]; show 8 + (2 + 11) + 40 * (0) ≤ 40 * (2 + 2 * k); omega⟩ hI hN hK hS (rc_7 hI hG0 List.not_mem_nil) rfl rfl hl.1 rfl (Nat.le_of_ble_eq_true rfl) dX3_part_24 ⟨Nat.zero_le _, Nat.zero_le _⟩ (fun H locs hI hS => ?_)
      refine lv_aload_n hx hb dX3_part_27 rfl (lv_at hl 0 rfl) ?_
      refine lv_iload_n hx hb dX3_part_28 rfl (lv_at hl 1 rfl) ?_
      refine lv_iconst (v := 1) hx hb dX3_part_29 (by decide) ?_
      refine lv_iadd hx hb dX3_part_30 ?_
      refine lv_topi (fun v3555 e3556 => ?_)
      have tv3555 : v3555.toInt = x1.toInt + (1) := iv_add rfl (by decide) e3556 (by omega) (by omega)
      refine th_cVi (As := [.int v3555]) (rest := []) (n := 1) (d := (3 + 2 * (k - 1))) ⟨hx, hb, hml, hown, hts⟩ (c_X3_sum l E D G (k - 1) h0 n hG0 v3555 (by omega) (by omega) (ih (k - 1) (by omega))) wd_715 wd_717 wp_15 wd_5 wd_718 (by decide +kernel) ⟨by rw [hR]; show (3 + 2 * (k - 1)) + 1 ≤ 2 + 2 * k; omega, by rw [hR]; show 8 + (7 + 11) + 40 * ((3 + 2 * (k - 1))) ≤ 40 * (2 + 2 * k); omega⟩ hI hN hK hS (rc_7 hI hG0 List.not_mem_nil) rfl rfl hl.1 rfl (Nat.le_of_ble_eq_true rfl) dX3_part_31 ⟨Nat.zero_le _, Nat.zero_le _⟩ (fun r3557 H locs hp hI hS => ?_)
      have hp3558 := hp
      refine lv_if_eq (tgt := 50) hx hb dX3_part_34 (by decide) (fun c3559 => ?_) (fun c3559 => ?_)
      · skip
        have k3560 := iv_eq (X := r3557.toInt) (Y := (0)) rfl (by decide) c3559
        exact J_50 H locs ls  (lv_sub hl [0, 1] rfl) ⟨by omega, by omega⟩ hI hS
      · skip
        have k3561 := iv_ne (X := r3557.toInt) (Y := (0)) rfl (by decide) c3559
        refine lv_aload_n hx hb dX3_part_37 rfl (lv_at hl 0 rfl) ?_
        obtain ⟨a3562, a3564, a3566, a3568, a3570, a3572, w3574, w3577, w3580, w3581, w3584, w3585, hO, hq3563, hq3565, hq3567, hq3569, hq3571, hq3573, ⟨k3575, k3576⟩, ⟨k3578, k3579⟩, ⟨k3582, k3583⟩, k3586⟩ := op_7 hI hG0 List.not_mem_nil
        have hI := th_I.weak (a := h0) hI
        refine th_get hx hb hts inT3 hown hK hO rfl 11 (by decide) (hts _ (tb_c wd_140)) rfl rfl dX3_part_38 ?_
        refine lv_bipush (v := 93) hx hb dX3_part_41 (by decide) ?_
        have k3587 := iv_lo w3585
        have k3588 := iv_hi w3585
        refine lv_icmp_ne (tgt := 50) hx hb dX3_part_43 (by decide) (fun c3589 => ?_) (fun c3589 => ?_)
        · skip
          have k3590 := iv_ne (X := w3585.toInt) (Y := (93)) rfl (by decide) c3589
          have hI := th_I.close hI hG0 hO (ok_7 hq3563 hq3565 hq3567 hq3569 hq3571 hq3573 ⟨by omega, by omega⟩ ⟨by omega, by omega⟩ ⟨by omega, by omega⟩ (by omega))
          exact J_50 H locs ls  (lv_sub hl [0, 1] rfl) ⟨by omega, by omega⟩ hI hS
        · skip
          have k3591 := iv_eq (X := w3585.toInt) (Y := (93)) rfl (by decide) c3589
          refine lv_iconst (v := 1) hx hb dX3_part_46 (by decide) ?_
          refine lv_goto (tgt := 51) hx hb dX3_part_47 (by decide) ?_
          have hI := th_I.close hI hG0 hO (ok_7 hq3563 hq3565 hq3567 hq3569 hq3571 hq3573 ⟨by omega, by omega⟩ ⟨by omega, by omega⟩ ⟨by omega, by omega⟩ (by omega))
          exact J_51 H locs ls 1 (lv_sub hl [0, 1] rfl) ⟨by omega, by omega⟩ ⟨by decide, by decide⟩ hI hS
    · skip
      have k3592 := iv_nlt (X := x1.toInt) (Y := (8)) rfl (by decide) c3550
      refine lv_iconst (v := 0) hx hb dX3_part_15 (by decide) ?_
      have hI := th_I.close hI hG0 hO (ok_7 hq3508 hq3510 hq3512 hq3514 hq3516 hq3518 ⟨by omega, by omega⟩ ⟨by omega, by omega⟩ ⟨by omega, by omega⟩ (by omega))
      have hpost : 0 ≤ (0 : Int32).toInt ∧ (0 : Int32).toInt ≤ 1 := by first | decide | omega
      rw [hQ]
      exact W.zret (v := 0) hx hb hr (by decide) (fun t ht hW => ⟨⟨0, (), rfl, hpost, by rw [ht]; exact hI, hN.warm hW, va_K.moved hW.alike hK⟩, hS.F ht⟩) hS.2.2 dX3_part_16
