theorem wd_1206 : (Cond.methodLink RX6 (64 : Nat) arraycopyName) ∈ TB := tw 1206 (by decide +kernel) (by decide +kernel)
theorem wd_1207 : (Cond.methodLink RX6 (70 : Nat) yX4_copyFrom) ∈ TB := tw 1207 (by decide +kernel) (by decide +kernel)
theorem wd_1208 : (Jvm.Cond.instanceMethod yX4_copyFrom) ∈ TB := tw 1208 (by decide +kernel) (by decide +kernel)
theorem wd_1209 : (Cond.selects RX4 yX4_copyFrom yX4_copyFrom) ∈ TB := tw 1209 (by decide +kernel) (by decide +kernel)
theorem wd_1210 : (Cond.code yX4_copyFrom cX4_copyFrom 2 (Option.none : Option Jvm.ClassFile.FieldType)) ∈ TB := tw 1210 (by decide +kernel) (by decide +kernel)
theorem wd_60 : (Cond.fieldLink RX6 (23 : Nat) "NineRiver$State" "gates" "LNineRiver$Rows;") ∈ TB := tw 60 (by decide +kernel) (by decide +kernel)
theorem wd_63 : (Cond.fieldLink RX6 (27 : Nat) "NineRiver$State" "mills" "LNineRiver$Rows;") ∈ TB := tw 63 (by decide +kernel) (by decide +kernel)
theorem wd_66 : (Cond.fieldLink RX6 (30 : Nat) "NineRiver$State" "boats" "LNineRiver$Rows;") ∈ TB := tw 66 (by decide +kernel) (by decide +kernel)
theorem wd_69 : (Cond.fieldLink RX6 (33 : Nat) "NineRiver$State" "pours" "LNineRiver$Rows;") ∈ TB := tw 69 (by decide +kernel) (by decide +kernel)
theorem wd_72 : (Cond.fieldLink RX6 (36 : Nat) "NineRiver$State" "sights" "LNineRiver$Rows;") ∈ TB := tw 72 (by decide +kernel) (by decide +kernel)
theorem wd_75 : (Cond.fieldLink RX6 (39 : Nat) "NineRiver$State" "jobs" "LNineRiver$Rows;") ∈ TB := tw 75 (by decide +kernel) (by decide +kernel)
theorem wd_78 : (Cond.fieldLink RX6 (42 : Nat) "NineRiver$State" "wishes" "LNineRiver$Rows;") ∈ TB := tw 78 (by decide +kernel) (by decide +kernel)
theorem wd_86 : (Cond.fieldLink RX6 (58 : Nat) "NineRiver$State" "natural" "I") ∈ TB := tw 86 (by decide +kernel) (by decide +kernel)
theorem wd_90 : (Cond.fieldLink RX6 (61 : Nat) "NineRiver$State" "year" "I") ∈ TB := tw 90 (by decide +kernel) (by decide +kernel)
theorem dX4_copyFrom_0 : decode cX4_copyFrom 0 = .ok (.aload_n 1, 1) := by decide +kernel
theorem dX4_copyFrom_1 : decode cX4_copyFrom 1 = .ok (.getfield 9, 3) := by decide +kernel
theorem dX4_copyFrom_4 : decode cX4_copyFrom 4 = .ok (.aload_n 0, 1) := by decide +kernel
theorem dX4_copyFrom_5 : decode cX4_copyFrom 5 = .ok (.getfield 21, 3) := by decide +kernel
theorem dX4_copyFrom_8 : decode cX4_copyFrom 8 = .ok (.if_icmp .gt 30, 3) := by decide +kernel
theorem dX4_copyFrom_11 : decode cX4_copyFrom 11 = .ok (.aload_n 1, 1) := by decide +kernel
theorem dX4_copyFrom_12 : decode cX4_copyFrom 12 = .ok (.getfield 24, 3) := by decide +kernel
theorem dX4_copyFrom_15 : decode cX4_copyFrom 15 = .ok (.iconst 0, 1) := by decide +kernel
theorem dX4_copyFrom_16 : decode cX4_copyFrom 16 = .ok (.aload_n 0, 1) := by decide +kernel
theorem dX4_copyFrom_17 : decode cX4_copyFrom 17 = .ok (.getfield 24, 3) := by decide +kernel
theorem dX4_copyFrom_20 : decode cX4_copyFrom 20 = .ok (.iconst 0, 1) := by decide +kernel
theorem dX4_copyFrom_21 : decode cX4_copyFrom 21 = .ok (.aload_n 1, 1) := by decide +kernel
theorem dX4_copyFrom_22 : decode cX4_copyFrom 22 = .ok (.getfield 9, 3) := by decide +kernel
theorem dX4_copyFrom_25 : decode cX4_copyFrom 25 = .ok (.iconst 4, 1) := by decide +kernel
theorem dX4_copyFrom_26 : decode cX4_copyFrom 26 = .ok (.imul, 1) := by decide +kernel
theorem dX4_copyFrom_27 : decode cX4_copyFrom 27 = .ok (.invokestatic 36, 3) := by decide +kernel
theorem dX4_copyFrom_30 : decode cX4_copyFrom 30 = .ok (.aload_n 0, 1) := by decide +kernel
theorem dX4_copyFrom_31 : decode cX4_copyFrom 31 = .ok (.aload_n 1, 1) := by decide +kernel
theorem dX4_copyFrom_32 : decode cX4_copyFrom 32 = .ok (.getfield 9, 3) := by decide +kernel
theorem dX4_copyFrom_35 : decode cX4_copyFrom 35 = .ok (.putfield 9, 3) := by decide +kernel
theorem dX4_copyFrom_38 : decode cX4_copyFrom 38 = .ok (.return_, 1) := by decide +kernel
set_option maxHeartbeats 4000000 in
set_option maxRecDepth 100000 in
theorem c_X4_copyFrom (l : Launch) (E : Nat → ClassId) (D : va_G) (G : th_G) (h0 n : Nat) (hG0 : G h0 = some (4, n)) (p1 : Nat) (hp1 : G p1 = some (4, n)) : Met l yX4_copyFrom (tb (.code yX4_copyFrom cX4_copyFrom 2 none)) (rm 1) (va_Pc [.ref h0, .ref p1] (th_P E D G)) (QV E D G) 0 0 (th_A G) := by
  refine Met.ofW (cc := cX4_copyFrom) (maxL := 2) (ret := none) (by decide) rfl ?_
  intro p e s m args below meth c s₁ B hml hv
  obtain ⟨hav, hI, hN, hK⟩ := hv
  have hx := B.exec
  have hb := B.bytes
  have hr := B.returns
  have hts := atoms_spec (ws := tb (.code yX4_copyFrom cX4_copyFrom 2 none)) B.pre
  have hown : s.vm.findClass RX4 = some m.cls := findClass_of_methodNamed B.named
  have hlocks := B.notSynchronized
  have hS : va_S (th_A G) s.heap s.heap [] := va_S.rf
  have hl := lv_entry ([.ref h0, .ref p1]) (n := 2) (Nat.le_of_ble_eq_true rfl)
  rw [show entryFrame m args 2 = entryFrame m ([.ref h0, .ref p1] : List Value).toArray 2 from by rw [hav], lg_entry_eq]
  generalize (lg_sl ([.ref h0, .ref p1]) ++ List.replicate (2 - (lg_sl ([.ref h0, .ref p1])).length) Slot.unset).toArray = ls at hl ⊢
  have hl : lv_has ls 2 [(0, .ref h0), (1, .ref p1)] := hl
  generalize hR : (headSpec (tb (.code yX4_copyFrom cX4_copyFrom 2 none)) (rm 1)).room = R
  have hR := hR.symm
  generalize hQ : MQ below (QV E D G) args s 0 0 (th_A G) = QF
  have hQ := hQ.symm
  refine lv_aload_n hx hb dX4_copyFrom_0 rfl (lv_at hl 1 rfl) ?_
  obtain ⟨a1, w3, hO, hq2, ⟨k4, k5⟩, k6⟩ := op_4 hI hp1 List.not_mem_nil
  have hI := th_I.weak (a := p1) hI
  have k7 : (nI n).toInt = ((n : Nat) : Int) := nI_toInt (by omega)
  refine th_get hx hb hts inT4 hown hK hO rfl 2 (by decide) (hts _ (tb_c wd_47)) rfl rfl dX4_copyFrom_1 ?_
  refine lv_aload_n hx hb dX4_copyFrom_4 rfl (lv_at hl 0 rfl) ?_
  have hI := th_I.close hI hp1 hO (ok_4 hq2 ⟨by omega, by omega⟩ (by omega))
  obtain ⟨a8, w10, hO, hq9, ⟨k11, k12⟩, k13⟩ := op_4 hI hG0 List.not_mem_nil
  have hI := th_I.weak (a := h0) hI
  have k14 : (nI n).toInt = ((n : Nat) : Int) := nI_toInt (by omega)
  refine th_get hx hb hts inT4 hown hK hO rfl 0 (by decide) (hts _ (tb_c wd_45)) rfl rfl dX4_copyFrom_5 ?_
  refine lv_icmp_gt (tgt := 38) hx hb dX4_copyFrom_8 (by decide) (fun c15 => ?_) (fun c15 => ?_)
  · skip
    have k16 := iv_lt (X := (nI n).toInt) (Y := w3.toInt) rfl rfl c15
    have hI := th_I.close hI hG0 hO (ok_4 hq9 ⟨by omega, by omega⟩ (by omega))
    rw [hQ]
    exact W.vret hx hb hr (fun t ht hW => ⟨⟨(), rfl, trivial, by rw [ht]; exact hI, hN.warm hW, va_K.moved hW.alike hK⟩, hS.F ht⟩) hS.2.2 dX4_copyFrom_38
  · skip
    have k17 := iv_nlt (X := (nI n).toInt) (Y := w3.toInt) rfl rfl c15
    refine lv_aload_n hx hb dX4_copyFrom_11 rfl (lv_at hl 1 rfl) ?_
    have hI := th_I.close hI hG0 hO (ok_4 hq9 ⟨by omega, by omega⟩ (by omega))
    obtain ⟨a18, w20, hO, hq19, ⟨k21, k22⟩, k23⟩ := op_4 hI hp1 List.not_mem_nil
    have hI := th_I.weak (a := p1) hI
    have k24 : (nI n).toInt = ((n : Nat) : Int) := nI_toInt (by omega)
    refine th_get hx hb hts inT4 hown hK hO rfl 1 (by decide) (hts _ (tb_c wd_46)) rfl rfl dX4_copyFrom_12 ?_
    refine lv_iconst (v := 0) hx hb dX4_copyFrom_15 (by decide) ?_
    refine lv_aload_n hx hb dX4_copyFrom_16 rfl (lv_at hl 0 rfl) ?_
    have hI := th_I.close hI hp1 hO (ok_4 hq19 ⟨by omega, by omega⟩ (by omega))
    obtain ⟨a25, w27, hO, hq26, ⟨k28, k29⟩, k30⟩ := op_4 hI hG0 List.not_mem_nil
    have hI := th_I.weak (a := h0) hI
    have k31 : (nI n).toInt = ((n : Nat) : Int) := nI_toInt (by omega)
    refine th_get hx hb hts inT4 hown hK hO rfl 1 (by decide) (hts _ (tb_c wd_46)) rfl rfl dX4_copyFrom_17 ?_
    refine lv_iconst (v := 0) hx hb dX4_copyFrom_20 (by decide) ?_
    refine lv_aload_n hx hb dX4_copyFrom_21 rfl (lv_at hl 1 rfl) ?_
    have hI := th_I.close hI hG0 hO (ok_4 hq26 ⟨by omega, by omega⟩ (by omega))
    obtain ⟨a32, w34, hO, hq33, ⟨k35, k36⟩, k37⟩ := op_4 hI hp1 List.not_mem_nil
    have hI := th_I.weak (a := p1) hI
    have k38 : (nI n).toInt = ((n : Nat) : Int) := nI_toInt (by omega)
    refine th_get hx hb hts inT4 hown hK hO rfl 2 (by decide) (hts _ (tb_c wd_47)) rfl rfl dX4_copyFrom_22 ?_
    refine lv_iconst (v := 4) hx hb dX4_copyFrom_25 (by decide) ?_
    refine lv_imul hx hb dX4_copyFrom_26 ?_
    refine lv_topi (fun v39 e40 => ?_)
    have tv39 : v39.toInt = w34.toInt * (4) := iv_mul rfl (by decide) e40 (by omega) (by omega)
    obtain ⟨_, hA41⟩ := op_0 hI hq19 (th_ne hp1 hq19 (show (4 : Nat) ≠ 0 by decide))
    obtain ⟨_, hA42⟩ := op_0 hI hq26 (th_ne hp1 hq26 (show (4 : Nat) ≠ 0 by decide))
    have k43 : (0 : Int32).toInt = 0 := by decide
    have k44 : (0 : Int32).toInt = 0 := by decide
    refine th_copyi hx hb (hml.trans hl.1.symm) hown (hts _ (tb_c wd_503)) (hts _ (tb_c wd_505)) (hts _ (tb_c wd_504)) (hts _ (tb_c wd_14)) hK hA41 hA42 0 rfl hS ⟨_, hq26⟩ (fun z => by have := iv_lt (X := (0)) (Y := 0) (by decide) (by decide) z; omega) (fun z => by have := iv_lt (X := (0)) (Y := 0) (by decide) (by decide) z; omega) (fun z => by have := iv_lt (X := v39.toInt) (Y := 0) rfl (by decide) z; omega) (by omega) (by omega) (by rw [hR]; exact Nat.le_of_ble_eq_true rfl) (by rw [hR]; exact Nat.le_of_ble_eq_true rfl) dX4_copyFrom_27 (fun H locs _ hA42 oq hS => ?_)
    have hI := th_I.put hI hq26 hA42 ok_0 oq
    have hO := hO.kept (oq _ (fun z => th_ne hp1 hq26 (show (4 : Nat) ≠ 0 by decide) (List.mem_singleton.mpr z.symm)))
    refine lv_aload_n hx hb dX4_copyFrom_30 rfl (lv_at hl 0 rfl) ?_
    refine lv_aload_n hx hb dX4_copyFrom_31 rfl (lv_at hl 1 rfl) ?_
    refine th_get hx hb hts inT4 hown hK hO rfl 2 (by decide) (hts _ (tb_c wd_47)) rfl rfl dX4_copyFrom_32 ?_
    have hI := th_I.close hI hp1 hO (ok_4 hq33 ⟨by omega, by omega⟩ (by omega))
    obtain ⟨a45, w47, hO, hq46, ⟨k48, k49⟩, k50⟩ := op_4 hI hG0 List.not_mem_nil
    have hI := th_I.weak (a := h0) hI
    have k51 : (nI n).toInt = ((n : Nat) : Int) := nI_toInt (by omega)
    refine th_put (ty := .int) hx hb hts inT4 tyX4 tyX4_ok nmX4 hown hK hO hS ⟨_, hG0⟩ rfl 2 (by decide) (hts _ (tb_c wd_47)) rfl rfl (by decide +kernel) rfl rfl (Nat.le_of_ble_eq_true rfl) dX4_copyFrom_35 (fun H locs hO oq hS => ?_)
    have hI := th_I.moved hI oq
    have hO : va_at D vwCl (h0, .inr (4, [.int (nI n), .ref a45, .int w34])) H := hO
    have hI := th_I.close hI hG0 hO (ok_4 hq46 ⟨by omega, by omega⟩ (by omega))
    rw [hQ]
    exact W.vret hx hb hr (fun t ht hW => ⟨⟨(), rfl, trivial, by rw [ht]; exact hI, hN.warm hW, va_K.moved hW.alike hK⟩, hS.F ht⟩) hS.2.2 dX4_copyFrom_38
theorem dX6_keepLaw_0 : decode cX6_keepLaw 0 = .ok (.aload_n 0, 1) := by decide +kernel
theorem dX6_keepLaw_1 : decode cX6_keepLaw 1 = .ok (.getfield 51, 3) := by decide +kernel
theorem dX6_keepLaw_4 : decode cX6_keepLaw 4 = .ok (.bipush 6, 2) := by decide +kernel
theorem dX6_keepLaw_6 : decode cX6_keepLaw 6 = .ok (.if_icmp .lt 5, 3) := by decide +kernel
theorem dX6_keepLaw_9 : decode cX6_keepLaw 9 = .ok (.iconst (-1), 1) := by decide +kernel
theorem dX6_keepLaw_10 : decode cX6_keepLaw 10 = .ok (.ireturn, 1) := by decide +kernel
theorem dX6_keepLaw_11 : decode cX6_keepLaw 11 = .ok (.aload_n 0, 1) := by decide +kernel
theorem dX6_keepLaw_12 : decode cX6_keepLaw 12 = .ok (.getfield 47, 3) := by decide +kernel
theorem dX6_keepLaw_15 : decode cX6_keepLaw 15 = .ok (.aload_n 0, 1) := by decide +kernel
theorem dX6_keepLaw_16 : decode cX6_keepLaw 16 = .ok (.getfield 51, 3) := by decide +kernel
theorem dX6_keepLaw_19 : decode cX6_keepLaw 19 = .ok (.aload_n 1, 1) := by decide +kernel
theorem dX6_keepLaw_20 : decode cX6_keepLaw 20 = .ok (.aastore, 1) := by decide +kernel
theorem dX6_keepLaw_21 : decode cX6_keepLaw 21 = .ok (.aload_n 0, 1) := by decide +kernel
theorem dX6_keepLaw_22 : decode cX6_keepLaw 22 = .ok (.dup, 1) := by decide +kernel
theorem dX6_keepLaw_23 : decode cX6_keepLaw 23 = .ok (.getfield 51, 3) := by decide +kernel
theorem dX6_keepLaw_26 : decode cX6_keepLaw 26 = .ok (.iconst 1, 1) := by decide +kernel
theorem dX6_keepLaw_27 : decode cX6_keepLaw 27 = .ok (.iadd, 1) := by decide +kernel
theorem dX6_keepLaw_28 : decode cX6_keepLaw 28 = .ok (.putfield 51, 3) := by decide +kernel
theorem dX6_keepLaw_31 : decode cX6_keepLaw 31 = .ok (.aload_n 0, 1) := by decide +kernel
theorem dX6_keepLaw_32 : decode cX6_keepLaw 32 = .ok (.getfield 51, 3) := by decide +kernel
theorem dX6_keepLaw_35 : decode cX6_keepLaw 35 = .ok (.iconst 1, 1) := by decide +kernel
theorem dX6_keepLaw_36 : decode cX6_keepLaw 36 = .ok (.isub, 1) := by decide +kernel
theorem dX6_keepLaw_37 : decode cX6_keepLaw 37 = .ok (.ireturn, 1) := by decide +kernel
set_option maxHeartbeats 4000000 in
set_option maxRecDepth 100000 in
theorem c_X6_keepLaw (l : Launch) (E : Nat → ClassId) (D : va_G) (G : th_G) (h0 : Nat) (hG0 : G h0 = some (6, 0)) (p1 n1 : Nat) (hp1 : G p1 = some (5, n1)) : Met l yX6_keepLaw (tb (.code yX6_keepLaw cX6_keepLaw 2 (some .int))) (rm 0) (va_Pc [.ref h0, .ref p1] (th_P E D G)) (QI E D G (fun r => True)) 0 0 (th_A G) := by
  refine Met.ofW (cc := cX6_keepLaw) (maxL := 2) (ret := (some .int)) (by decide) rfl ?_
  intro p e s m args below meth c s₁ B hml hv
  obtain ⟨hav, hI, hN, hK⟩ := hv
  have hx := B.exec
  have hb := B.bytes
  have hr := B.returns
  have hts := atoms_spec (ws := tb (.code yX6_keepLaw cX6_keepLaw 2 (some .int))) B.pre
  have hown : s.vm.findClass RX6 = some m.cls := findClass_of_methodNamed B.named
  have hlocks := B.notSynchronized
  have hS : va_S (th_A G) s.heap s.heap [] := va_S.rf
  have hl := lv_entry ([.ref h0, .ref p1]) (n := 2) (Nat.le_of_ble_eq_true rfl)
  rw [show entryFrame m args 2 = entryFrame m ([.ref h0, .ref p1] : List Value).toArray 2 from by rw [hav], lg_entry_eq]
  generalize (lg_sl ([.ref h0, .ref p1]) ++ List.replicate (2 - (lg_sl ([.ref h0, .ref p1])).length) Slot.unset).toArray = ls at hl ⊢
  have hl : lv_has ls 2 [(0, .ref h0), (1, .ref p1)] := hl
  generalize hR : (headSpec (tb (.code yX6_keepLaw cX6_keepLaw 2 (some .int))) (rm 0)).room = R
  have hR := hR.symm
  generalize hQ : MQ below (QI E D G (fun r => True)) args s 0 0 (th_A G) = QF
  have hQ := hQ.symm
  refine lv_aload_n hx hb dX6_keepLaw_0 rfl (lv_at hl 0 rfl) ?_
  obtain ⟨a1, a3, a5, a7, a9, a11, a13, a15, a17, a19, w21, w24, w25, w26, hO, hq2, hq4, hq6, hq8, hq10, hq12, hq14, hq16, hq18, hq20, ⟨k22, k23⟩⟩ := op_6 hI hG0 List.not_mem_nil
  have hI := th_I.weak (a := h0) hI
  refine th_get hx hb hts inT6 hown hK hO rfl 10 (by decide) (hts _ (tb_c wd_82)) rfl rfl dX6_keepLaw_1 ?_
  refine lv_bipush (v := 6) hx hb dX6_keepLaw_4 (by decide) ?_
  refine lv_icmp_lt (tgt := 11) hx hb dX6_keepLaw_6 (by decide) (fun c27 => ?_) (fun c27 => ?_)
  · skip
    have k28 := iv_lt (X := w21.toInt) (Y := (6)) rfl (by decide) c27
    refine lv_aload_n hx hb dX6_keepLaw_11 rfl (lv_at hl 0 rfl) ?_
    refine th_get hx hb hts inT6 hown hK hO rfl 9 (by decide) (hts _ (tb_c wd_81)) rfl rfl dX6_keepLaw_12 ?_
    refine lv_aload_n hx hb dX6_keepLaw_15 rfl (lv_at hl 0 rfl) ?_
    refine th_get hx hb hts inT6 hown hK hO rfl 10 (by decide) (hts _ (tb_c wd_82)) rfl rfl dX6_keepLaw_16 ?_
    refine lv_aload_n hx hb dX6_keepLaw_19 rfl (lv_at hl 1 rfl) ?_
    obtain ⟨_, hA29, hg30⟩ := op_2 hI hq20 (th_ne hG0 hq20 (show (6 : Nat) ≠ 2 by decide))
    obtain ⟨_, hV31⟩ := rc_5 hI hp1 (th_ne hG0 hp1 (show (6 : Nat) ≠ 5 by decide))
    refine th_aast hx hb hK hA29 4 rfl hV31 rfl hS ⟨_, hq20⟩ (iv_in (X := w21.toInt) rfl (by omega) (by omega)) dX6_keepLaw_20 (fun H locs hA29 oq hS => ?_)
    have hI := th_I.put hI hq20 hA29 (ok_2 (th_upSL hg30 hp1)) oq
    have hO := hO.kept (oq _ (fun z => th_ne hG0 hq20 (show (6 : Nat) ≠ 2 by decide) (List.mem_singleton.mpr z.symm)))
    refine lv_aload_n hx hb dX6_keepLaw_21 rfl (lv_at hl 0 rfl) ?_
    refine lv_dup hx hb dX6_keepLaw_22 rfl ?_
    refine th_get hx hb hts inT6 hown hK hO rfl 10 (by decide) (hts _ (tb_c wd_82)) rfl rfl dX6_keepLaw_23 ?_
    refine lv_iconst (v := 1) hx hb dX6_keepLaw_26 (by decide) ?_
    refine lv_iadd hx hb dX6_keepLaw_27 ?_
    refine lv_topi (fun v32 e33 => ?_)
    have tv32 : v32.toInt = w21.toInt + (1) := iv_add rfl (by decide) e33 (by omega) (by omega)
    refine th_put (ty := .int) hx hb hts inT6 tyX6 tyX6_ok nmX6 hown hK hO hS ⟨_, hG0⟩ rfl 10 (by decide) (hts _ (tb_c wd_82)) rfl rfl (by decide +kernel) rfl rfl (Nat.le_of_ble_eq_true rfl) dX6_keepLaw_28 (fun H locs hO oq hS => ?_)
    have hI := th_I.moved hI oq
    have hO : va_at D vwCl (h0, .inr (6, [.ref a1, .ref a3, .ref a5, .ref a7, .ref a9, .ref a11, .ref a13, .ref a15, .ref a17, .ref a19, .int v32, .int w24, .int w25, .int w26])) H := hO
    refine lv_aload_n hx hb dX6_keepLaw_31 rfl (lv_at hl 0 rfl) ?_
    refine th_get hx hb hts inT6 hown hK hO rfl 10 (by decide) (hts _ (tb_c wd_82)) rfl rfl dX6_keepLaw_32 ?_
    refine lv_iconst (v := 1) hx hb dX6_keepLaw_35 (by decide) ?_
    refine lv_isub hx hb dX6_keepLaw_36 ?_
    refine lv_topi (fun v34 e35 => ?_)
    have tv34 : v34.toInt = v32.toInt - (1) := iv_sub rfl (by decide) e35 (by omega) (by omega)
    have hI := th_I.close hI hG0 hO (ok_6 hq2 hq4 hq6 hq8 hq10 hq12 hq14 hq16 hq18 hq20 ⟨by omega, by omega⟩)
    have hpost : True := trivial
    rw [hQ]
    exact W.iret (v := v34) hx hb hr (fun t ht hW => ⟨⟨v34, (), rfl, hpost, by rw [ht]; exact hI, hN.warm hW, va_K.moved hW.alike hK⟩, hS.F ht⟩) hS.2.2 dX6_keepLaw_37
  · skip
    have k36 := iv_nlt (X := w21.toInt) (Y := (6)) rfl (by decide) c27
    refine lv_iconst (v := (-1)) hx hb dX6_keepLaw_9 (by decide) ?_
    have hI := th_I.close hI hG0 hO (ok_6 hq2 hq4 hq6 hq8 hq10 hq12 hq14 hq16 hq18 hq20 ⟨by omega, by omega⟩)
    have hpost : True := trivial
    rw [hQ]
    exact W.iret (v := (-1)) hx hb hr (fun t ht hW => ⟨⟨(-1), (), rfl, hpost, by rw [ht]; exact hI, hN.warm hW, va_K.moved hW.alike hK⟩, hS.F ht⟩) hS.2.2 dX6_keepLaw_10
theorem dX6_copyFrom_0 : decode cX6_copyFrom 0 = .ok (.aload_n 1, 1) := by decide +kernel
theorem dX6_copyFrom_1 : decode cX6_copyFrom 1 = .ok (.getfield 9, 3) := by decide +kernel
theorem dX6_copyFrom_4 : decode cX6_copyFrom 4 = .ok (.iconst 0, 1) := by decide +kernel
theorem dX6_copyFrom_5 : decode cX6_copyFrom 5 = .ok (.aload_n 0, 1) := by decide +kernel
theorem dX6_copyFrom_6 : decode cX6_copyFrom 6 = .ok (.getfield 9, 3) := by decide +kernel
theorem dX6_copyFrom_9 : decode cX6_copyFrom 9 = .ok (.iconst 0, 1) := by decide +kernel
theorem dX6_copyFrom_10 : decode cX6_copyFrom 10 = .ok (.aload_n 0, 1) := by decide +kernel
theorem dX6_copyFrom_11 : decode cX6_copyFrom 11 = .ok (.getfield 9, 3) := by decide +kernel
theorem dX6_copyFrom_14 : decode cX6_copyFrom 14 = .ok (.arraylength, 1) := by decide +kernel
theorem dX6_copyFrom_15 : decode cX6_copyFrom 15 = .ok (.invokestatic 64, 3) := by decide +kernel
theorem dX6_copyFrom_18 : decode cX6_copyFrom 18 = .ok (.aload_n 1, 1) := by decide +kernel
theorem dX6_copyFrom_19 : decode cX6_copyFrom 19 = .ok (.getfield 15, 3) := by decide +kernel
theorem dX6_copyFrom_22 : decode cX6_copyFrom 22 = .ok (.iconst 0, 1) := by decide +kernel
theorem dX6_copyFrom_23 : decode cX6_copyFrom 23 = .ok (.aload_n 0, 1) := by decide +kernel
theorem dX6_copyFrom_24 : decode cX6_copyFrom 24 = .ok (.getfield 15, 3) := by decide +kernel
theorem dX6_copyFrom_27 : decode cX6_copyFrom 27 = .ok (.iconst 0, 1) := by decide +kernel
theorem dX6_copyFrom_28 : decode cX6_copyFrom 28 = .ok (.aload_n 0, 1) := by decide +kernel
theorem dX6_copyFrom_29 : decode cX6_copyFrom 29 = .ok (.getfield 15, 3) := by decide +kernel
theorem dX6_copyFrom_32 : decode cX6_copyFrom 32 = .ok (.arraylength, 1) := by decide +kernel
theorem dX6_copyFrom_33 : decode cX6_copyFrom 33 = .ok (.invokestatic 64, 3) := by decide +kernel
theorem dX6_copyFrom_36 : decode cX6_copyFrom 36 = .ok (.iconst 0, 1) := by decide +kernel
theorem dX6_copyFrom_37 : decode cX6_copyFrom 37 = .ok (.istore_n 2, 1) := by decide +kernel
theorem dX6_copyFrom_38 : decode cX6_copyFrom 38 = .ok (.iload_n 2, 1) := by decide +kernel
theorem dX6_copyFrom_39 : decode cX6_copyFrom 39 = .ok (.bipush 6, 2) := by decide +kernel
theorem dX6_copyFrom_41 : decode cX6_copyFrom 41 = .ok (.if_icmp .ge 21, 3) := by decide +kernel
theorem dX6_copyFrom_44 : decode cX6_copyFrom 44 = .ok (.aload_n 0, 1) := by decide +kernel
theorem dX6_copyFrom_45 : decode cX6_copyFrom 45 = .ok (.getfield 47, 3) := by decide +kernel
theorem dX6_copyFrom_48 : decode cX6_copyFrom 48 = .ok (.iload_n 2, 1) := by decide +kernel
theorem dX6_copyFrom_49 : decode cX6_copyFrom 49 = .ok (.aload_n 1, 1) := by decide +kernel
theorem dX6_copyFrom_50 : decode cX6_copyFrom 50 = .ok (.getfield 47, 3) := by decide +kernel
theorem dX6_copyFrom_53 : decode cX6_copyFrom 53 = .ok (.iload_n 2, 1) := by decide +kernel
theorem dX6_copyFrom_54 : decode cX6_copyFrom 54 = .ok (.aaload, 1) := by decide +kernel
theorem dX6_copyFrom_55 : decode cX6_copyFrom 55 = .ok (.aastore, 1) := by decide +kernel
theorem dX6_copyFrom_56 : decode cX6_copyFrom 56 = .ok (.iinc 2 1, 3) := by decide +kernel
theorem dX6_copyFrom_59 : decode cX6_copyFrom 59 = .ok (.goto (-21), 3) := by decide +kernel
theorem dX6_copyFrom_62 : decode cX6_copyFrom 62 = .ok (.aload_n 0, 1) := by decide +kernel
theorem dX6_copyFrom_63 : decode cX6_copyFrom 63 = .ok (.getfield 23, 3) := by decide +kernel
theorem dX6_copyFrom_66 : decode cX6_copyFrom 66 = .ok (.aload_n 1, 1) := by decide +kernel
theorem dX6_copyFrom_67 : decode cX6_copyFrom 67 = .ok (.getfield 23, 3) := by decide +kernel
theorem dX6_copyFrom_70 : decode cX6_copyFrom 70 = .ok (.invokevirtual 70, 3) := by decide +kernel
theorem dX6_copyFrom_73 : decode cX6_copyFrom 73 = .ok (.aload_n 0, 1) := by decide +kernel
theorem dX6_copyFrom_74 : decode cX6_copyFrom 74 = .ok (.getfield 27, 3) := by decide +kernel
theorem dX6_copyFrom_77 : decode cX6_copyFrom 77 = .ok (.aload_n 1, 1) := by decide +kernel
theorem dX6_copyFrom_78 : decode cX6_copyFrom 78 = .ok (.getfield 27, 3) := by decide +kernel
theorem dX6_copyFrom_81 : decode cX6_copyFrom 81 = .ok (.invokevirtual 70, 3) := by decide +kernel
theorem dX6_copyFrom_84 : decode cX6_copyFrom 84 = .ok (.aload_n 0, 1) := by decide +kernel
theorem dX6_copyFrom_85 : decode cX6_copyFrom 85 = .ok (.getfield 30, 3) := by decide +kernel
theorem dX6_copyFrom_88 : decode cX6_copyFrom 88 = .ok (.aload_n 1, 1) := by decide +kernel
theorem dX6_copyFrom_89 : decode cX6_copyFrom 89 = .ok (.getfield 30, 3) := by decide +kernel
theorem dX6_copyFrom_92 : decode cX6_copyFrom 92 = .ok (.invokevirtual 70, 3) := by decide +kernel
theorem dX6_copyFrom_95 : decode cX6_copyFrom 95 = .ok (.aload_n 0, 1) := by decide +kernel
theorem dX6_copyFrom_96 : decode cX6_copyFrom 96 = .ok (.getfield 33, 3) := by decide +kernel
theorem dX6_copyFrom_99 : decode cX6_copyFrom 99 = .ok (.aload_n 1, 1) := by decide +kernel
theorem dX6_copyFrom_100 : decode cX6_copyFrom 100 = .ok (.getfield 33, 3) := by decide +kernel
theorem dX6_copyFrom_103 : decode cX6_copyFrom 103 = .ok (.invokevirtual 70, 3) := by decide +kernel
theorem dX6_copyFrom_106 : decode cX6_copyFrom 106 = .ok (.aload_n 0, 1) := by decide +kernel
theorem dX6_copyFrom_107 : decode cX6_copyFrom 107 = .ok (.getfield 36, 3) := by decide +kernel
theorem dX6_copyFrom_110 : decode cX6_copyFrom 110 = .ok (.aload_n 1, 1) := by decide +kernel
theorem dX6_copyFrom_111 : decode cX6_copyFrom 111 = .ok (.getfield 36, 3) := by decide +kernel
theorem dX6_copyFrom_114 : decode cX6_copyFrom 114 = .ok (.invokevirtual 70, 3) := by decide +kernel
theorem dX6_copyFrom_117 : decode cX6_copyFrom 117 = .ok (.aload_n 0, 1) := by decide +kernel
theorem dX6_copyFrom_118 : decode cX6_copyFrom 118 = .ok (.getfield 39, 3) := by decide +kernel
theorem dX6_copyFrom_121 : decode cX6_copyFrom 121 = .ok (.aload_n 1, 1) := by decide +kernel
theorem dX6_copyFrom_122 : decode cX6_copyFrom 122 = .ok (.getfield 39, 3) := by decide +kernel
theorem dX6_copyFrom_125 : decode cX6_copyFrom 125 = .ok (.invokevirtual 70, 3) := by decide +kernel
theorem dX6_copyFrom_128 : decode cX6_copyFrom 128 = .ok (.aload_n 0, 1) := by decide +kernel
theorem dX6_copyFrom_129 : decode cX6_copyFrom 129 = .ok (.getfield 42, 3) := by decide +kernel
theorem dX6_copyFrom_132 : decode cX6_copyFrom 132 = .ok (.aload_n 1, 1) := by decide +kernel
theorem dX6_copyFrom_133 : decode cX6_copyFrom 133 = .ok (.getfield 42, 3) := by decide +kernel
theorem dX6_copyFrom_136 : decode cX6_copyFrom 136 = .ok (.invokevirtual 70, 3) := by decide +kernel
theorem dX6_copyFrom_139 : decode cX6_copyFrom 139 = .ok (.aload_n 0, 1) := by decide +kernel
theorem dX6_copyFrom_140 : decode cX6_copyFrom 140 = .ok (.aload_n 1, 1) := by decide +kernel
theorem dX6_copyFrom_141 : decode cX6_copyFrom 141 = .ok (.getfield 51, 3) := by decide +kernel
theorem dX6_copyFrom_144 : decode cX6_copyFrom 144 = .ok (.putfield 51, 3) := by decide +kernel
theorem dX6_copyFrom_147 : decode cX6_copyFrom 147 = .ok (.aload_n 0, 1) := by decide +kernel
theorem dX6_copyFrom_148 : decode cX6_copyFrom 148 = .ok (.aload_n 1, 1) := by decide +kernel
theorem dX6_copyFrom_149 : decode cX6_copyFrom 149 = .ok (.getfield 55, 3) := by decide +kernel
theorem dX6_copyFrom_152 : decode cX6_copyFrom 152 = .ok (.putfield 55, 3) := by decide +kernel
theorem dX6_copyFrom_155 : decode cX6_copyFrom 155 = .ok (.aload_n 0, 1) := by decide +kernel
theorem dX6_copyFrom_156 : decode cX6_copyFrom 156 = .ok (.aload_n 1, 1) := by decide +kernel
theorem dX6_copyFrom_157 : decode cX6_copyFrom 157 = .ok (.getfield 58, 3) := by decide +kernel
theorem dX6_copyFrom_160 : decode cX6_copyFrom 160 = .ok (.putfield 58, 3) := by decide +kernel
theorem dX6_copyFrom_163 : decode cX6_copyFrom 163 = .ok (.aload_n 0, 1) := by decide +kernel
theorem dX6_copyFrom_164 : decode cX6_copyFrom 164 = .ok (.aload_n 1, 1) := by decide +kernel
theorem dX6_copyFrom_165 : decode cX6_copyFrom 165 = .ok (.getfield 61, 3) := by decide +kernel
theorem dX6_copyFrom_168 : decode cX6_copyFrom 168 = .ok (.putfield 61, 3) := by decide +kernel
theorem dX6_copyFrom_171 : decode cX6_copyFrom 171 = .ok (.return_, 1) := by decide +kernel
set_option maxHeartbeats 4000000 in
set_option maxRecDepth 100000 in
theorem c_X6_copyFrom (l : Launch) (E : Nat → ClassId) (D : va_G) (G : th_G) (h0 : Nat) (hG0 : G h0 = some (6, 0)) (p1 : Nat) (hp1 : G p1 = some (6, 0)) : Met l yX6_copyFrom (tb (.code yX6_copyFrom cX6_copyFrom 3 none)) (rm 2) (va_Pc [.ref h0, .ref p1] (th_P E D G)) (QV E D G) 0 0 (th_A G) := by
  refine Met.ofW (cc := cX6_copyFrom) (maxL := 3) (ret := none) (by decide) rfl ?_
  intro p e s m args below meth c s₁ B hml hv
  obtain ⟨hav, hI, hN, hK⟩ := hv
  have hx := B.exec
  have hb := B.bytes
  have hr := B.returns
  have hts := atoms_spec (ws := tb (.code yX6_copyFrom cX6_copyFrom 3 none)) B.pre
  have hown : s.vm.findClass RX6 = some m.cls := findClass_of_methodNamed B.named
  have hlocks := B.notSynchronized
  have hS : va_S (th_A G) s.heap s.heap [] := va_S.rf
  have hl := lv_entry ([.ref h0, .ref p1]) (n := 3) (Nat.le_of_ble_eq_true rfl)
  rw [show entryFrame m args 3 = entryFrame m ([.ref h0, .ref p1] : List Value).toArray 3 from by rw [hav], lg_entry_eq]
  generalize (lg_sl ([.ref h0, .ref p1]) ++ List.replicate (3 - (lg_sl ([.ref h0, .ref p1])).length) Slot.unset).toArray = ls at hl ⊢
  have hl : lv_has ls 3 [(0, .ref h0), (1, .ref p1)] := hl
  generalize hR : (headSpec (tb (.code yX6_copyFrom cX6_copyFrom 3 none)) (rm 2)).room = R
  have hR := hR.symm
  generalize hQ : MQ below (QV E D G) args s 0 0 (th_A G) = QF
  have hQ := hQ.symm
  have J_38 : ∀ (nn : Nat) (H : Heap) (locs : List Loc) (ls : Array Slot) (v6437 : Int32), (Int.toNat (6 - v6437.toInt) = nn) → lv_has ls 3 [(2, .int v6437), (0, .ref h0), (1, .ref p1)] → ((0 : Int) ≤ v6437.toInt ∧ v6437.toInt ≤ 6) → th_I (okC E) D G [] H → va_S (th_A G) s.heap H locs → W p l e R s m args below meth c H locs 0 0 QF (F0 m 38 ls []) := by
    intro nn
    induction nn using Nat.strongRecOn with
    | ind nn ih_38 =>
      intro H locs ls v6437 hm hl k6438 hI hS
      refine lv_iload_n hx hb dX6_copyFrom_38 rfl (lv_at hl 0 rfl) ?_
      refine lv_bipush (v := 6) hx hb dX6_copyFrom_39 (by decide) ?_
      refine lv_icmp_ge (tgt := 62) hx hb dX6_copyFrom_41 (by decide) (fun c6439 => ?_) (fun c6439 => ?_)
      · skip
        have k6440 := iv_le (X := (6)) (Y := v6437.toInt) (by decide) rfl c6439
        refine lv_aload_n hx hb dX6_copyFrom_62 rfl (lv_at hl 1 rfl) ?_
        obtain ⟨a6441, a6443, a6445, a6447, a6449, a6451, a6453, a6455, a6457, a6459, w6461, w6464, w6465, w6466, hO, hq6442, hq6444, hq6446, hq6448, hq6450, hq6452, hq6454, hq6456, hq6458, hq6460, ⟨k6462, k6463⟩⟩ := op_6 hI hG0 List.not_mem_nil
        have hI := th_I.weak (a := h0) hI
        refine th_get hx hb hts inT6 hown hK hO rfl 2 (by decide) (hts _ (tb_c wd_60)) rfl rfl dX6_copyFrom_63 ?_
        refine lv_aload_n hx hb dX6_copyFrom_66 rfl (lv_at hl 2 rfl) ?_
        have hI := th_I.close hI hG0 hO (ok_6 hq6442 hq6444 hq6446 hq6448 hq6450 hq6452 hq6454 hq6456 hq6458 hq6460 ⟨by omega, by omega⟩)
        obtain ⟨a6467, a6469, a6471, a6473, a6475, a6477, a6479, a6481, a6483, a6485, w6487, w6490, w6491, w6492, hO, hq6468, hq6470, hq6472, hq6474, hq6476, hq6478, hq6480, hq6482, hq6484, hq6486, ⟨k6488, k6489⟩⟩ := op_6 hI hp1 List.not_mem_nil
        have hI := th_I.weak (a := p1) hI
        refine th_get hx hb hts inT6 hown hK hO rfl 2 (by decide) (hts _ (tb_c wd_60)) rfl rfl dX6_copyFrom_67 ?_
        have hI := th_I.close hI hp1 hO (ok_6 hq6468 hq6470 hq6472 hq6474 hq6476 hq6478 hq6480 hq6482 hq6484 hq6486 ⟨by omega, by omega⟩)
        refine th_cVv (As := [.ref a6471]) (rest := []) (n := 1) (d := 1) ⟨hx, hb, hml, hown, hts⟩ (c_X4_copyFrom l E D G a6445 8 hq6446 a6471 hq6472) wd_1207 wd_1208 wd_1209 wd_3 wd_1210 (by decide +kernel) ⟨by rw [hR]; exact Nat.le_of_ble_eq_true rfl, by rw [hR]; exact Nat.le_of_ble_eq_true rfl⟩ hI hN hK hS (rc_4 hI hq6446 List.not_mem_nil) rfl rfl hl.1 rfl (Nat.le_of_ble_eq_true rfl) dX6_copyFrom_70 ⟨Nat.zero_le _, Nat.zero_le _⟩ (fun H locs hI hS => ?_)
        refine lv_aload_n hx hb dX6_copyFrom_73 rfl (lv_at hl 1 rfl) ?_
        obtain ⟨a6494, a6496, a6498, a6500, a6502, a6504, a6506, a6508, a6510, a6512, w6514, w6517, w6518, w6519, hO, hq6495, hq6497, hq6499, hq6501, hq6503, hq6505, hq6507, hq6509, hq6511, hq6513, ⟨k6515, k6516⟩⟩ := op_6 hI hG0 List.not_mem_nil
        have hI := th_I.weak (a := h0) hI
        refine th_get hx hb hts inT6 hown hK hO rfl 3 (by decide) (hts _ (tb_c wd_63)) rfl rfl dX6_copyFrom_74 ?_
        refine lv_aload_n hx hb dX6_copyFrom_77 rfl (lv_at hl 2 rfl) ?_
        have hI := th_I.close hI hG0 hO (ok_6 hq6495 hq6497 hq6499 hq6501 hq6503 hq6505 hq6507 hq6509 hq6511 hq6513 ⟨by omega, by omega⟩)
        obtain ⟨a6520, a6522, a6524, a6526, a6528, a6530, a6532, a6534, a6536, a6538, w6540, w6543, w6544, w6545, hO, hq6521, hq6523, hq6525, hq6527, hq6529, hq6531, hq6533, hq6535, hq6537, hq6539, ⟨k6541, k6542⟩⟩ := op_6 hI hp1 List.not_mem_nil
        have hI := th_I.weak (a := p1) hI
        refine th_get hx hb hts inT6 hown hK hO rfl 3 (by decide) (hts _ (tb_c wd_63)) rfl rfl dX6_copyFrom_78 ?_
        have hI := th_I.close hI hp1 hO (ok_6 hq6521 hq6523 hq6525 hq6527 hq6529 hq6531 hq6533 hq6535 hq6537 hq6539 ⟨by omega, by omega⟩)
        refine th_cVv (As := [.ref a6526]) (rest := []) (n := 1) (d := 1) ⟨hx, hb, hml, hown, hts⟩ (c_X4_copyFrom l E D G a6500 6 hq6501 a6526 hq6527) wd_1207 wd_1208 wd_1209 wd_3 wd_1210 (by decide +kernel) ⟨by rw [hR]; exact Nat.le_of_ble_eq_true rfl, by rw [hR]; exact Nat.le_of_ble_eq_true rfl⟩ hI hN hK hS (rc_4 hI hq6501 List.not_mem_nil) rfl rfl hl.1 rfl (Nat.le_of_ble_eq_true rfl) dX6_copyFrom_81 ⟨Nat.zero_le _, Nat.zero_le _⟩ (fun H locs hI hS => ?_)
        refine lv_aload_n hx hb dX6_copyFrom_84 rfl (lv_at hl 1 rfl) ?_
        obtain ⟨a6547, a6549, a6551, a6553, a6555, a6557, a6559, a6561, a6563, a6565, w6567, w6570, w6571, w6572, hO, hq6548, hq6550, hq6552, hq6554, hq6556, hq6558, hq6560, hq6562, hq6564, hq6566, ⟨k6568, k6569⟩⟩ := op_6 hI hG0 List.not_mem_nil
        have hI := th_I.weak (a := h0) hI
        refine th_get hx hb hts inT6 hown hK hO rfl 4 (by decide) (hts _ (tb_c wd_66)) rfl rfl dX6_copyFrom_85 ?_
        refine lv_aload_n hx hb dX6_copyFrom_88 rfl (lv_at hl 2 rfl) ?_
        have hI := th_I.close hI hG0 hO (ok_6 hq6548 hq6550 hq6552 hq6554 hq6556 hq6558 hq6560 hq6562 hq6564 hq6566 ⟨by omega, by omega⟩)
        obtain ⟨a6573, a6575, a6577, a6579, a6581, a6583, a6585, a6587, a6589, a6591, w6593, w6596, w6597, w6598, hO, hq6574, hq6576, hq6578, hq6580, hq6582, hq6584, hq6586, hq6588, hq6590, hq6592, ⟨k6594, k6595⟩⟩ := op_6 hI hp1 List.not_mem_nil
        have hI := th_I.weak (a := p1) hI
        refine th_get hx hb hts inT6 hown hK hO rfl 4 (by decide) (hts _ (tb_c wd_66)) rfl rfl dX6_copyFrom_89 ?_
        have hI := th_I.close hI hp1 hO (ok_6 hq6574 hq6576 hq6578 hq6580 hq6582 hq6584 hq6586 hq6588 hq6590 hq6592 ⟨by omega, by omega⟩)
        refine th_cVv (As := [.ref a6581]) (rest := []) (n := 1) (d := 1) ⟨hx, hb, hml, hown, hts⟩ (c_X4_copyFrom l E D G a6555 6 hq6556 a6581 hq6582) wd_1207 wd_1208 wd_1209 wd_3 wd_1210 (by decide +kernel) ⟨by rw [hR]; exact Nat.le_of_ble_eq_true rfl, by rw [hR]; exact Nat.le_of_ble_eq_true rfl⟩ hI hN hK hS (rc_4 hI hq6556 List.not_mem_nil) rfl rfl hl.1 rfl (Nat.le_of_ble_eq_true rfl) dX6_copyFrom_92 ⟨Nat.zero_le _, Nat.zero_le _⟩ (fun H locs hI hS => ?_)
        refine lv_aload_n hx hb dX6_copyFrom_95 rfl (lv_at hl 1 rfl) ?_
        obtain ⟨a6600, a6602, a6604, a6606, a6608, a6610, a6612, a6614, a6616, a6618, w6620, w6623, w6624, w6625, hO, hq6601, hq6603, hq6605, hq6607, hq6609, hq6611, hq6613, hq6615, hq6617, hq6619, ⟨k6621, k6622⟩⟩ := op_6 hI hG0 List.not_mem_nil
        have hI := th_I.weak (a := h0) hI
        refine th_get hx hb hts inT6 hown hK hO rfl 5 (by decide) (hts _ (tb_c wd_69)) rfl rfl dX6_copyFrom_96 ?_
        refine lv_aload_n hx hb dX6_copyFrom_99 rfl (lv_at hl 2 rfl) ?_
        have hI := th_I.close hI hG0 hO (ok_6 hq6601 hq6603 hq6605 hq6607 hq6609 hq6611 hq6613 hq6615 hq6617 hq6619 ⟨by omega, by omega⟩)
        obtain ⟨a6626, a6628, a6630, a6632, a6634, a6636, a6638, a6640, a6642, a6644, w6646, w6649, w6650, w6651, hO, hq6627, hq6629, hq6631, hq6633, hq6635, hq6637, hq6639, hq6641, hq6643, hq6645, ⟨k6647, k6648⟩⟩ := op_6 hI hp1 List.not_mem_nil
        have hI := th_I.weak (a := p1) hI
        refine th_get hx hb hts inT6 hown hK hO rfl 5 (by decide) (hts _ (tb_c wd_69)) rfl rfl dX6_copyFrom_100 ?_
        have hI := th_I.close hI hp1 hO (ok_6 hq6627 hq6629 hq6631 hq6633 hq6635 hq6637 hq6639 hq6641 hq6643 hq6645 ⟨by omega, by omega⟩)
        refine th_cVv (As := [.ref a6636]) (rest := []) (n := 1) (d := 1) ⟨hx, hb, hml, hown, hts⟩ (c_X4_copyFrom l E D G a6610 16 hq6611 a6636 hq6637) wd_1207 wd_1208 wd_1209 wd_3 wd_1210 (by decide +kernel) ⟨by rw [hR]; exact Nat.le_of_ble_eq_true rfl, by rw [hR]; exact Nat.le_of_ble_eq_true rfl⟩ hI hN hK hS (rc_4 hI hq6611 List.not_mem_nil) rfl rfl hl.1 rfl (Nat.le_of_ble_eq_true rfl) dX6_copyFrom_103 ⟨Nat.zero_le _, Nat.zero_le _⟩ (fun H locs hI hS => ?_)
        refine lv_aload_n hx hb dX6_copyFrom_106 rfl (lv_at hl 1 rfl) ?_
        obtain ⟨a6653, a6655, a6657, a6659, a6661, a6663, a6665, a6667, a6669, a6671, w6673, w6676, w6677, w6678, hO, hq6654, hq6656, hq6658, hq6660, hq6662, hq6664, hq6666, hq6668, hq6670, hq6672, ⟨k6674, k6675⟩⟩ := op_6 hI hG0 List.not_mem_nil
        have hI := th_I.weak (a := h0) hI
        refine th_get hx hb hts inT6 hown hK hO rfl 6 (by decide) (hts _ (tb_c wd_72)) rfl rfl dX6_copyFrom_107 ?_
        refine lv_aload_n hx hb dX6_copyFrom_110 rfl (lv_at hl 2 rfl) ?_
        have hI := th_I.close hI hG0 hO (ok_6 hq6654 hq6656 hq6658 hq6660 hq6662 hq6664 hq6666 hq6668 hq6670 hq6672 ⟨by omega, by omega⟩)
        obtain ⟨a6679, a6681, a6683, a6685, a6687, a6689, a6691, a6693, a6695, a6697, w6699, w6702, w6703, w6704, hO, hq6680, hq6682, hq6684, hq6686, hq6688, hq6690, hq6692, hq6694, hq6696, hq6698, ⟨k6700, k6701⟩⟩ := op_6 hI hp1 List.not_mem_nil
        have hI := th_I.weak (a := p1) hI
        refine th_get hx hb hts inT6 hown hK hO rfl 6 (by decide) (hts _ (tb_c wd_72)) rfl rfl dX6_copyFrom_111 ?_
        have hI := th_I.close hI hp1 hO (ok_6 hq6680 hq6682 hq6684 hq6686 hq6688 hq6690 hq6692 hq6694 hq6696 hq6698 ⟨by omega, by omega⟩)
        refine th_cVv (As := [.ref a6691]) (rest := []) (n := 1) (d := 1) ⟨hx, hb, hml, hown, hts⟩ (c_X4_copyFrom l E D G a6665 10 hq6666 a6691 hq6692) wd_1207 wd_1208 wd_1209 wd_3 wd_1210 (by decide +kernel) ⟨by rw [hR]; exact Nat.le_of_ble_eq_true rfl, by rw [hR]; exact Nat.le_of_ble_eq_true rfl⟩ hI hN hK hS (rc_4 hI hq6666 List.not_mem_nil) rfl rfl hl.1 rfl (Nat.le_of_ble_eq_true rfl) dX6_copyFrom_114 ⟨Nat.zero_le _, Nat.zero_le _⟩ (fun H locs hI hS => ?_)
        refine lv_aload_n hx hb dX6_copyFrom_117 rfl (lv_at hl 1 rfl) ?_
        obtain ⟨a6706, a6708, a6710, a6712, a6714, a6716, a6718, a6720, a6722, a6724, w6726, w6729, w6730, w6731, hO, hq6707, hq6709, hq6711, hq6713, hq6715, hq6717, hq6719, hq6721, hq6723, hq6725, ⟨k6727, k6728⟩⟩ := op_6 hI hG0 List.not_mem_nil
        have hI := th_I.weak (a := h0) hI
        refine th_get hx hb hts inT6 hown hK hO rfl 7 (by decide) (hts _ (tb_c wd_75)) rfl rfl dX6_copyFrom_118 ?_
        refine lv_aload_n hx hb dX6_copyFrom_121 rfl (lv_at hl 2 rfl) ?_
        have hI := th_I.close hI hG0 hO (ok_6 hq6707 hq6709 hq6711 hq6713 hq6715 hq6717 hq6719 hq6721 hq6723 hq6725 ⟨by omega, by omega⟩)
        obtain ⟨a6732, a6734, a6736, a6738, a6740, a6742, a6744, a6746, a6748, a6750, w6752, w6755, w6756, w6757, hO, hq6733, hq6735, hq6737, hq6739, hq6741, hq6743, hq6745, hq6747, hq6749, hq6751, ⟨k6753, k6754⟩⟩ := op_6 hI hp1 List.not_mem_nil
        have hI := th_I.weak (a := p1) hI
        refine th_get hx hb hts inT6 hown hK hO rfl 7 (by decide) (hts _ (tb_c wd_75)) rfl rfl dX6_copyFrom_122 ?_
        have hI := th_I.close hI hp1 hO (ok_6 hq6733 hq6735 hq6737 hq6739 hq6741 hq6743 hq6745 hq6747 hq6749 hq6751 ⟨by omega, by omega⟩)
        refine th_cVv (As := [.ref a6746]) (rest := []) (n := 1) (d := 1) ⟨hx, hb, hml, hown, hts⟩ (c_X4_copyFrom l E D G a6720 6 hq6721 a6746 hq6747) wd_1207 wd_1208 wd_1209 wd_3 wd_1210 (by decide +kernel) ⟨by rw [hR]; exact Nat.le_of_ble_eq_true rfl, by rw [hR]; exact Nat.le_of_ble_eq_true rfl⟩ hI hN hK hS (rc_4 hI hq6721 List.not_mem_nil) rfl rfl hl.1 rfl (Nat.le_of_ble_eq_true rfl) dX6_copyFrom_125 ⟨Nat.zero_le _, Nat.zero_le _⟩ (fun H locs hI hS => ?_)
        refine lv_aload_n hx hb dX6_copyFrom_128 rfl (lv_at hl 1 rfl) ?_
        obtain ⟨a6759, a6761, a6763, a6765, a6767, a6769, a6771, a6773, a6775, a6777, w6779, w6782, w6783, w6784, hO, hq6760, hq6762, hq6764, hq6766, hq6768, hq6770, hq6772, hq6774, hq6776, hq6778, ⟨k6780, k6781⟩⟩ := op_6 hI hG0 List.not_mem_nil
        have hI := th_I.weak (a := h0) hI
        refine th_get hx hb hts inT6 hown hK hO rfl 8 (by decide) (hts _ (tb_c wd_78)) rfl rfl dX6_copyFrom_129 ?_
        refine lv_aload_n hx hb dX6_copyFrom_132 rfl (lv_at hl 2 rfl) ?_
        have hI := th_I.close hI hG0 hO (ok_6 hq6760 hq6762 hq6764 hq6766 hq6768 hq6770 hq6772 hq6774 hq6776 hq6778 ⟨by omega, by omega⟩)
        obtain ⟨a6785, a6787, a6789, a6791, a6793, a6795, a6797, a6799, a6801, a6803, w6805, w6808, w6809, w6810, hO, hq6786, hq6788, hq6790, hq6792, hq6794, hq6796, hq6798, hq6800, hq6802, hq6804, ⟨k6806, k6807⟩⟩ := op_6 hI hp1 List.not_mem_nil
        have hI := th_I.weak (a := p1) hI
        refine th_get hx hb hts inT6 hown hK hO rfl 8 (by decide) (hts _ (tb_c wd_78)) rfl rfl dX6_copyFrom_133 ?_
        have hI := th_I.close hI hp1 hO (ok_6 hq6786 hq6788 hq6790 hq6792 hq6794 hq6796 hq6798 hq6800 hq6802 hq6804 ⟨by omega, by omega⟩)
        refine th_cVv (As := [.ref a6801]) (rest := []) (n := 1) (d := 1) ⟨hx, hb, hml, hown, hts⟩ (c_X4_copyFrom l E D G a6775 6 hq6776 a6801 hq6802) wd_1207 wd_1208 wd_1209 wd_3 wd_1210 (by decide +kernel) ⟨by rw [hR]; exact Nat.le_of_ble_eq_true rfl, by rw [hR]; exact Nat.le_of_ble_eq_true rfl⟩ hI hN hK hS (rc_4 hI hq6776 List.not_mem_nil) rfl rfl hl.1 rfl (Nat.le_of_ble_eq_true rfl) dX6_copyFrom_136 ⟨Nat.zero_le _, Nat.zero_le _⟩ (fun H locs hI hS => ?_)
        refine lv_aload_n hx hb dX6_copyFrom_139 rfl (lv_at hl 1 rfl) ?_
        refine lv_aload_n hx hb dX6_copyFrom_140 rfl (lv_at hl 2 rfl) ?_
        obtain ⟨a6812, a6814, a6816, a6818, a6820, a6822, a6824, a6826, a6828, a6830, w6832, w6835, w6836, w6837, hO, hq6813, hq6815, hq6817, hq6819, hq6821, hq6823, hq6825, hq6827, hq6829, hq6831, ⟨k6833, k6834⟩⟩ := op_6 hI hp1 List.not_mem_nil
        have hI := th_I.weak (a := p1) hI
        refine th_get hx hb hts inT6 hown hK hO rfl 10 (by decide) (hts _ (tb_c wd_82)) rfl rfl dX6_copyFrom_141 ?_
        have hI := th_I.close hI hp1 hO (ok_6 hq6813 hq6815 hq6817 hq6819 hq6821 hq6823 hq6825 hq6827 hq6829 hq6831 ⟨by omega, by omega⟩)
        obtain ⟨a6838, a6840, a6842, a6844, a6846, a6848, a6850, a6852, a6854, a6856, w6858, w6861, w6862, w6863, hO, hq6839, hq6841, hq6843, hq6845, hq6847, hq6849, hq6851, hq6853, hq6855, hq6857, ⟨k6859, k6860⟩⟩ := op_6 hI hG0 List.not_mem_nil
        have hI := th_I.weak (a := h0) hI
        refine th_put (ty := .int) hx hb hts inT6 tyX6 tyX6_ok nmX6 hown hK hO hS ⟨_, hG0⟩ rfl 10 (by decide) (hts _ (tb_c wd_82)) rfl rfl (by decide +kernel) rfl rfl (Nat.le_of_ble_eq_true rfl) dX6_copyFrom_144 (fun H locs hO oq hS => ?_)
        have hI := th_I.moved hI oq
        have hO : va_at D vwCl (h0, .inr (6, [.ref a6838, .ref a6840, .ref a6842, .ref a6844, .ref a6846, .ref a6848, .ref a6850, .ref a6852, .ref a6854, .ref a6856, .int w6832, .int w6861, .int w6862, .int w6863])) H := hO
        refine lv_aload_n hx hb dX6_copyFrom_147 rfl (lv_at hl 1 rfl) ?_
        refine lv_aload_n hx hb dX6_copyFrom_148 rfl (lv_at hl 2 rfl) ?_
        have hI := th_I.close hI hG0 hO (ok_6 hq6839 hq6841 hq6843 hq6845 hq6847 hq6849 hq6851 hq6853 hq6855 hq6857 ⟨by omega, by omega⟩)
        obtain ⟨a6864, a6866, a6868, a6870, a6872, a6874, a6876, a6878, a6880, a6882, w6884, w6887, w6888, w6889, hO, hq6865, hq6867, hq6869, hq6871, hq6873, hq6875, hq6877, hq6879, hq6881, hq6883, ⟨k6885, k6886⟩⟩ := op_6 hI hp1 List.not_mem_nil
        have hI := th_I.weak (a := p1) hI
        refine th_get hx hb hts inT6 hown hK hO rfl 11 (by decide) (hts _ (tb_c wd_84)) rfl rfl dX6_copyFrom_149 ?_
        have hI := th_I.close hI hp1 hO (ok_6 hq6865 hq6867 hq6869 hq6871 hq6873 hq6875 hq6877 hq6879 hq6881 hq6883 ⟨by omega, by omega⟩)
        obtain ⟨a6890, a6892, a6894, a6896, a6898, a6900, a6902, a6904, a6906, a6908, w6910, w6913, w6914, w6915, hO, hq6891, hq6893, hq6895, hq6897, hq6899, hq6901, hq6903, hq6905, hq6907, hq6909, ⟨k6911, k6912⟩⟩ := op_6 hI hG0 List.not_mem_nil
        have hI := th_I.weak (a := h0) hI
        refine th_put (ty := .int) hx hb hts inT6 tyX6 tyX6_ok nmX6 hown hK hO hS ⟨_, hG0⟩ rfl 11 (by decide) (hts _ (tb_c wd_84)) rfl rfl (by decide +kernel) rfl rfl (Nat.le_of_ble_eq_true rfl) dX6_copyFrom_152 (fun H locs hO oq hS => ?_)
        have hI := th_I.moved hI oq
        have hO : va_at D vwCl (h0, .inr (6, [.ref a6890, .ref a6892, .ref a6894, .ref a6896, .ref a6898, .ref a6900, .ref a6902, .ref a6904, .ref a6906, .ref a6908, .int w6910, .int w6887, .int w6914, .int w6915])) H := hO
        refine lv_aload_n hx hb dX6_copyFrom_155 rfl (lv_at hl 1 rfl) ?_
        refine lv_aload_n hx hb dX6_copyFrom_156 rfl (lv_at hl 2 rfl) ?_
        have hI := th_I.close hI hG0 hO (ok_6 hq6891 hq6893 hq6895 hq6897 hq6899 hq6901 hq6903 hq6905 hq6907 hq6909 ⟨by omega, by omega⟩)
        obtain ⟨a6916, a6918, a6920, a6922, a6924, a6926, a6928, a6930, a6932, a6934, w6936, w6939, w6940, w6941, hO, hq6917, hq6919, hq6921, hq6923, hq6925, hq6927, hq6929, hq6931, hq6933, hq6935, ⟨k6937, k6938⟩⟩ := op_6 hI hp1 List.not_mem_nil
        have hI := th_I.weak (a := p1) hI
        refine th_get hx hb hts inT6 hown hK hO rfl 12 (by decide) (hts _ (tb_c wd_86)) rfl rfl dX6_copyFrom_157 ?_
        have hI := th_I.close hI hp1 hO (ok_6 hq6917 hq6919 hq6921 hq6923 hq6925 hq6927 hq6929 hq6931 hq6933 hq6935 ⟨by omega, by omega⟩)
        obtain ⟨a6942, a6944, a6946, a6948, a6950, a6952, a6954, a6956, a6958, a6960, w6962, w6965, w6966, w6967, hO, hq6943, hq6945, hq6947, hq6949, hq6951, hq6953, hq6955, hq6957, hq6959, hq6961, ⟨k6963, k6964⟩⟩ := op_6 hI hG0 List.not_mem_nil
        have hI := th_I.weak (a := h0) hI
        refine th_put (ty := .int) hx hb hts inT6 tyX6 tyX6_ok nmX6 hown hK hO hS ⟨_, hG0⟩ rfl 12 (by decide) (hts _ (tb_c wd_86)) rfl rfl (by decide +kernel) rfl rfl (Nat.le_of_ble_eq_true rfl) dX6_copyFrom_160 (fun H locs hO oq hS => ?_)
        have hI := th_I.moved hI oq
        have hO : va_at D vwCl (h0, .inr (6, [.ref a6942, .ref a6944, .ref a6946, .ref a6948, .ref a6950, .ref a6952, .ref a6954, .ref a6956, .ref a6958, .ref a6960, .int w6962, .int w6965, .int w6940, .int w6967])) H := hO
        refine lv_aload_n hx hb dX6_copyFrom_163 rfl (lv_at hl 1 rfl) ?_
        refine lv_aload_n hx hb dX6_copyFrom_164 rfl (lv_at hl 2 rfl) ?_
        have hI := th_I.close hI hG0 hO (ok_6 hq6943 hq6945 hq6947 hq6949 hq6951 hq6953 hq6955 hq6957 hq6959 hq6961 ⟨by omega, by omega⟩)
        obtain ⟨a6968, a6970, a6972, a6974, a6976, a6978, a6980, a6982, a6984, a6986, w6988, w6991, w6992, w6993, hO, hq6969, hq6971, hq6973, hq6975, hq6977, hq6979, hq6981, hq6983, hq6985, hq6987, ⟨k6989, k6990⟩⟩ := op_6 hI hp1 List.not_mem_nil
        have hI := th_I.weak (a := p1) hI
        refine th_get hx hb hts inT6 hown hK hO rfl 13 (by decide) (hts _ (tb_c wd_90)) rfl rfl dX6_copyFrom_165 ?_
        have hI := th_I.close hI hp1 hO (ok_6 hq6969 hq6971 hq6973 hq6975 hq6977 hq6979 hq6981 hq6983 hq6985 hq6987 ⟨by omega, by omega⟩)
        obtain ⟨a6994, a6996, a6998, a7000, a7002, a7004, a7006, a7008, a7010, a7012, w7014, w7017, w7018, w7019, hO, hq6995, hq6997, hq6999, hq7001, hq7003, hq7005, hq7007, hq7009, hq7011, hq7013, ⟨k7015, k7016⟩⟩ := op_6 hI hG0 List.not_mem_nil
        have hI := th_I.weak (a := h0) hI
        refine th_put (ty := .int) hx hb hts inT6 tyX6 tyX6_ok nmX6 hown hK hO hS ⟨_, hG0⟩ rfl 13 (by decide) (hts _ (tb_c wd_90)) rfl rfl (by decide +kernel) rfl rfl (Nat.le_of_ble_eq_true rfl) dX6_copyFrom_168 (fun H locs hO oq hS => ?_)
        have hI := th_I.moved hI oq
        have hO : va_at D vwCl (h0, .inr (6, [.ref a6994, .ref a6996, .ref a6998, .ref a7000, .ref a7002, .ref a7004, .ref a7006, .ref a7008, .ref a7010, .ref a7012, .int w7014, .int w7017, .int w7018, .int w6993])) H := hO
        have hI := th_I.close hI hG0 hO (ok_6 hq6995 hq6997 hq6999 hq7001 hq7003 hq7005 hq7007 hq7009 hq7011 hq7013 ⟨by omega, by omega⟩)
        rw [hQ]
        exact W.vret hx hb hr (fun t ht hW => ⟨⟨(), rfl, trivial, by rw [ht]; exact hI, hN.warm hW, va_K.moved hW.alike hK⟩, hS.F ht⟩) hS.2.2 dX6_copyFrom_171
      · skip
        have k7020 := iv_nle (X := (6)) (Y := v6437.toInt) (by decide) rfl c6439
        refine lv_aload_n hx hb dX6_copyFrom_44 rfl (lv_at hl 1 rfl) ?_
        obtain ⟨a7021, a7023, a7025, a7027, a7029, a7031, a7033, a7035, a7037, a7039, w7041, w7044, w7045, w7046, hO, hq7022, hq7024, hq7026, hq7028, hq7030, hq7032, hq7034, hq7036, hq7038, hq7040, ⟨k7042, k7043⟩⟩ := op_6 hI hG0 List.not_mem_nil
        have hI := th_I.weak (a := h0) hI
        refine th_get hx hb hts inT6 hown hK hO rfl 9 (by decide) (hts _ (tb_c wd_81)) rfl rfl dX6_copyFrom_45 ?_
        refine lv_iload_n hx hb dX6_copyFrom_48 rfl (lv_at hl 0 rfl) ?_
        refine lv_aload_n hx hb dX6_copyFrom_49 rfl (lv_at hl 2 rfl) ?_
        have hI := th_I.close hI hG0 hO (ok_6 hq7022 hq7024 hq7026 hq7028 hq7030 hq7032 hq7034 hq7036 hq7038 hq7040 ⟨by omega, by omega⟩)
        obtain ⟨a7047, a7049, a7051, a7053, a7055, a7057, a7059, a7061, a7063, a7065, w7067, w7070, w7071, w7072, hO, hq7048, hq7050, hq7052, hq7054, hq7056, hq7058, hq7060, hq7062, hq7064, hq7066, ⟨k7068, k7069⟩⟩ := op_6 hI hp1 List.not_mem_nil
        have hI := th_I.weak (a := p1) hI
        refine th_get hx hb hts inT6 hown hK hO rfl 9 (by decide) (hts _ (tb_c wd_81)) rfl rfl dX6_copyFrom_50 ?_
        refine lv_iload_n hx hb dX6_copyFrom_53 rfl (lv_at hl 0 rfl) ?_
        obtain ⟨g7074, hA7073, hg7075⟩ := op_2 hI hq7066 (th_ne hp1 hq7066 (show (6 : Nat) ≠ 2 by decide))
        refine va_aldq hx hb hK (th_one hA7073) 0 4 rfl rfl (iv_in (X := v6437.toInt) rfl (by omega) (by omega)) dX6_copyFrom_54 ?_
        obtain ⟨r7076, e7077⟩ : ∃ r, r = g7074 v6437.toNatClampNeg := ⟨_, rfl⟩
        rw [← e7077]
        obtain _ | a7078 := r7076
        · skip
          obtain ⟨_, hA7081, hg7082⟩ := op_2 hI hq7040 (th_ne hp1 hq7040 (show (6 : Nat) ≠ 2 by decide))
          refine th_aastN hx hb hK hA7081 4 rfl hS ⟨_, hq7040⟩ (iv_in (X := v6437.toInt) rfl (by omega) (by omega)) dX6_copyFrom_55 (fun H locs hA7081 oq hS => ?_)
          have hI := th_I.put hI hq7040 hA7081 (ok_2 (th_upN hg7082)) oq
          have hO := hO.kept (oq _ (fun z => th_ne hp1 hq7040 (show (6 : Nat) ≠ 2 by decide) (List.mem_singleton.mpr z.symm)))
          obtain ⟨v7083, e7084⟩ : ∃ y : Int32, y = v6437 + (1) := ⟨_, rfl⟩
          have tv7083 : v7083.toInt = v6437.toInt + (1) := iv_add rfl (by decide) e7084 (by omega) (by omega)
          refine lv_iinc (v := v7083) (lv' := [(2, .int v7083), (0, .ref h0), (1, .ref p1)]) hx hb dX6_copyFrom_56 hl (k := 0) rfl (by rw [e7084]; rfl) (by decide) rfl (fun ls hl => ?_)
          refine lv_goto (tgt := 38) hx hb dX6_copyFrom_59 (by decide) ?_
          have hI := th_I.close hI hp1 hO (ok_6 hq7048 hq7050 hq7052 hq7054 hq7056 hq7058 hq7060 hq7062 hq7064 hq7066 ⟨by omega, by omega⟩)
          exact ih_38 _ (by omega) H locs ls v7083 rfl (lv_sub hl [0, 1, 2] rfl) ⟨by omega, by omega⟩ hI hS
        · skip
          obtain ⟨m7080, hq7079⟩ := hg7075 _ _ (th_cl (X := v6437.toInt) rfl (by omega) (by omega)) e7077.symm
          obtain ⟨_, hA7085, hg7086⟩ := op_2 hI hq7040 (th_ne hp1 hq7040 (show (6 : Nat) ≠ 2 by decide))
          obtain ⟨_, hV7087⟩ := rc_5 hI hq7079 (th_ne hp1 hq7079 (show (6 : Nat) ≠ 5 by decide))
          refine th_aast hx hb hK hA7085 4 rfl hV7087 rfl hS ⟨_, hq7040⟩ (iv_in (X := v6437.toInt) rfl (by omega) (by omega)) dX6_copyFrom_55 (fun H locs hA7085 oq hS => ?_)
          have hI := th_I.put hI hq7040 hA7085 (ok_2 (th_upSL hg7086 hq7079)) oq
          have hO := hO.kept (oq _ (fun z => th_ne hp1 hq7040 (show (6 : Nat) ≠ 2 by decide) (List.mem_singleton.mpr z.symm)))
          obtain ⟨v7088, e7089⟩ : ∃ y : Int32, y = v6437 + (1) := ⟨_, rfl⟩
          have tv7088 : v7088.toInt = v6437.toInt + (1) := iv_add rfl (by decide) e7089 (by omega) (by omega)
          refine lv_iinc (v := v7088) (lv' := [(2, .int v7088), (0, .ref h0), (1, .ref p1)]) hx hb dX6_copyFrom_56 hl (k := 0) rfl (by rw [e7089]; rfl) (by decide) rfl (fun ls hl => ?_)
          refine lv_goto (tgt := 38) hx hb dX6_copyFrom_59 (by decide) ?_
          have hI := th_I.close hI hp1 hO (ok_6 hq7048 hq7050 hq7052 hq7054 hq7056 hq7058 hq7060 hq7062 hq7064 hq7066 ⟨by omega, by omega⟩)
          exact ih_38 _ (by omega) H locs ls v7088 rfl (lv_sub hl [0, 1, 2] rfl) ⟨by omega, by omega⟩ hI hS
  refine lv_aload_n hx hb dX6_copyFrom_0 rfl (lv_at hl 1 rfl) ?_
  obtain ⟨a7090, a7092, a7094, a7096, a7098, a7100, a7102, a7104, a7106, a7108, w7110, w7113, w7114, w7115, hO, hq7091, hq7093, hq7095, hq7097, hq7099, hq7101, hq7103, hq7105, hq7107, hq7109, ⟨k7111, k7112⟩⟩ := op_6 hI hp1 List.not_mem_nil
  have hI := th_I.weak (a := p1) hI
  refine th_get hx hb hts inT6 hown hK hO rfl 0 (by decide) (hts _ (tb_c wd_58)) rfl rfl dX6_copyFrom_1 ?_
  refine lv_iconst (v := 0) hx hb dX6_copyFrom_4 (by decide) ?_
  refine lv_aload_n hx hb dX6_copyFrom_5 rfl (lv_at hl 0 rfl) ?_
  have hI := th_I.close hI hp1 hO (ok_6 hq7091 hq7093 hq7095 hq7097 hq7099 hq7101 hq7103 hq7105 hq7107 hq7109 ⟨by omega, by omega⟩)
  obtain ⟨a7116, a7118, a7120, a7122, a7124, a7126, a7128, a7130, a7132, a7134, w7136, w7139, w7140, w7141, hO, hq7117, hq7119, hq7121, hq7123, hq7125, hq7127, hq7129, hq7131, hq7133, hq7135, ⟨k7137, k7138⟩⟩ := op_6 hI hG0 List.not_mem_nil
  have hI := th_I.weak (a := h0) hI
  refine th_get hx hb hts inT6 hown hK hO rfl 0 (by decide) (hts _ (tb_c wd_58)) rfl rfl dX6_copyFrom_6 ?_
  refine lv_iconst (v := 0) hx hb dX6_copyFrom_9 (by decide) ?_
  refine lv_aload_n hx hb dX6_copyFrom_10 rfl (lv_at hl 0 rfl) ?_
  refine th_get hx hb hts inT6 hown hK hO rfl 0 (by decide) (hts _ (tb_c wd_58)) rfl rfl dX6_copyFrom_11 ?_
  obtain ⟨_, hA7142⟩ := op_0 hI hq7117 (th_ne hG0 hq7117 (show (6 : Nat) ≠ 0 by decide))
  refine va_alen hx hb hK (th_one hA7142) 0 0 rfl (v := 10) rfl (show Int32.ofNat 10 = (10 : Int32) from by decide) dX6_copyFrom_14 ?_
  obtain ⟨_, hA7143⟩ := op_0 hI hq7091 (th_ne hG0 hq7091 (show (6 : Nat) ≠ 0 by decide))
  obtain ⟨_, hA7144⟩ := op_0 hI hq7117 (th_ne hG0 hq7117 (show (6 : Nat) ≠ 0 by decide))
  have k7145 : (10 : Int32).toInt = 10 := by decide
  have k7146 : (0 : Int32).toInt = 0 := by decide
  have k7147 : (0 : Int32).toInt = 0 := by decide
  refine th_copyi hx hb (hml.trans hl.1.symm) hown (hts _ (tb_c wd_1206)) (hts _ (tb_c wd_505)) (hts _ (tb_c wd_504)) (hts _ (tb_c wd_14)) hK hA7143 hA7144 0 rfl hS ⟨_, hq7117⟩ (fun z => by have := iv_lt (X := (0)) (Y := 0) (by decide) (by decide) z; omega) (fun z => by have := iv_lt (X := (0)) (Y := 0) (by decide) (by decide) z; omega) (fun z => by have := iv_lt (X := (10)) (Y := 0) (by decide) (by decide) z; omega) (by omega) (by omega) (by rw [hR]; exact Nat.le_of_ble_eq_true rfl) (by rw [hR]; exact Nat.le_of_ble_eq_true rfl) dX6_copyFrom_15 (fun H locs _ hA7144 oq hS => ?_)
  have hI := th_I.put hI hq7117 hA7144 ok_0 oq
  have hO := hO.kept (oq _ (fun z => th_ne hG0 hq7117 (show (6 : Nat) ≠ 0 by decide) (List.mem_singleton.mpr z.symm)))
  refine lv_aload_n hx hb dX6_copyFrom_18 rfl (lv_at hl 1 rfl) ?_
  have hI := th_I.close hI hG0 hO (ok_6 hq7117 hq7119 hq7121 hq7123 hq7125 hq7127 hq7129 hq7131 hq7133 hq7135 ⟨by omega, by omega⟩)
  obtain ⟨a7148, a7150, a7152, a7154, a7156, a7158, a7160, a7162, a7164, a7166, w7168, w7171, w7172, w7173, hO, hq7149, hq7151, hq7153, hq7155, hq7157, hq7159, hq7161, hq7163, hq7165, hq7167, ⟨k7169, k7170⟩⟩ := op_6 hI hp1 List.not_mem_nil
  have hI := th_I.weak (a := p1) hI
  refine th_get hx hb hts inT6 hown hK hO rfl 1 (by decide) (hts _ (tb_c wd_59)) rfl rfl dX6_copyFrom_19 ?_
  refine lv_iconst (v := 0) hx hb dX6_copyFrom_22 (by decide) ?_
  refine lv_aload_n hx hb dX6_copyFrom_23 rfl (lv_at hl 0 rfl) ?_
  have hI := th_I.close hI hp1 hO (ok_6 hq7149 hq7151 hq7153 hq7155 hq7157 hq7159 hq7161 hq7163 hq7165 hq7167 ⟨by omega, by omega⟩)
  obtain ⟨a7174, a7176, a7178, a7180, a7182, a7184, a7186, a7188, a7190, a7192, w7194, w7197, w7198, w7199, hO, hq7175, hq7177, hq7179, hq7181, hq7183, hq7185, hq7187, hq7189, hq7191, hq7193, ⟨k7195, k7196⟩⟩ := op_6 hI hG0 List.not_mem_nil
  have hI := th_I.weak (a := h0) hI
  refine th_get hx hb hts inT6 hown hK hO rfl 1 (by decide) (hts _ (tb_c wd_59)) rfl rfl dX6_copyFrom_24 ?_
  refine lv_iconst (v := 0) hx hb dX6_copyFrom_27 (by decide) ?_
  refine lv_aload_n hx hb dX6_copyFrom_28 rfl (lv_at hl 0 rfl) ?_
  refine th_get hx hb hts inT6 hown hK hO rfl 1 (by decide) (hts _ (tb_c wd_59)) rfl rfl dX6_copyFrom_29 ?_
  obtain ⟨_, hA7200⟩ := op_0 hI hq7177 (th_ne hG0 hq7177 (show (6 : Nat) ≠ 0 by decide))
  refine va_alen hx hb hK (th_one hA7200) 0 0 rfl (v := 96) rfl (show Int32.ofNat 96 = (96 : Int32) from by decide) dX6_copyFrom_32 ?_
  obtain ⟨_, hA7201⟩ := op_0 hI hq7151 (th_ne hG0 hq7151 (show (6 : Nat) ≠ 0 by decide))
  obtain ⟨_, hA7202⟩ := op_0 hI hq7177 (th_ne hG0 hq7177 (show (6 : Nat) ≠ 0 by decide))
  have k7203 : (96 : Int32).toInt = 96 := by decide
  have k7204 : (0 : Int32).toInt = 0 := by decide
  have k7205 : (0 : Int32).toInt = 0 := by decide
  refine th_copyi hx hb (hml.trans hl.1.symm) hown (hts _ (tb_c wd_1206)) (hts _ (tb_c wd_505)) (hts _ (tb_c wd_504)) (hts _ (tb_c wd_14)) hK hA7201 hA7202 0 rfl hS ⟨_, hq7177⟩ (fun z => by have := iv_lt (X := (0)) (Y := 0) (by decide) (by decide) z; omega) (fun z => by have := iv_lt (X := (0)) (Y := 0) (by decide) (by decide) z; omega) (fun z => by have := iv_lt (X := (96)) (Y := 0) (by decide) (by decide) z; omega) (by omega) (by omega) (by rw [hR]; exact Nat.le_of_ble_eq_true rfl) (by rw [hR]; exact Nat.le_of_ble_eq_true rfl) dX6_copyFrom_33 (fun H locs _ hA7202 oq hS => ?_)
  have hI := th_I.put hI hq7177 hA7202 ok_0 oq
  have hO := hO.kept (oq _ (fun z => th_ne hG0 hq7177 (show (6 : Nat) ≠ 0 by decide) (List.mem_singleton.mpr z.symm)))
  refine lv_iconst (v := 0) hx hb dX6_copyFrom_36 (by decide) ?_
  refine lv_istore_n (lv' := [(2, .int 0), (0, .ref h0), (1, .ref p1)]) hx hb dX6_copyFrom_37 rfl hl (by decide) rfl (fun ls hl => ?_)
  have hI := th_I.close hI hG0 hO (ok_6 hq7175 hq7177 hq7179 hq7181 hq7183 hq7185 hq7187 hq7189 hq7191 hq7193 ⟨by omega, by omega⟩)
  have zl : (0 : Int32).toInt = 0 := by decide
  exact J_38 _ H locs ls 0 rfl (lv_sub hl [0, 1, 2] rfl) ⟨by decide, by decide⟩ hI hS
