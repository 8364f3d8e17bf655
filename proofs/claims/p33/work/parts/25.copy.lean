theorem wd_1206 : (Cond.methodLink RX6 (64 : Nat) arraycopyName) ∈ TB := tw 1206 (by decide +kernel) (by decide +kernel)
theorem wd_1207 : (Cond.methodLink RX6 (70 : Nat) yX4_copyFrom) ∈ TB := tw 1207 (by decide +kernel) (by decide +kernel)
theorem wd_1208 : (Jvm.Cond.instanceMethod yX4_copyFrom) ∈ TB := tw 1208 (by decide +kernel) (by decide +kernel)
theorem wd_1209 : (Cond.selects RX4 yX4_copyFrom yX4_copyFrom) ∈ TB := tw 1209 (by decide +kernel) (by decide +kernel)
theorem wd_1210 : (Cond.code yX4_copyFrom cX4_copyFrom 2 (Option.none : Option Jvm.ClassFile.FieldType)) ∈ TB := tw 1210 (by decide +kernel) (by decide +kernel)
theorem wd_60 : (Cond.fieldLink RX6 (23 : Nat) "NineRiver$State" "gates" "LNineRiver$Rows;") ∈ TB := tw 60 (by decide +kernel) (by decide +kernel)
theorem wd_63 : (Cond.fieldLink RX6 (27 : Nat) "NineRiver$State" "mills" "LNineRiver$Rows;") ∈ TB := tw 63 (by decide +kernel) (by decide +kernel)
theorem wd_66 : (Cond.fieldLink RX6 (30 : Nat) "NineRiver$State" "boats" "LNineRiver$Rows;") ∈ TB := tw 66 (by decide +kernel) (by decide +kernel)
theorem wd_69 : (Cond.fieldLink RX6 (33 : Nat) "NineRiver$State" "pours" "LNineRiver$Rows;") ∈ TB := tw 69 (by decide +kernel) (by decide +kernel)
theorem wd_72 : (Cond.fieldLink RX6 (36 : Nat) "NineRiver$State" "sights" "LNineRiver$Rows;") ∈ TB := tw 72 (by decide +kernel) (by decide +kernel)
theorem wd_75 : (Cond.fieldLink RX6 (39 : Nat) "NineRiver$State" "jobs" "LNineRiver$Rows;") ∈ TB := tw 75 (by decide +kernel) (by decide +kernel)
theorem wd_78 : (Cond.fieldLink RX6 (42 : Nat) "NineRiver$State" "wishes" "LNineRiver$Rows;") ∈ TB := tw 78 (by decide +kernel) (by decide +kernel)
theorem wd_86 : (Cond.fieldLink RX6 (58 : Nat) "NineRiver$State" "natural" "I") ∈ TB := tw 86 (by decide +kernel) (by decide +kernel)
theorem wd_90 : (Cond.fieldLink RX6 (61 : Nat) "NineRiver$State" "year" "I") ∈ TB := tw 90 (by decide +kernel) (by decide +kernel)
theorem dX4_copyFrom_0g : (decode cX4_copyFrom 0 = .ok (.aload_n 1, 1)) ∧ (decode cX4_copyFrom 1 = .ok (.getfield 9, 3)) ∧ (decode cX4_copyFrom 4 = .ok (.aload_n 0, 1)) ∧ (decode cX4_copyFrom 5 = .ok (.getfield 21, 3)) ∧ (decode cX4_copyFrom 8 = .ok (.if_icmp .gt 30, 3)) ∧ (decode cX4_copyFrom 11 = .ok (.aload_n 1, 1)) ∧ (decode cX4_copyFrom 12 = .ok (.getfield 24, 3)) ∧ (decode cX4_copyFrom 15 = .ok (.iconst 0, 1)) ∧ (decode cX4_copyFrom 16 = .ok (.aload_n 0, 1)) ∧ (decode cX4_copyFrom 17 = .ok (.getfield 24, 3)) := by decide +kernel
theorem dX4_copyFrom_0 : decode cX4_copyFrom 0 = .ok (.aload_n 1, 1) := dX4_copyFrom_0g.1
theorem dX4_copyFrom_1 : decode cX4_copyFrom 1 = .ok (.getfield 9, 3) := dX4_copyFrom_0g.2.1
theorem dX4_copyFrom_4 : decode cX4_copyFrom 4 = .ok (.aload_n 0, 1) := dX4_copyFrom_0g.2.2.1
theorem dX4_copyFrom_5 : decode cX4_copyFrom 5 = .ok (.getfield 21, 3) := dX4_copyFrom_0g.2.2.2.1
theorem dX4_copyFrom_8 : decode cX4_copyFrom 8 = .ok (.if_icmp .gt 30, 3) := dX4_copyFrom_0g.2.2.2.2.1
theorem dX4_copyFrom_11 : decode cX4_copyFrom 11 = .ok (.aload_n 1, 1) := dX4_copyFrom_0g.2.2.2.2.2.1
theorem dX4_copyFrom_12 : decode cX4_copyFrom 12 = .ok (.getfield 24, 3) := dX4_copyFrom_0g.2.2.2.2.2.2.1
theorem dX4_copyFrom_15 : decode cX4_copyFrom 15 = .ok (.iconst 0, 1) := dX4_copyFrom_0g.2.2.2.2.2.2.2.1
theorem dX4_copyFrom_16 : decode cX4_copyFrom 16 = .ok (.aload_n 0, 1) := dX4_copyFrom_0g.2.2.2.2.2.2.2.2.1
theorem dX4_copyFrom_17 : decode cX4_copyFrom 17 = .ok (.getfield 24, 3) := dX4_copyFrom_0g.2.2.2.2.2.2.2.2.2
theorem dX4_copyFrom_20g : (decode cX4_copyFrom 20 = .ok (.iconst 0, 1)) ∧ (decode cX4_copyFrom 21 = .ok (.aload_n 1, 1)) ∧ (decode cX4_copyFrom 22 = .ok (.getfield 9, 3)) ∧ (decode cX4_copyFrom 25 = .ok (.iconst 4, 1)) ∧ (decode cX4_copyFrom 26 = .ok (.imul, 1)) ∧ (decode cX4_copyFrom 27 = .ok (.invokestatic 36, 3)) ∧ (decode cX4_copyFrom 30 = .ok (.aload_n 0, 1)) ∧ (decode cX4_copyFrom 31 = .ok (.aload_n 1, 1)) ∧ (decode cX4_copyFrom 32 = .ok (.getfield 9, 3)) ∧ (decode cX4_copyFrom 35 = .ok (.putfield 9, 3)) := by decide +kernel
theorem dX4_copyFrom_20 : decode cX4_copyFrom 20 = .ok (.iconst 0, 1) := dX4_copyFrom_20g.1
theorem dX4_copyFrom_21 : decode cX4_copyFrom 21 = .ok (.aload_n 1, 1) := dX4_copyFrom_20g.2.1
theorem dX4_copyFrom_22 : decode cX4_copyFrom 22 = .ok (.getfield 9, 3) := dX4_copyFrom_20g.2.2.1
theorem dX4_copyFrom_25 : decode cX4_copyFrom 25 = .ok (.iconst 4, 1) := dX4_copyFrom_20g.2.2.2.1
theorem dX4_copyFrom_26 : decode cX4_copyFrom 26 = .ok (.imul, 1) := dX4_copyFrom_20g.2.2.2.2.1
theorem dX4_copyFrom_27 : decode cX4_copyFrom 27 = .ok (.invokestatic 36, 3) := dX4_copyFrom_20g.2.2.2.2.2.1
theorem dX4_copyFrom_30 : decode cX4_copyFrom 30 = .ok (.aload_n 0, 1) := dX4_copyFrom_20g.2.2.2.2.2.2.1
theorem dX4_copyFrom_31 : decode cX4_copyFrom 31 = .ok (.aload_n 1, 1) := dX4_copyFrom_20g.2.2.2.2.2.2.2.1
theorem dX4_copyFrom_32 : decode cX4_copyFrom 32 = .ok (.getfield 9, 3) := dX4_copyFrom_20g.2.2.2.2.2.2.2.2.1
theorem dX4_copyFrom_35 : decode cX4_copyFrom 35 = .ok (.putfield 9, 3) := dX4_copyFrom_20g.2.2.2.2.2.2.2.2.2
theorem dX4_copyFrom_38 : decode cX4_copyFrom 38 = .ok (.return_, 1) := by decide +kernel
set_option maxHeartbeats 4000000 in
set_option maxRecDepth 100000 in
theorem c_X4_copyFrom (l : Launch) (E : Nat → Nat) (D : va_G) (G : th_G) (h0 n : Nat) (hG0 : G h0 = some (4, n)) (p1 : Nat) (hp1 : G p1 = some (4, n)) (hun : n < 32) : Met l yX4_copyFrom (tb (.code yX4_copyFrom cX4_copyFrom 2 none)) (rm 1) (va_Pc [.ref h0, .ref p1] (th_P E D G)) (QV E D G) 0 0 (th_A G) := by
  refine Met.ofW (cc := cX4_copyFrom) (maxL := 2) (ret := none) (by decide) rfl ?_
  intro p e s m args below meth c s₁ B hml hv
  obtain ⟨hav, hI, hN, hK⟩ := hv
  have hx := B.exec
  have hb := B.bytes
  have hr := B.returns
  have hts := atoms_spec (ws := tb (.code yX4_copyFrom cX4_copyFrom 2 none)) B.pre
  have hown : s.vm.findClass RX4 = some m.cls := findClass_of_methodNamed B.named
  have hlocks := B.notSynchronized
  have hS : va_S (th_A G) s.heap s.heap [] := va_S.rf
  have hl := lv_entry ([.ref h0, .ref p1]) (n := 2) (Nat.le_of_ble_eq_true rfl)
  rw [show entryFrame m args 2 = entryFrame m ([.ref h0, .ref p1] : List Value).toArray 2 from by rw [hav], lg_entry_eq]
  generalize (lg_sl ([.ref h0, .ref p1]) ++ List.replicate (2 - (lg_sl ([.ref h0, .ref p1])).length) Slot.unset).toArray = ls at hl ⊢
  have hl : lv_has ls 2 [(0, .ref h0), (1, .ref p1)] := hl
  generalize hR : (headSpec (tb (.code yX4_copyFrom cX4_copyFrom 2 none)) (rm 1)).room = R
  have hR := hR.symm
  generalize hQ : MQ below (QV E D G) args s 0 0 (th_A G) = QF
  have hQ := hQ.symm
  refine lv_aload_n hx hb dX4_copyFrom_0 rfl (lv_at hl 1 rfl) ?_
  obtain ⟨a1, w3, hO, hq2, ⟨k4, k5⟩, k6⟩ := op_4 hI hp1 List.not_mem_nil
  have hI := th_I.weak (a := p1) hI
  have k7 : (nI (n % 32)).toInt = ((n % 32 : Nat) : Int) := nI_toInt (by omega)
  have k8 := k6.1
  refine th_get hx hb hts inT4 hown hK hO rfl 2 (by decide) (hts _ (tb_c wd_47)) rfl rfl dX4_copyFrom_1 ?_
  refine lv_aload_n hx hb dX4_copyFrom_4 rfl (lv_at hl 0 rfl) ?_
  have hI := th_I.close hI hp1 hO (ok_4 hq2 ⟨by omega, by omega⟩ k6)
  obtain ⟨a9, w11, hO, hq10, ⟨k12, k13⟩, k14⟩ := op_4 hI hG0 List.not_mem_nil
  have hI := th_I.weak (a := h0) hI
  have k15 : (nI (n % 32)).toInt = ((n % 32 : Nat) : Int) := nI_toInt (by omega)
  have k16 := k14.1
  refine th_get hx hb hts inT4 hown hK hO rfl 0 (by decide) (hts _ (tb_c wd_45)) rfl rfl dX4_copyFrom_5 ?_
  refine lv_icmp_gt (tgt := 38) hx hb dX4_copyFrom_8 (by decide) (fun c17 => ?_) (fun c17 => ?_)
  · skip
    have k18 := iv_lt (X := (nI (n % 32)).toInt) (Y := w3.toInt) rfl rfl c17
    have hI := th_I.close hI hG0 hO (ok_4 hq10 ⟨by omega, by omega⟩ k14)
    rw [hQ]
    exact W.vret hx hb hr (fun t ht hW => ⟨⟨(), rfl, trivial, by rw [ht]; exact hI, hN.warm hW, va_K.moved hW.alike hK⟩, hS.F ht⟩) hS.2.2 dX4_copyFrom_38
  · skip
    have k19 := iv_nlt (X := (nI (n % 32)).toInt) (Y := w3.toInt) rfl rfl c17
    refine lv_aload_n hx hb dX4_copyFrom_11 rfl (lv_at hl 1 rfl) ?_
    have hI := th_I.close hI hG0 hO (ok_4 hq10 ⟨by omega, by omega⟩ k14)
    obtain ⟨a20, w22, hO, hq21, ⟨k23, k24⟩, k25⟩ := op_4 hI hp1 List.not_mem_nil
    have hI := th_I.weak (a := p1) hI
    have k26 : (nI (n % 32)).toInt = ((n % 32 : Nat) : Int) := nI_toInt (by omega)
    have k27 := k25.1
    refine th_get hx hb hts inT4 hown hK hO rfl 1 (by decide) (hts _ (tb_c wd_46)) rfl rfl dX4_copyFrom_12 ?_
    refine lv_iconst (v := 0) hx hb dX4_copyFrom_15 (by decide) ?_
    refine lv_aload_n hx hb dX4_copyFrom_16 rfl (lv_at hl 0 rfl) ?_
    have hI := th_I.close hI hp1 hO (ok_4 hq21 ⟨by omega, by omega⟩ k25)
    obtain ⟨a28, w30, hO, hq29, ⟨k31, k32⟩, k33⟩ := op_4 hI hG0 List.not_mem_nil
    have hI := th_I.weak (a := h0) hI
    have k34 : (nI (n % 32)).toInt = ((n % 32 : Nat) : Int) := nI_toInt (by omega)
    have k35 := k33.1
    refine th_get hx hb hts inT4 hown hK hO rfl 1 (by decide) (hts _ (tb_c wd_46)) rfl rfl dX4_copyFrom_17 ?_
    refine lv_iconst (v := 0) hx hb dX4_copyFrom_20 (by decide) ?_
    refine lv_aload_n hx hb dX4_copyFrom_21 rfl (lv_at hl 1 rfl) ?_
    have hI := th_I.close hI hG0 hO (ok_4 hq29 ⟨by omega, by omega⟩ k33)
    obtain ⟨a36, w38, hO, hq37, ⟨k39, k40⟩, k41⟩ := op_4 hI hp1 List.not_mem_nil
    have hI := th_I.weak (a := p1) hI
    have k42 : (nI (n % 32)).toInt = ((n % 32 : Nat) : Int) := nI_toInt (by omega)
    have k43 := k41.1
    refine th_get hx hb hts inT4 hown hK hO rfl 2 (by decide) (hts _ (tb_c wd_47)) rfl rfl dX4_copyFrom_22 ?_
    refine lv_iconst (v := 4) hx hb dX4_copyFrom_25 (by decide) ?_
    refine lv_imul hx hb dX4_copyFrom_26 ?_
    refine lv_topi (fun v44 e45 => ?_)
    have tv44 : v44.toInt = w38.toInt * (4) := iv_mul rfl (by decide) e45 (by omega) (by omega)
    obtain ⟨_, hA46⟩ := op_0 hI hq21 (th_ne hp1 hq21 (show (4 : Nat) ≠ 0 by decide))
    obtain ⟨_, hA47⟩ := op_0 hI hq29 (th_ne hp1 hq29 (show (4 : Nat) ≠ 0 by decide))
    have k48 : (0 : Int32).toInt = 0 := by decide
    have k49 : (0 : Int32).toInt = 0 := by decide
    refine th_copyi hx hb (hml.trans hl.1.symm) hown (hts _ (tb_c wd_503)) (hts _ (tb_c wd_505)) (hts _ (tb_c wd_504)) (hts _ (tb_c wd_14)) hK hA46 hA47 0 rfl hS ⟨_, hq29⟩ (fun z => by have := iv_lt (X := (0)) (Y := 0) (by decide) (by decide) z; omega) (fun z => by have := iv_lt (X := (0)) (Y := 0) (by decide) (by decide) z; omega) (fun z => by have := iv_lt (X := v44.toInt) (Y := 0) rfl (by decide) z; omega) (by omega) (by omega) (by rw [hR]; exact Nat.le_of_ble_eq_true rfl) (by rw [hR]; exact Nat.le_of_ble_eq_true rfl) dX4_copyFrom_27 (fun H locs _ hA47 oq hS => ?_)
    have hI := th_I.put hI hq29 hA47 ok_0 oq
    have hO := hO.kept (oq _ (fun z => th_ne hp1 hq29 (show (4 : Nat) ≠ 0 by decide) (List.mem_singleton.mpr z.symm)))
    refine lv_aload_n hx hb dX4_copyFrom_30 rfl (lv_at hl 0 rfl) ?_
    refine lv_aload_n hx hb dX4_copyFrom_31 rfl (lv_at hl 1 rfl) ?_
    refine th_get hx hb hts inT4 hown hK hO rfl 2 (by decide) (hts _ (tb_c wd_47)) rfl rfl dX4_copyFrom_32 ?_
    have hI := th_I.close hI hp1 hO (ok_4 hq37 ⟨by omega, by omega⟩ k41)
    obtain ⟨a50, w52, hO, hq51, ⟨k53, k54⟩, k55⟩ := op_4 hI hG0 List.not_mem_nil
    have hI := th_I.weak (a := h0) hI
    have k56 : (nI (n % 32)).toInt = ((n % 32 : Nat) : Int) := nI_toInt (by omega)
    have k57 := k55.1
    refine th_put (ty := .int) hx hb hts inT4 tyX4 tyX4_ok nmX4 hown hK hO hS ⟨_, hG0⟩ rfl 2 (by decide) (hts _ (tb_c wd_47)) rfl rfl (by decide +kernel) rfl rfl (Nat.le_of_ble_eq_true rfl) dX4_copyFrom_35 (fun H locs hO oq hS => ?_)
    have hI := th_I.moved hI oq
    have hO : va_at D vwCl (h0, .inr (4, [.int (nI (n % 32)), .ref a50, .int w38])) H := hO
    have k58 : n % 32 ≤ 16 ∧ eaV n (E (32 + 8 * h0)) w38 := ⟨by omega, Or.inl hun⟩
    have hI := th_I.close hI hG0 hO (ok_4 hq51 ⟨by omega, by omega⟩ k58)
    rw [hQ]
    exact W.vret hx hb hr (fun t ht hW => ⟨⟨(), rfl, trivial, by rw [ht]; exact hI, hN.warm hW, va_K.moved hW.alike hK⟩, hS.F ht⟩) hS.2.2 dX4_copyFrom_38
set_option maxHeartbeats 4000000 in
set_option maxRecDepth 100000 in
theorem c_X4_copyFrom_T (l : Launch) (E : Nat → Nat) (D : va_G) (G : th_G) (h0 n : Nat) (hG0 : G h0 = some (4, n)) (p1 : Nat) (hp1 : G p1 = some (4, n)) (htr : 32 ≤ n) : Met l yX4_copyFrom (tb (.code yX4_copyFrom cX4_copyFrom 2 none)) (rm 1) (va_Pc [.ref h0, .ref p1] (th_P E D G)) (QV (eu E (32 + 8 * h0) (E (32 + 8 * p1))) D G) 0 0 (th_A G) := by
  refine Met.ofW (cc := cX4_copyFrom) (maxL := 2) (ret := none) (by decide) rfl ?_
  intro p e s m args below meth c s₁ B hml hv
  obtain ⟨hav, hI, hN, hK⟩ := hv
  have hx := B.exec
  have hb := B.bytes
  have hr := B.returns
  have hts := atoms_spec (ws := tb (.code yX4_copyFrom cX4_copyFrom 2 none)) B.pre
  have hown : s.vm.findClass RX4 = some m.cls := findClass_of_methodNamed B.named
  have hlocks := B.notSynchronized
  have hS : va_S (th_A G) s.heap s.heap [] := va_S.rf
  have hl := lv_entry ([.ref h0, .ref p1]) (n := 2) (Nat.le_of_ble_eq_true rfl)
  rw [show entryFrame m args 2 = entryFrame m ([.ref h0, .ref p1] : List Value).toArray 2 from by rw [hav], lg_entry_eq]
  generalize (lg_sl ([.ref h0, .ref p1]) ++ List.replicate (2 - (lg_sl ([.ref h0, .ref p1])).length) Slot.unset).toArray = ls at hl ⊢
  have hl : lv_has ls 2 [(0, .ref h0), (1, .ref p1)] := hl
  generalize hR : (headSpec (tb (.code yX4_copyFrom cX4_copyFrom 2 none)) (rm 1)).room = R
  have hR := hR.symm
  generalize hQ : MQ below (QV (eu E (32 + 8 * h0) (E (32 + 8 * p1))) D G) args s 0 0 (th_A G) = QF
  have hQ := hQ.symm
  refine lv_aload_n hx hb dX4_copyFrom_0 rfl (lv_at hl 1 rfl) ?_
  obtain ⟨a1, w3, hO, hq2, ⟨k4, k5⟩, k6⟩ := op_4 hI hp1 List.not_mem_nil
  have hI := th_I.weak (a := p1) hI
  have k7 : (nI (n % 32)).toInt = ((n % 32 : Nat) : Int) := nI_toInt (by omega)
  have k8 := k6.1
  have k9 := eaV_t k6.2 (by omega)
  refine th_get hx hb hts inT4 hown hK hO rfl 2 (by decide) (hts _ (tb_c wd_47)) rfl rfl dX4_copyFrom_1 ?_
  refine lv_aload_n hx hb dX4_copyFrom_4 rfl (lv_at hl 0 rfl) ?_
  have hI := th_I.close hI hp1 hO (ok_4 hq2 ⟨by omega, by omega⟩ k6)
  obtain ⟨a10, w12, hO, hq11, ⟨k13, k14⟩, k15⟩ := op_4 hI hG0 List.not_mem_nil
  have hI := th_I.weak (a := h0) hI
  have k16 : (nI (n % 32)).toInt = ((n % 32 : Nat) : Int) := nI_toInt (by omega)
  have k17 := k15.1
  have k18 := eaV_t k15.2 (by omega)
  refine th_get hx hb hts inT4 hown hK hO rfl 0 (by decide) (hts _ (tb_c wd_45)) rfl rfl dX4_copyFrom_5 ?_
  refine lv_icmp_gt (tgt := 38) hx hb dX4_copyFrom_8 (by decide) (fun c19 => ?_) (fun c19 => ?_)
  · skip
    have k20 := iv_lt (X := (nI (n % 32)).toInt) (Y := w3.toInt) rfl rfl c19
    have hI := th_I.close hI hG0 hO (ok_4 hq11 ⟨by omega, by omega⟩ k15)
    have hEt : eu E (32 + 8 * h0) (E (32 + 8 * p1)) = E := eu_id (by first | (exact gI_f (by (try simp only [rg]); omega)) | (exact gD_f (by (try simp only [rg]); omega)) | omega)
    have hI : th_I (okC (eu E (32 + 8 * h0) (E (32 + 8 * p1)))) D G [] s.heap := by rw [hEt]; exact hI
    have hK : va_K D vwCl (th_tys (eu E (32 + 8 * h0) (E (32 + 8 * p1)))) s := by rw [hEt]; exact hK
    rw [hQ]
    exact W.vret hx hb hr (fun t ht hW => ⟨⟨(), rfl, trivial, by rw [ht]; exact hI, hN.warm hW, va_K.moved hW.alike hK⟩, hS.F ht⟩) hS.2.2 dX4_copyFrom_38
  · skip
    have k21 := iv_nlt (X := (nI (n % 32)).toInt) (Y := w3.toInt) rfl rfl c19
    refine lv_aload_n hx hb dX4_copyFrom_11 rfl (lv_at hl 1 rfl) ?_
    have hI := th_I.close hI hG0 hO (ok_4 hq11 ⟨by omega, by omega⟩ k15)
    obtain ⟨a22, w24, hO, hq23, ⟨k25, k26⟩, k27⟩ := op_4 hI hp1 List.not_mem_nil
    have hI := th_I.weak (a := p1) hI
    have k28 : (nI (n % 32)).toInt = ((n % 32 : Nat) : Int) := nI_toInt (by omega)
    have k29 := k27.1
    have k30 := eaV_t k27.2 (by omega)
    refine th_get hx hb hts inT4 hown hK hO rfl 1 (by decide) (hts _ (tb_c wd_46)) rfl rfl dX4_copyFrom_12 ?_
    refine lv_iconst (v := 0) hx hb dX4_copyFrom_15 (by decide) ?_
    refine lv_aload_n hx hb dX4_copyFrom_16 rfl (lv_at hl 0 rfl) ?_
    have hI := th_I.close hI hp1 hO (ok_4 hq23 ⟨by omega, by omega⟩ k27)
    obtain ⟨a31, w33, hO, hq32, ⟨k34, k35⟩, k36⟩ := op_4 hI hG0 List.not_mem_nil
    have hI := th_I.weak (a := h0) hI
    have k37 : (nI (n % 32)).toInt = ((n % 32 : Nat) : Int) := nI_toInt (by omega)
    have k38 := k36.1
    have k39 := eaV_t k36.2 (by omega)
    refine th_get hx hb hts inT4 hown hK hO rfl 1 (by decide) (hts _ (tb_c wd_46)) rfl rfl dX4_copyFrom_17 ?_
    refine lv_iconst (v := 0) hx hb dX4_copyFrom_20 (by decide) ?_
    refine lv_aload_n hx hb dX4_copyFrom_21 rfl (lv_at hl 1 rfl) ?_
    have hI := th_I.close hI hG0 hO (ok_4 hq32 ⟨by omega, by omega⟩ k36)
    obtain ⟨a40, w42, hO, hq41, ⟨k43, k44⟩, k45⟩ := op_4 hI hp1 List.not_mem_nil
    have hI := th_I.weak (a := p1) hI
    have k46 : (nI (n % 32)).toInt = ((n % 32 : Nat) : Int) := nI_toInt (by omega)
    have k47 := k45.1
    have k48 := eaV_t k45.2 (by omega)
    refine th_get hx hb hts inT4 hown hK hO rfl 2 (by decide) (hts _ (tb_c wd_47)) rfl rfl dX4_copyFrom_22 ?_
    refine lv_iconst (v := 4) hx hb dX4_copyFrom_25 (by decide) ?_
    refine lv_imul hx hb dX4_copyFrom_26 ?_
    refine lv_topi (fun v49 e50 => ?_)
    have tv49 : v49.toInt = w42.toInt * (4) := iv_mul rfl (by decide) e50 (by omega) (by omega)
    obtain ⟨_, hA51⟩ := op_0 hI hq23 (th_ne hp1 hq23 (show (4 : Nat) ≠ 0 by decide))
    obtain ⟨_, hA52⟩ := op_0 hI hq32 (th_ne hp1 hq32 (show (4 : Nat) ≠ 0 by decide))
    have k53 : (0 : Int32).toInt = 0 := by decide
    have k54 : (0 : Int32).toInt = 0 := by decide
    refine th_copyi hx hb (hml.trans hl.1.symm) hown (hts _ (tb_c wd_503)) (hts _ (tb_c wd_505)) (hts _ (tb_c wd_504)) (hts _ (tb_c wd_14)) hK hA51 hA52 0 rfl hS ⟨_, hq32⟩ (fun z => by have := iv_lt (X := (0)) (Y := 0) (by decide) (by decide) z; omega) (fun z => by have := iv_lt (X := (0)) (Y := 0) (by decide) (by decide) z; omega) (fun z => by have := iv_lt (X := v49.toInt) (Y := 0) rfl (by decide) z; omega) (by omega) (by omega) (by rw [hR]; exact Nat.le_of_ble_eq_true rfl) (by rw [hR]; exact Nat.le_of_ble_eq_true rfl) dX4_copyFrom_27 (fun H locs _ hA52 oq hS => ?_)
    have hI := th_I.put hI hq32 hA52 ok_0 oq
    have hO := hO.kept (oq _ (fun z => th_ne hp1 hq32 (show (4 : Nat) ≠ 0 by decide) (List.mem_singleton.mpr z.symm)))
    refine lv_aload_n hx hb dX4_copyFrom_30 rfl (lv_at hl 0 rfl) ?_
    refine lv_aload_n hx hb dX4_copyFrom_31 rfl (lv_at hl 1 rfl) ?_
    refine th_get hx hb hts inT4 hown hK hO rfl 2 (by decide) (hts _ (tb_c wd_47)) rfl rfl dX4_copyFrom_32 ?_
    have hI := th_I.close hI hp1 hO (ok_4 hq41 ⟨by omega, by omega⟩ k45)
    obtain ⟨a55, w57, hO, hq56, ⟨k58, k59⟩, k60⟩ := op_4 hI hG0 List.not_mem_nil
    have hI := th_I.weak (a := h0) hI
    have k61 : (nI (n % 32)).toInt = ((n % 32 : Nat) : Int) := nI_toInt (by omega)
    have k62 := k60.1
    have k63 := eaV_t k60.2 (by omega)
    refine th_put (ty := .int) hx hb hts inT4 tyX4 tyX4_ok nmX4 hown hK hO hS ⟨_, hG0⟩ rfl 2 (by decide) (hts _ (tb_c wd_47)) rfl rfl (by decide +kernel) rfl rfl (Nat.le_of_ble_eq_true rfl) dX4_copyFrom_35 (fun H locs hO oq hS => ?_)
    have hI := th_I.moved hI oq
    have hO : va_at D vwCl (h0, .inr (4, [.int (nI (n % 32)), .ref a55, .int w42])) H := hO
    obtain ⟨Eu64, hEu64⟩ : ∃ x : Nat → Nat, x = eu E (32 + 8 * h0) ((w42 : Int32).toInt.toNat) := ⟨_, rfl⟩
    have hI : th_I (okC Eu64) D G [] H := by rw [hEu64]; exact ea_close hI hG0 hO ⟨by omega, by omega⟩ (ok_4 hq56 ⟨by omega, by omega⟩ ⟨by omega, Or.inr (by rw [eu_at]; omega)⟩)
    have hK : va_K D vwCl (th_tys Eu64) s := by rw [hEu64, tys_eu (by omega)]; exact hK
    have zEu64 : Eu64 (32 + 8 * h0) = ((w42 : Int32).toInt.toNat) := by rw [hEu64]; exact eu_at
    have hEt : eu E (32 + 8 * h0) (E (32 + 8 * p1)) = Eu64 := (congrArg (fun z => eu E (32 + 8 * h0) z) (show E (32 + 8 * p1) = _ from by first | rfl | omega | (rw [gI_f (by (try simp only [rg]); omega)]; omega) | (rw [gI_t (by (try simp only [rg]); omega), gI_t (by omega)]) | (rw [gI_t (by (try simp only [rg]); omega)]; omega) | (rw [gD_t (by (try simp only [rg]); omega), gD_t (by omega)]) | (rw [gD_t (by (try simp only [rg]); omega)]; omega))).trans hEu64.symm
    rw [← hEt] at hI hK
    rw [hQ]
    exact W.vret hx hb hr (fun t ht hW => ⟨⟨(), rfl, trivial, by rw [ht]; exact hI, hN.warm hW, va_K.moved hW.alike hK⟩, hS.F ht⟩) hS.2.2 dX4_copyFrom_38
theorem dX6_keepLaw_0g : (decode cX6_keepLaw 0 = .ok (.aload_n 0, 1)) ∧ (decode cX6_keepLaw 1 = .ok (.getfield 51, 3)) ∧ (decode cX6_keepLaw 4 = .ok (.bipush 6, 2)) ∧ (decode cX6_keepLaw 6 = .ok (.if_icmp .lt 5, 3)) ∧ (decode cX6_keepLaw 9 = .ok (.iconst (-1), 1)) ∧ (decode cX6_keepLaw 10 = .ok (.ireturn, 1)) ∧ (decode cX6_keepLaw 11 = .ok (.aload_n 0, 1)) ∧ (decode cX6_keepLaw 12 = .ok (.getfield 47, 3)) ∧ (decode cX6_keepLaw 15 = .ok (.aload_n 0, 1)) ∧ (decode cX6_keepLaw 16 = .ok (.getfield 51, 3)) := by decide +kernel
theorem dX6_keepLaw_0 : decode cX6_keepLaw 0 = .ok (.aload_n 0, 1) := dX6_keepLaw_0g.1
theorem dX6_keepLaw_1 : decode cX6_keepLaw 1 = .ok (.getfield 51, 3) := dX6_keepLaw_0g.2.1
theorem dX6_keepLaw_4 : decode cX6_keepLaw 4 = .ok (.bipush 6, 2) := dX6_keepLaw_0g.2.2.1
theorem dX6_keepLaw_6 : decode cX6_keepLaw 6 = .ok (.if_icmp .lt 5, 3) := dX6_keepLaw_0g.2.2.2.1
theorem dX6_keepLaw_9 : decode cX6_keepLaw 9 = .ok (.iconst (-1), 1) := dX6_keepLaw_0g.2.2.2.2.1
theorem dX6_keepLaw_10 : decode cX6_keepLaw 10 = .ok (.ireturn, 1) := dX6_keepLaw_0g.2.2.2.2.2.1
theorem dX6_keepLaw_11 : decode cX6_keepLaw 11 = .ok (.aload_n 0, 1) := dX6_keepLaw_0g.2.2.2.2.2.2.1
theorem dX6_keepLaw_12 : decode cX6_keepLaw 12 = .ok (.getfield 47, 3) := dX6_keepLaw_0g.2.2.2.2.2.2.2.1
theorem dX6_keepLaw_15 : decode cX6_keepLaw 15 = .ok (.aload_n 0, 1) := dX6_keepLaw_0g.2.2.2.2.2.2.2.2.1
theorem dX6_keepLaw_16 : decode cX6_keepLaw 16 = .ok (.getfield 51, 3) := dX6_keepLaw_0g.2.2.2.2.2.2.2.2.2
theorem dX6_keepLaw_19g : (decode cX6_keepLaw 19 = .ok (.aload_n 1, 1)) ∧ (decode cX6_keepLaw 20 = .ok (.aastore, 1)) ∧ (decode cX6_keepLaw 21 = .ok (.aload_n 0, 1)) ∧ (decode cX6_keepLaw 22 = .ok (.dup, 1)) ∧ (decode cX6_keepLaw 23 = .ok (.getfield 51, 3)) ∧ (decode cX6_keepLaw 26 = .ok (.iconst 1, 1)) ∧ (decode cX6_keepLaw 27 = .ok (.iadd, 1)) ∧ (decode cX6_keepLaw 28 = .ok (.putfield 51, 3)) ∧ (decode cX6_keepLaw 31 = .ok (.aload_n 0, 1)) ∧ (decode cX6_keepLaw 32 = .ok (.getfield 51, 3)) := by decide +kernel
theorem dX6_keepLaw_19 : decode cX6_keepLaw 19 = .ok (.aload_n 1, 1) := dX6_keepLaw_19g.1
theorem dX6_keepLaw_20 : decode cX6_keepLaw 20 = .ok (.aastore, 1) := dX6_keepLaw_19g.2.1
theorem dX6_keepLaw_21 : decode cX6_keepLaw 21 = .ok (.aload_n 0, 1) := dX6_keepLaw_19g.2.2.1
theorem dX6_keepLaw_22 : decode cX6_keepLaw 22 = .ok (.dup, 1) := dX6_keepLaw_19g.2.2.2.1
theorem dX6_keepLaw_23 : decode cX6_keepLaw 23 = .ok (.getfield 51, 3) := dX6_keepLaw_19g.2.2.2.2.1
theorem dX6_keepLaw_26 : decode cX6_keepLaw 26 = .ok (.iconst 1, 1) := dX6_keepLaw_19g.2.2.2.2.2.1
theorem dX6_keepLaw_27 : decode cX6_keepLaw 27 = .ok (.iadd, 1) := dX6_keepLaw_19g.2.2.2.2.2.2.1
theorem dX6_keepLaw_28 : decode cX6_keepLaw 28 = .ok (.putfield 51, 3) := dX6_keepLaw_19g.2.2.2.2.2.2.2.1
theorem dX6_keepLaw_31 : decode cX6_keepLaw 31 = .ok (.aload_n 0, 1) := dX6_keepLaw_19g.2.2.2.2.2.2.2.2.1
theorem dX6_keepLaw_32 : decode cX6_keepLaw 32 = .ok (.getfield 51, 3) := dX6_keepLaw_19g.2.2.2.2.2.2.2.2.2
theorem dX6_keepLaw_35g : (decode cX6_keepLaw 35 = .ok (.iconst 1, 1)) ∧ (decode cX6_keepLaw 36 = .ok (.isub, 1)) ∧ (decode cX6_keepLaw 37 = .ok (.ireturn, 1)) := by decide +kernel
theorem dX6_keepLaw_35 : decode cX6_keepLaw 35 = .ok (.iconst 1, 1) := dX6_keepLaw_35g.1
theorem dX6_keepLaw_36 : decode cX6_keepLaw 36 = .ok (.isub, 1) := dX6_keepLaw_35g.2.1
theorem dX6_keepLaw_37 : decode cX6_keepLaw 37 = .ok (.ireturn, 1) := dX6_keepLaw_35g.2.2
set_option maxHeartbeats 4000000 in
set_option maxRecDepth 100000 in
theorem c_X6_keepLaw (l : Launch) (E : Nat → Nat) (D : va_G) (G : th_G) (h0 : Nat) (hG0 : G h0 = some (6, 0)) (p1 n1 : Nat) (hp1 : G p1 = some (5, n1)) : Met l yX6_keepLaw (tb (.code yX6_keepLaw cX6_keepLaw 2 (some .int))) (rm 0) (va_Pc [.ref h0, .ref p1] (th_P E D G)) (QI E D G (fun r => True)) 0 0 (th_A G) := by
  refine Met.ofW (cc := cX6_keepLaw) (maxL := 2) (ret := (some .int)) (by decide) rfl ?_
  intro p e s m args below meth c s₁ B hml hv
  obtain ⟨hav, hI, hN, hK⟩ := hv
  have hx := B.exec
  have hb := B.bytes
  have hr := B.returns
  have hts := atoms_spec (ws := tb (.code yX6_keepLaw cX6_keepLaw 2 (some .int))) B.pre
  have hown : s.vm.findClass RX6 = some m.cls := findClass_of_methodNamed B.named
  have hlocks := B.notSynchronized
  have hS : va_S (th_A G) s.heap s.heap [] := va_S.rf
  have hl := lv_entry ([.ref h0, .ref p1]) (n := 2) (Nat.le_of_ble_eq_true rfl)
  rw [show entryFrame m args 2 = entryFrame m ([.ref h0, .ref p1] : List Value).toArray 2 from by rw [hav], lg_entry_eq]
  generalize (lg_sl ([.ref h0, .ref p1]) ++ List.replicate (2 - (lg_sl ([.ref h0, .ref p1])).length) Slot.unset).toArray = ls at hl ⊢
  have hl : lv_has ls 2 [(0, .ref h0), (1, .ref p1)] := hl
  generalize hR : (headSpec (tb (.code yX6_keepLaw cX6_keepLaw 2 (some .int))) (rm 0)).room = R
  have hR := hR.symm
  generalize hQ : MQ below (QI E D G (fun r => True)) args s 0 0 (th_A G) = QF
  have hQ := hQ.symm
  refine lv_aload_n hx hb dX6_keepLaw_0 rfl (lv_at hl 0 rfl) ?_
  obtain ⟨a1, a3, a5, a7, a9, a11, a13, a15, a17, a19, w21, w24, w25, w26, hO, hq2, hq4, hq6, hq8, hq10, hq12, hq14, hq16, hq18, hq20, ⟨k22, k23⟩, k27⟩ := op_6 hI hG0 List.not_mem_nil
  have hI := th_I.weak (a := h0) hI
  refine th_get hx hb hts inT6 hown hK hO rfl 10 (by decide) (hts _ (tb_c wd_82)) rfl rfl dX6_keepLaw_1 ?_
  refine lv_bipush (v := 6) hx hb dX6_keepLaw_4 (by decide) ?_
  refine lv_icmp_lt (tgt := 11) hx hb dX6_keepLaw_6 (by decide) (fun c28 => ?_) (fun c28 => ?_)
  · skip
    have k29 := iv_lt (X := w21.toInt) (Y := (6)) rfl (by decide) c28
    refine lv_aload_n hx hb dX6_keepLaw_11 rfl (lv_at hl 0 rfl) ?_
    refine th_get hx hb hts inT6 hown hK hO rfl 9 (by decide) (hts _ (tb_c wd_81)) rfl rfl dX6_keepLaw_12 ?_
    refine lv_aload_n hx hb dX6_keepLaw_15 rfl (lv_at hl 0 rfl) ?_
    refine th_get hx hb hts inT6 hown hK hO rfl 10 (by decide) (hts _ (tb_c wd_82)) rfl rfl dX6_keepLaw_16 ?_
    refine lv_aload_n hx hb dX6_keepLaw_19 rfl (lv_at hl 1 rfl) ?_
    obtain ⟨_, hA30, hg31⟩ := op_2 hI hq20 (th_ne hG0 hq20 (show (6 : Nat) ≠ 2 by decide))
    obtain ⟨_, hV32⟩ := rc_5 hI hp1 (th_ne hG0 hp1 (show (6 : Nat) ≠ 5 by decide))
    refine th_aast hx hb hK hA30 4 rfl hV32 rfl hS ⟨_, hq20⟩ (iv_in (X := w21.toInt) rfl (by omega) (by omega)) dX6_keepLaw_20 (fun H locs hA30 oq hS => ?_)
    have hI := th_I.put hI hq20 hA30 (ok_2 (th_upSL hg31 hp1)) oq
    have hO := hO.kept (oq _ (fun z => th_ne hG0 hq20 (show (6 : Nat) ≠ 2 by decide) (List.mem_singleton.mpr z.symm)))
    refine lv_aload_n hx hb dX6_keepLaw_21 rfl (lv_at hl 0 rfl) ?_
    refine lv_dup hx hb dX6_keepLaw_22 rfl ?_
    refine th_get hx hb hts inT6 hown hK hO rfl 10 (by decide) (hts _ (tb_c wd_82)) rfl rfl dX6_keepLaw_23 ?_
    refine lv_iconst (v := 1) hx hb dX6_keepLaw_26 (by decide) ?_
    refine lv_iadd hx hb dX6_keepLaw_27 ?_
    refine lv_topi (fun v33 e34 => ?_)
    have tv33 : v33.toInt = w21.toInt + (1) := iv_add rfl (by decide) e34 (by omega) (by omega)
    refine th_put (ty := .int) hx hb hts inT6 tyX6 tyX6_ok nmX6 hown hK hO hS ⟨_, hG0⟩ rfl 10 (by decide) (hts _ (tb_c wd_82)) rfl rfl (by decide +kernel) rfl rfl (Nat.le_of_ble_eq_true rfl) dX6_keepLaw_28 (fun H locs hO oq hS => ?_)
    have hI := th_I.moved hI oq
    have hO : va_at D vwCl (h0, .inr (6, [.ref a1, .ref a3, .ref a5, .ref a7, .ref a9, .ref a11, .ref a13, .ref a15, .ref a17, .ref a19, .int v33, .int w24, .int w25, .int w26])) H := hO
    refine lv_aload_n hx hb dX6_keepLaw_31 rfl (lv_at hl 0 rfl) ?_
    refine th_get hx hb hts inT6 hown hK hO rfl 10 (by decide) (hts _ (tb_c wd_82)) rfl rfl dX6_keepLaw_32 ?_
    refine lv_iconst (v := 1) hx hb dX6_keepLaw_35 (by decide) ?_
    refine lv_isub hx hb dX6_keepLaw_36 ?_
    refine lv_topi (fun v35 e36 => ?_)
    have tv35 : v35.toInt = v33.toInt - (1) := iv_sub rfl (by decide) e36 (by omega) (by omega)
    have hI := th_I.close hI hG0 hO (ok_6 hq2 hq4 hq6 hq8 hq10 hq12 hq14 hq16 hq18 hq20 ⟨by omega, by omega⟩ k27)
    have hpost : True := trivial
    rw [hQ]
    exact W.iret (v := v35) hx hb hr (fun t ht hW => ⟨⟨v35, (), rfl, hpost, by rw [ht]; exact hI, hN.warm hW, va_K.moved hW.alike hK⟩, hS.F ht⟩) hS.2.2 dX6_keepLaw_37
  · skip
    have k37 := iv_nlt (X := w21.toInt) (Y := (6)) rfl (by decide) c28
    refine lv_iconst (v := (-1)) hx hb dX6_keepLaw_9 (by decide) ?_
    have hI := th_I.close hI hG0 hO (ok_6 hq2 hq4 hq6 hq8 hq10 hq12 hq14 hq16 hq18 hq20 ⟨by omega, by omega⟩ k27)
    have hpost : True := trivial
    rw [hQ]
    exact W.iret (v := (-1)) hx hb hr (fun t ht hW => ⟨⟨(-1), (), rfl, hpost, by rw [ht]; exact hI, hN.warm hW, va_K.moved hW.alike hK⟩, hS.F ht⟩) hS.2.2 dX6_keepLaw_10
theorem dX6_copyFrom_0g : (decode cX6_copyFrom 0 = .ok (.aload_n 1, 1)) ∧ (decode cX6_copyFrom 1 = .ok (.getfield 9, 3)) ∧ (decode cX6_copyFrom 4 = .ok (.iconst 0, 1)) ∧ (decode cX6_copyFrom 5 = .ok (.aload_n 0, 1)) ∧ (decode cX6_copyFrom 6 = .ok (.getfield 9, 3)) ∧ (decode cX6_copyFrom 9 = .ok (.iconst 0, 1)) ∧ (decode cX6_copyFrom 10 = .ok (.aload_n 0, 1)) ∧ (decode cX6_copyFrom 11 = .ok (.getfield 9, 3)) ∧ (decode cX6_copyFrom 14 = .ok (.arraylength, 1)) ∧ (decode cX6_copyFrom 15 = .ok (.invokestatic 64, 3)) := by decide +kernel
theorem dX6_copyFrom_0 : decode cX6_copyFrom 0 = .ok (.aload_n 1, 1) := dX6_copyFrom_0g.1
theorem dX6_copyFrom_1 : decode cX6_copyFrom 1 = .ok (.getfield 9, 3) := dX6_copyFrom_0g.2.1
theorem dX6_copyFrom_4 : decode cX6_copyFrom 4 = .ok (.iconst 0, 1) := dX6_copyFrom_0g.2.2.1
theorem dX6_copyFrom_5 : decode cX6_copyFrom 5 = .ok (.aload_n 0, 1) := dX6_copyFrom_0g.2.2.2.1
theorem dX6_copyFrom_6 : decode cX6_copyFrom 6 = .ok (.getfield 9, 3) := dX6_copyFrom_0g.2.2.2.2.1
theorem dX6_copyFrom_9 : decode cX6_copyFrom 9 = .ok (.iconst 0, 1) := dX6_copyFrom_0g.2.2.2.2.2.1
theorem dX6_copyFrom_10 : decode cX6_copyFrom 10 = .ok (.aload_n 0, 1) := dX6_copyFrom_0g.2.2.2.2.2.2.1
theorem dX6_copyFrom_11 : decode cX6_copyFrom 11 = .ok (.getfield 9, 3) := dX6_copyFrom_0g.2.2.2.2.2.2.2.1
theorem dX6_copyFrom_14 : decode cX6_copyFrom 14 = .ok (.arraylength, 1) := dX6_copyFrom_0g.2.2.2.2.2.2.2.2.1
theorem dX6_copyFrom_15 : decode cX6_copyFrom 15 = .ok (.invokestatic 64, 3) := dX6_copyFrom_0g.2.2.2.2.2.2.2.2.2
theorem dX6_copyFrom_18g : (decode cX6_copyFrom 18 = .ok (.aload_n 1, 1)) ∧ (decode cX6_copyFrom 19 = .ok (.getfield 15, 3)) ∧ (decode cX6_copyFrom 22 = .ok (.iconst 0, 1)) ∧ (decode cX6_copyFrom 23 = .ok (.aload_n 0, 1)) ∧ (decode cX6_copyFrom 24 = .ok (.getfield 15, 3)) ∧ (decode cX6_copyFrom 27 = .ok (.iconst 0, 1)) ∧ (decode cX6_copyFrom 28 = .ok (.aload_n 0, 1)) ∧ (decode cX6_copyFrom 29 = .ok (.getfield 15, 3)) ∧ (decode cX6_copyFrom 32 = .ok (.arraylength, 1)) ∧ (decode cX6_copyFrom 33 = .ok (.invokestatic 64, 3)) := by decide +kernel
theorem dX6_copyFrom_18 : decode cX6_copyFrom 18 = .ok (.aload_n 1, 1) := dX6_copyFrom_18g.1
theorem dX6_copyFrom_19 : decode cX6_copyFrom 19 = .ok (.getfield 15, 3) := dX6_copyFrom_18g.2.1
theorem dX6_copyFrom_22 : decode cX6_copyFrom 22 = .ok (.iconst 0, 1) := dX6_copyFrom_18g.2.2.1
theorem dX6_copyFrom_23 : decode cX6_copyFrom 23 = .ok (.aload_n 0, 1) := dX6_copyFrom_18g.2.2.2.1
theorem dX6_copyFrom_24 : decode cX6_copyFrom 24 = .ok (.getfield 15, 3) := dX6_copyFrom_18g.2.2.2.2.1
theorem dX6_copyFrom_27 : decode cX6_copyFrom 27 = .ok (.iconst 0, 1) := dX6_copyFrom_18g.2.2.2.2.2.1
theorem dX6_copyFrom_28 : decode cX6_copyFrom 28 = .ok (.aload_n 0, 1) := dX6_copyFrom_18g.2.2.2.2.2.2.1
theorem dX6_copyFrom_29 : decode cX6_copyFrom 29 = .ok (.getfield 15, 3) := dX6_copyFrom_18g.2.2.2.2.2.2.2.1
theorem dX6_copyFrom_32 : decode cX6_copyFrom 32 = .ok (.arraylength, 1) := dX6_copyFrom_18g.2.2.2.2.2.2.2.2.1
theorem dX6_copyFrom_33 : decode cX6_copyFrom 33 = .ok (.invokestatic 64, 3) := dX6_copyFrom_18g.2.2.2.2.2.2.2.2.2
theorem dX6_copyFrom_36g : (decode cX6_copyFrom 36 = .ok (.iconst 0, 1)) ∧ (decode cX6_copyFrom 37 = .ok (.istore_n 2, 1)) ∧ (decode cX6_copyFrom 38 = .ok (.iload_n 2, 1)) ∧ (decode cX6_copyFrom 39 = .ok (.bipush 6, 2)) ∧ (decode cX6_copyFrom 41 = .ok (.if_icmp .ge 21, 3)) ∧ (decode cX6_copyFrom 44 = .ok (.aload_n 0, 1)) ∧ (decode cX6_copyFrom 45 = .ok (.getfield 47, 3)) ∧ (decode cX6_copyFrom 48 = .ok (.iload_n 2, 1)) ∧ (decode cX6_copyFrom 49 = .ok (.aload_n 1, 1)) ∧ (decode cX6_copyFrom 50 = .ok (.getfield 47, 3)) := by decide +kernel
theorem dX6_copyFrom_36 : decode cX6_copyFrom 36 = .ok (.iconst 0, 1) := dX6_copyFrom_36g.1
theorem dX6_copyFrom_37 : decode cX6_copyFrom 37 = .ok (.istore_n 2, 1) := dX6_copyFrom_36g.2.1
theorem dX6_copyFrom_38 : decode cX6_copyFrom 38 = .ok (.iload_n 2, 1) := dX6_copyFrom_36g.2.2.1
theorem dX6_copyFrom_39 : decode cX6_copyFrom 39 = .ok (.bipush 6, 2) := dX6_copyFrom_36g.2.2.2.1
theorem dX6_copyFrom_41 : decode cX6_copyFrom 41 = .ok (.if_icmp .ge 21, 3) := dX6_copyFrom_36g.2.2.2.2.1
theorem dX6_copyFrom_44 : decode cX6_copyFrom 44 = .ok (.aload_n 0, 1) := dX6_copyFrom_36g.2.2.2.2.2.1
theorem dX6_copyFrom_45 : decode cX6_copyFrom 45 = .ok (.getfield 47, 3) := dX6_copyFrom_36g.2.2.2.2.2.2.1
theorem dX6_copyFrom_48 : decode cX6_copyFrom 48 = .ok (.iload_n 2, 1) := dX6_copyFrom_36g.2.2.2.2.2.2.2.1
theorem dX6_copyFrom_49 : decode cX6_copyFrom 49 = .ok (.aload_n 1, 1) := dX6_copyFrom_36g.2.2.2.2.2.2.2.2.1
theorem dX6_copyFrom_50 : decode cX6_copyFrom 50 = .ok (.getfield 47, 3) := dX6_copyFrom_36g.2.2.2.2.2.2.2.2.2
theorem dX6_copyFrom_53g : (decode cX6_copyFrom 53 = .ok (.iload_n 2, 1)) ∧ (decode cX6_copyFrom 54 = .ok (.aaload, 1)) ∧ (decode cX6_copyFrom 55 = .ok (.aastore, 1)) ∧ (decode cX6_copyFrom 56 = .ok (.iinc 2 1, 3)) ∧ (decode cX6_copyFrom 59 = .ok (.goto (-21), 3)) ∧ (decode cX6_copyFrom 62 = .ok (.aload_n 0, 1)) ∧ (decode cX6_copyFrom 63 = .ok (.getfield 23, 3)) ∧ (decode cX6_copyFrom 66 = .ok (.aload_n 1, 1)) ∧ (decode cX6_copyFrom 67 = .ok (.getfield 23, 3)) ∧ (decode cX6_copyFrom 70 = .ok (.invokevirtual 70, 3)) := by decide +kernel
theorem dX6_copyFrom_53 : decode cX6_copyFrom 53 = .ok (.iload_n 2, 1) := dX6_copyFrom_53g.1
theorem dX6_copyFrom_54 : decode cX6_copyFrom 54 = .ok (.aaload, 1) := dX6_copyFrom_53g.2.1
theorem dX6_copyFrom_55 : decode cX6_copyFrom 55 = .ok (.aastore, 1) := dX6_copyFrom_53g.2.2.1
theorem dX6_copyFrom_56 : decode cX6_copyFrom 56 = .ok (.iinc 2 1, 3) := dX6_copyFrom_53g.2.2.2.1
theorem dX6_copyFrom_59 : decode cX6_copyFrom 59 = .ok (.goto (-21), 3) := dX6_copyFrom_53g.2.2.2.2.1
theorem dX6_copyFrom_62 : decode cX6_copyFrom 62 = .ok (.aload_n 0, 1) := dX6_copyFrom_53g.2.2.2.2.2.1
theorem dX6_copyFrom_63 : decode cX6_copyFrom 63 = .ok (.getfield 23, 3) := dX6_copyFrom_53g.2.2.2.2.2.2.1
theorem dX6_copyFrom_66 : decode cX6_copyFrom 66 = .ok (.aload_n 1, 1) := dX6_copyFrom_53g.2.2.2.2.2.2.2.1
theorem dX6_copyFrom_67 : decode cX6_copyFrom 67 = .ok (.getfield 23, 3) := dX6_copyFrom_53g.2.2.2.2.2.2.2.2.1
theorem dX6_copyFrom_70 : decode cX6_copyFrom 70 = .ok (.invokevirtual 70, 3) := dX6_copyFrom_53g.2.2.2.2.2.2.2.2.2
theorem dX6_copyFrom_73g : (decode cX6_copyFrom 73 = .ok (.aload_n 0, 1)) ∧ (decode cX6_copyFrom 74 = .ok (.getfield 27, 3)) ∧ (decode cX6_copyFrom 77 = .ok (.aload_n 1, 1)) ∧ (decode cX6_copyFrom 78 = .ok (.getfield 27, 3)) ∧ (decode cX6_copyFrom 81 = .ok (.invokevirtual 70, 3)) ∧ (decode cX6_copyFrom 84 = .ok (.aload_n 0, 1)) ∧ (decode cX6_copyFrom 85 = .ok (.getfield 30, 3)) ∧ (decode cX6_copyFrom 88 = .ok (.aload_n 1, 1)) ∧ (decode cX6_copyFrom 89 = .ok (.getfield 30, 3)) ∧ (decode cX6_copyFrom 92 = .ok (.invokevirtual 70, 3)) := by decide +kernel
theorem dX6_copyFrom_73 : decode cX6_copyFrom 73 = .ok (.aload_n 0, 1) := dX6_copyFrom_73g.1
theorem dX6_copyFrom_74 : decode cX6_copyFrom 74 = .ok (.getfield 27, 3) := dX6_copyFrom_73g.2.1
theorem dX6_copyFrom_77 : decode cX6_copyFrom 77 = .ok (.aload_n 1, 1) := dX6_copyFrom_73g.2.2.1
theorem dX6_copyFrom_78 : decode cX6_copyFrom 78 = .ok (.getfield 27, 3) := dX6_copyFrom_73g.2.2.2.1
theorem dX6_copyFrom_81 : decode cX6_copyFrom 81 = .ok (.invokevirtual 70, 3) := dX6_copyFrom_73g.2.2.2.2.1
theorem dX6_copyFrom_84 : decode cX6_copyFrom 84 = .ok (.aload_n 0, 1) := dX6_copyFrom_73g.2.2.2.2.2.1
theorem dX6_copyFrom_85 : decode cX6_copyFrom 85 = .ok (.getfield 30, 3) := dX6_copyFrom_73g.2.2.2.2.2.2.1
theorem dX6_copyFrom_88 : decode cX6_copyFrom 88 = .ok (.aload_n 1, 1) := dX6_copyFrom_73g.2.2.2.2.2.2.2.1
theorem dX6_copyFrom_89 : decode cX6_copyFrom 89 = .ok (.getfield 30, 3) := dX6_copyFrom_73g.2.2.2.2.2.2.2.2.1
theorem dX6_copyFrom_92 : decode cX6_copyFrom 92 = .ok (.invokevirtual 70, 3) := dX6_copyFrom_73g.2.2.2.2.2.2.2.2.2
theorem dX6_copyFrom_95g : (decode cX6_copyFrom 95 = .ok (.aload_n 0, 1)) ∧ (decode cX6_copyFrom 96 = .ok (.getfield 33, 3)) ∧ (decode cX6_copyFrom 99 = .ok (.aload_n 1, 1)) ∧ (decode cX6_copyFrom 100 = .ok (.getfield 33, 3)) ∧ (decode cX6_copyFrom 103 = .ok (.invokevirtual 70, 3)) ∧ (decode cX6_copyFrom 106 = .ok (.aload_n 0, 1)) ∧ (decode cX6_copyFrom 107 = .ok (.getfield 36, 3)) ∧ (decode cX6_copyFrom 110 = .ok (.aload_n 1, 1)) ∧ (decode cX6_copyFrom 111 = .ok (.getfield 36, 3)) ∧ (decode cX6_copyFrom 114 = .ok (.invokevirtual 70, 3)) := by decide +kernel
theorem dX6_copyFrom_95 : decode cX6_copyFrom 95 = .ok (.aload_n 0, 1) := dX6_copyFrom_95g.1
theorem dX6_copyFrom_96 : decode cX6_copyFrom 96 = .ok (.getfield 33, 3) := dX6_copyFrom_95g.2.1
theorem dX6_copyFrom_99 : decode cX6_copyFrom 99 = .ok (.aload_n 1, 1) := dX6_copyFrom_95g.2.2.1
theorem dX6_copyFrom_100 : decode cX6_copyFrom 100 = .ok (.getfield 33, 3) := dX6_copyFrom_95g.2.2.2.1
theorem dX6_copyFrom_103 : decode cX6_copyFrom 103 = .ok (.invokevirtual 70, 3) := dX6_copyFrom_95g.2.2.2.2.1
theorem dX6_copyFrom_106 : decode cX6_copyFrom 106 = .ok (.aload_n 0, 1) := dX6_copyFrom_95g.2.2.2.2.2.1
theorem dX6_copyFrom_107 : decode cX6_copyFrom 107 = .ok (.getfield 36, 3) := dX6_copyFrom_95g.2.2.2.2.2.2.1
theorem dX6_copyFrom_110 : decode cX6_copyFrom 110 = .ok (.aload_n 1, 1) := dX6_copyFrom_95g.2.2.2.2.2.2.2.1
theorem dX6_copyFrom_111 : decode cX6_copyFrom 111 = .ok (.getfield 36, 3) := dX6_copyFrom_95g.2.2.2.2.2.2.2.2.1
theorem dX6_copyFrom_114 : decode cX6_copyFrom 114 = .ok (.invokevirtual 70, 3) := dX6_copyFrom_95g.2.2.2.2.2.2.2.2.2
theorem dX6_copyFrom_117g : (decode cX6_copyFrom 117 = .ok (.aload_n 0, 1)) ∧ (decode cX6_copyFrom 118 = .ok (.getfield 39, 3)) ∧ (decode cX6_copyFrom 121 = .ok (.aload_n 1, 1)) ∧ (decode cX6_copyFrom 122 = .ok (.getfield 39, 3)) ∧ (decode cX6_copyFrom 125 = .ok (.invokevirtual 70, 3)) ∧ (decode cX6_copyFrom 128 = .ok (.aload_n 0, 1)) ∧ (decode cX6_copyFrom 129 = .ok (.getfield 42, 3)) ∧ (decode cX6_copyFrom 132 = .ok (.aload_n 1, 1)) ∧ (decode cX6_copyFrom 133 = .ok (.getfield 42, 3)) ∧ (decode cX6_copyFrom 136 = .ok (.invokevirtual 70, 3)) := by decide +kernel
theorem dX6_copyFrom_117 : decode cX6_copyFrom 117 = .ok (.aload_n 0, 1) := dX6_copyFrom_117g.1
theorem dX6_copyFrom_118 : decode cX6_copyFrom 118 = .ok (.getfield 39, 3) := dX6_copyFrom_117g.2.1
theorem dX6_copyFrom_121 : decode cX6_copyFrom 121 = .ok (.aload_n 1, 1) := dX6_copyFrom_117g.2.2.1
theorem dX6_copyFrom_122 : decode cX6_copyFrom 122 = .ok (.getfield 39, 3) := dX6_copyFrom_117g.2.2.2.1
theorem dX6_copyFrom_125 : decode cX6_copyFrom 125 = .ok (.invokevirtual 70, 3) := dX6_copyFrom_117g.2.2.2.2.1
theorem dX6_copyFrom_128 : decode cX6_copyFrom 128 = .ok (.aload_n 0, 1) := dX6_copyFrom_117g.2.2.2.2.2.1
theorem dX6_copyFrom_129 : decode cX6_copyFrom 129 = .ok (.getfield 42, 3) := dX6_copyFrom_117g.2.2.2.2.2.2.1
theorem dX6_copyFrom_132 : decode cX6_copyFrom 132 = .ok (.aload_n 1, 1) := dX6_copyFrom_117g.2.2.2.2.2.2.2.1
theorem dX6_copyFrom_133 : decode cX6_copyFrom 133 = .ok (.getfield 42, 3) := dX6_copyFrom_117g.2.2.2.2.2.2.2.2.1
theorem dX6_copyFrom_136 : decode cX6_copyFrom 136 = .ok (.invokevirtual 70, 3) := dX6_copyFrom_117g.2.2.2.2.2.2.2.2.2
theorem dX6_copyFrom_139g : (decode cX6_copyFrom 139 = .ok (.aload_n 0, 1)) ∧ (decode cX6_copyFrom 140 = .ok (.aload_n 1, 1)) ∧ (decode cX6_copyFrom 141 = .ok (.getfield 51, 3)) ∧ (decode cX6_copyFrom 144 = .ok (.putfield 51, 3)) ∧ (decode cX6_copyFrom 147 = .ok (.aload_n 0, 1)) ∧ (decode cX6_copyFrom 148 = .ok (.aload_n 1, 1)) ∧ (decode cX6_copyFrom 149 = .ok (.getfield 55, 3)) ∧ (decode cX6_copyFrom 152 = .ok (.putfield 55, 3)) ∧ (decode cX6_copyFrom 155 = .ok (.aload_n 0, 1)) ∧ (decode cX6_copyFrom 156 = .ok (.aload_n 1, 1)) := by decide +kernel
theorem dX6_copyFrom_139 : decode cX6_copyFrom 139 = .ok (.aload_n 0, 1) := dX6_copyFrom_139g.1
theorem dX6_copyFrom_140 : decode cX6_copyFrom 140 = .ok (.aload_n 1, 1) := dX6_copyFrom_139g.2.1
theorem dX6_copyFrom_141 : decode cX6_copyFrom 141 = .ok (.getfield 51, 3) := dX6_copyFrom_139g.2.2.1
theorem dX6_copyFrom_144 : decode cX6_copyFrom 144 = .ok (.putfield 51, 3) := dX6_copyFrom_139g.2.2.2.1
theorem dX6_copyFrom_147 : decode cX6_copyFrom 147 = .ok (.aload_n 0, 1) := dX6_copyFrom_139g.2.2.2.2.1
theorem dX6_copyFrom_148 : decode cX6_copyFrom 148 = .ok (.aload_n 1, 1) := dX6_copyFrom_139g.2.2.2.2.2.1
theorem dX6_copyFrom_149 : decode cX6_copyFrom 149 = .ok (.getfield 55, 3) := dX6_copyFrom_139g.2.2.2.2.2.2.1
theorem dX6_copyFrom_152 : decode cX6_copyFrom 152 = .ok (.putfield 55, 3) := dX6_copyFrom_139g.2.2.2.2.2.2.2.1
theorem dX6_copyFrom_155 : decode cX6_copyFrom 155 = .ok (.aload_n 0, 1) := dX6_copyFrom_139g.2.2.2.2.2.2.2.2.1
theorem dX6_copyFrom_156 : decode cX6_copyFrom 156 = .ok (.aload_n 1, 1) := dX6_copyFrom_139g.2.2.2.2.2.2.2.2.2
theorem dX6_copyFrom_157g : (decode cX6_copyFrom 157 = .ok (.getfield 58, 3)) ∧ (decode cX6_copyFrom 160 = .ok (.putfield 58, 3)) ∧ (decode cX6_copyFrom 163 = .ok (.aload_n 0, 1)) ∧ (decode cX6_copyFrom 164 = .ok (.aload_n 1, 1)) ∧ (decode cX6_copyFrom 165 = .ok (.getfield 61, 3)) ∧ (decode cX6_copyFrom 168 = .ok (.putfield 61, 3)) ∧ (decode cX6_copyFrom 171 = .ok (.return_, 1)) := by decide +kernel
theorem dX6_copyFrom_157 : decode cX6_copyFrom 157 = .ok (.getfield 58, 3) := dX6_copyFrom_157g.1
theorem dX6_copyFrom_160 : decode cX6_copyFrom 160 = .ok (.putfield 58, 3) := dX6_copyFrom_157g.2.1
theorem dX6_copyFrom_163 : decode cX6_copyFrom 163 = .ok (.aload_n 0, 1) := dX6_copyFrom_157g.2.2.1
theorem dX6_copyFrom_164 : decode cX6_copyFrom 164 = .ok (.aload_n 1, 1) := dX6_copyFrom_157g.2.2.2.1
theorem dX6_copyFrom_165 : decode cX6_copyFrom 165 = .ok (.getfield 61, 3) := dX6_copyFrom_157g.2.2.2.2.1
theorem dX6_copyFrom_168 : decode cX6_copyFrom 168 = .ok (.putfield 61, 3) := dX6_copyFrom_157g.2.2.2.2.2.1
theorem dX6_copyFrom_171 : decode cX6_copyFrom 171 = .ok (.return_, 1) := dX6_copyFrom_157g.2.2.2.2.2.2
set_option maxHeartbeats 4000000 in
set_option maxRecDepth 100000 in
theorem c_X6_copyFrom (l : Launch) (E : Nat → Nat) (D : va_G) (G : th_G) (h0 : Nat) (hG0 : G h0 = some (6, 0)) (p1 : Nat) (hp1 : G p1 = some (6, 0)) (t u : Nat) (e2 : E (32 + 8 * h0) = t + 1) (e3 : E (32 + 8 * p1) = u + 1) : Met l yX6_copyFrom (tb (.code yX6_copyFrom cX6_copyFrom 3 none)) (rm 2) (va_Pc [.ref h0, .ref p1] (th_P E D G)) (QV (eu E (32 + 8 * t) (E (32 + 8 * u))) D G) 0 0 (th_A G) := by
  refine Met.ofW (cc := cX6_copyFrom) (maxL := 3) (ret := none) (by decide) rfl ?_
  intro p e s m args below meth c s₁ B hml hv
  obtain ⟨hav, hI, hN, hK⟩ := hv
  have hx := B.exec
  have hb := B.bytes
  have hr := B.returns
  have hts := atoms_spec (ws := tb (.code yX6_copyFrom cX6_copyFrom 3 none)) B.pre
  have hown : s.vm.findClass RX6 = some m.cls := findClass_of_methodNamed B.named
  have hlocks := B.notSynchronized
  have hS : va_S (th_A G) s.heap s.heap [] := va_S.rf
  have hl := lv_entry ([.ref h0, .ref p1]) (n := 3) (Nat.le_of_ble_eq_true rfl)
  rw [show entryFrame m args 3 = entryFrame m ([.ref h0, .ref p1] : List Value).toArray 3 from by rw [hav], lg_entry_eq]
  generalize (lg_sl ([.ref h0, .ref p1]) ++ List.replicate (3 - (lg_sl ([.ref h0, .ref p1])).length) Slot.unset).toArray = ls at hl ⊢
  have hl : lv_has ls 3 [(0, .ref h0), (1, .ref p1)] := hl
  generalize hR : (headSpec (tb (.code yX6_copyFrom cX6_copyFrom 3 none)) (rm 2)).room = R
  have hR := hR.symm
  generalize hQ : MQ below (QV (eu E (32 + 8 * t) (E (32 + 8 * u))) D G) args s 0 0 (th_A G) = QF
  have hQ := hQ.symm
  have J_38 : ∀ (nn : Nat) (H : Heap) (locs : List Loc) (ls : Array Slot) (v6674 : Int32), (Int.toNat (6 - v6674.toInt) = nn) → lv_has ls 3 [(2, .int v6674), (0, .ref h0), (1, .ref p1)] → ((0 : Int) ≤ v6674.toInt ∧ v6674.toInt ≤ 6) → th_I (okC E) D G [] H → va_S (th_A G) s.heap H locs → W p l e R s m args below meth c H locs 0 0 QF (F0 m 38 ls []) := by
    intro nn
    induction nn using Nat.strongRecOn with
    | ind nn ih_38 =>
      intro H locs ls v6674 hm hl k6675 hI hS
      refine lv_iload_n hx hb dX6_copyFrom_38 rfl (lv_at hl 0 rfl) ?_
      refine lv_bipush (v := 6) hx hb dX6_copyFrom_39 (by decide) ?_
      refine lv_icmp_ge (tgt := 62) hx hb dX6_copyFrom_41 (by decide) (fun c6676 => ?_) (fun c6676 => ?_)
      · skip
        have k6677 := iv_le (X := (6)) (Y := v6674.toInt) (by decide) rfl c6676
        refine lv_aload_n hx hb dX6_copyFrom_62 rfl (lv_at hl 1 rfl) ?_
        obtain ⟨a6678, a6680, a6682, a6684, a6686, a6688, a6690, a6692, a6694, a6696, w6698, w6701, w6702, w6703, hO, hq6679, hq6681, hq6683, hq6685, hq6687, hq6689, hq6691, hq6693, hq6695, hq6697, ⟨k6699, k6700⟩, k6704⟩ := op_6 hI hG0 List.not_mem_nil
        have hI := th_I.weak (a := h0) hI
        obtain rfl := eaU_q k6704.1 e2
        refine th_get hx hb hts inT6 hown hK hO rfl 2 (by decide) (hts _ (tb_c wd_60)) rfl rfl dX6_copyFrom_63 ?_
        refine lv_aload_n hx hb dX6_copyFrom_66 rfl (lv_at hl 2 rfl) ?_
        have hI := th_I.close hI hG0 hO (ok_6 hq6679 hq6681 hq6683 hq6685 hq6687 hq6689 hq6691 hq6693 hq6695 hq6697 ⟨by omega, by omega⟩ k6704)
        obtain ⟨a6705, a6707, a6709, a6711, a6713, a6715, a6717, a6719, a6721, a6723, w6725, w6728, w6729, w6730, hO, hq6706, hq6708, hq6710, hq6712, hq6714, hq6716, hq6718, hq6720, hq6722, hq6724, ⟨k6726, k6727⟩, k6731⟩ := op_6 hI hp1 List.not_mem_nil
        have hI := th_I.weak (a := p1) hI
        obtain rfl := eaU_q k6731.1 e3
        refine th_get hx hb hts inT6 hown hK hO rfl 2 (by decide) (hts _ (tb_c wd_60)) rfl rfl dX6_copyFrom_67 ?_
        have hI := th_I.close hI hp1 hO (ok_6 hq6706 hq6708 hq6710 hq6712 hq6714 hq6716 hq6718 hq6720 hq6722 hq6724 ⟨by omega, by omega⟩ k6731)
        refine th_cVv (As := [.ref a6709]) (rest := []) (n := 1) (d := 1) ⟨hx, hb, hml, hown, hts⟩ (c_X4_copyFrom l E D G a6682 8 hq6683 a6709 hq6710 (by decide)) wd_1207 wd_1208 wd_1209 wd_3 wd_1210 (by decide +kernel) ⟨by rw [hR]; exact Nat.le_of_ble_eq_true rfl, by rw [hR]; exact Nat.le_of_ble_eq_true rfl⟩ hI hN hK hS (rc_4 hI hq6683 List.not_mem_nil) rfl rfl hl.1 rfl (Nat.le_of_ble_eq_true rfl) dX6_copyFrom_70 ⟨Nat.zero_le _, Nat.zero_le _⟩ (fun H locs hI hS => ?_)
        refine lv_aload_n hx hb dX6_copyFrom_73 rfl (lv_at hl 1 rfl) ?_
        obtain ⟨a6733, a6735, a6737, a6739, a6741, a6743, a6745, a6747, a6749, a6751, w6753, w6756, w6757, w6758, hO, hq6734, hq6736, hq6738, hq6740, hq6742, hq6744, hq6746, hq6748, hq6750, hq6752, ⟨k6754, k6755⟩, k6759⟩ := op_6 hI hG0 List.not_mem_nil
        have hI := th_I.weak (a := h0) hI
        obtain rfl := eaU_q k6759.1 e2
        refine th_get hx hb hts inT6 hown hK hO rfl 3 (by decide) (hts _ (tb_c wd_63)) rfl rfl dX6_copyFrom_74 ?_
        refine lv_aload_n hx hb dX6_copyFrom_77 rfl (lv_at hl 2 rfl) ?_
        have hI := th_I.close hI hG0 hO (ok_6 hq6734 hq6736 hq6738 hq6740 hq6742 hq6744 hq6746 hq6748 hq6750 hq6752 ⟨by omega, by omega⟩ k6759)
        obtain ⟨a6760, a6762, a6764, a6766, a6768, a6770, a6772, a6774, a6776, a6778, w6780, w6783, w6784, w6785, hO, hq6761, hq6763, hq6765, hq6767, hq6769, hq6771, hq6773, hq6775, hq6777, hq6779, ⟨k6781, k6782⟩, k6786⟩ := op_6 hI hp1 List.not_mem_nil
        have hI := th_I.weak (a := p1) hI
        obtain rfl := eaU_q k6786.1 e3
        refine th_get hx hb hts inT6 hown hK hO rfl 3 (by decide) (hts _ (tb_c wd_63)) rfl rfl dX6_copyFrom_78 ?_
        have hI := th_I.close hI hp1 hO (ok_6 hq6761 hq6763 hq6765 hq6767 hq6769 hq6771 hq6773 hq6775 hq6777 hq6779 ⟨by omega, by omega⟩ k6786)
        refine th_cVv (As := [.ref a6766]) (rest := []) (n := 1) (d := 1) ⟨hx, hb, hml, hown, hts⟩ (c_X4_copyFrom l E D G a6739 6 hq6740 a6766 hq6767 (by decide)) wd_1207 wd_1208 wd_1209 wd_3 wd_1210 (by decide +kernel) ⟨by rw [hR]; exact Nat.le_of_ble_eq_true rfl, by rw [hR]; exact Nat.le_of_ble_eq_true rfl⟩ hI hN hK hS (rc_4 hI hq6740 List.not_mem_nil) rfl rfl hl.1 rfl (Nat.le_of_ble_eq_true rfl) dX6_copyFrom_81 ⟨Nat.zero_le _, Nat.zero_le _⟩ (fun H locs hI hS => ?_)
        refine lv_aload_n hx hb dX6_copyFrom_84 rfl (lv_at hl 1 rfl) ?_
        obtain ⟨a6788, a6790, a6792, a6794, a6796, a6798, a6800, a6802, a6804, a6806, w6808, w6811, w6812, w6813, hO, hq6789, hq6791, hq6793, hq6795, hq6797, hq6799, hq6801, hq6803, hq6805, hq6807, ⟨k6809, k6810⟩, k6814⟩ := op_6 hI hG0 List.not_mem_nil
        have hI := th_I.weak (a := h0) hI
        obtain rfl := eaU_q k6814.1 e2
        refine th_get hx hb hts inT6 hown hK hO rfl 4 (by decide) (hts _ (tb_c wd_66)) rfl rfl dX6_copyFrom_85 ?_
        refine lv_aload_n hx hb dX6_copyFrom_88 rfl (lv_at hl 2 rfl) ?_
        have hI := th_I.close hI hG0 hO (ok_6 hq6789 hq6791 hq6793 hq6795 hq6797 hq6799 hq6801 hq6803 hq6805 hq6807 ⟨by omega, by omega⟩ k6814)
        obtain ⟨a6815, a6817, a6819, a6821, a6823, a6825, a6827, a6829, a6831, a6833, w6835, w6838, w6839, w6840, hO, hq6816, hq6818, hq6820, hq6822, hq6824, hq6826, hq6828, hq6830, hq6832, hq6834, ⟨k6836, k6837⟩, k6841⟩ := op_6 hI hp1 List.not_mem_nil
        have hI := th_I.weak (a := p1) hI
        obtain rfl := eaU_q k6841.1 e3
        refine th_get hx hb hts inT6 hown hK hO rfl 4 (by decide) (hts _ (tb_c wd_66)) rfl rfl dX6_copyFrom_89 ?_
        have hI := th_I.close hI hp1 hO (ok_6 hq6816 hq6818 hq6820 hq6822 hq6824 hq6826 hq6828 hq6830 hq6832 hq6834 ⟨by omega, by omega⟩ k6841)
        refine th_cVv (As := [.ref a6823]) (rest := []) (n := 1) (d := 1) ⟨hx, hb, hml, hown, hts⟩ (c_X4_copyFrom l E D G a6796 6 hq6797 a6823 hq6824 (by decide)) wd_1207 wd_1208 wd_1209 wd_3 wd_1210 (by decide +kernel) ⟨by rw [hR]; exact Nat.le_of_ble_eq_true rfl, by rw [hR]; exact Nat.le_of_ble_eq_true rfl⟩ hI hN hK hS (rc_4 hI hq6797 List.not_mem_nil) rfl rfl hl.1 rfl (Nat.le_of_ble_eq_true rfl) dX6_copyFrom_92 ⟨Nat.zero_le _, Nat.zero_le _⟩ (fun H locs hI hS => ?_)
        refine lv_aload_n hx hb dX6_copyFrom_95 rfl (lv_at hl 1 rfl) ?_
        obtain ⟨a6843, a6845, a6847, a6849, a6851, a6853, a6855, a6857, a6859, a6861, w6863, w6866, w6867, w6868, hO, hq6844, hq6846, hq6848, hq6850, hq6852, hq6854, hq6856, hq6858, hq6860, hq6862, ⟨k6864, k6865⟩, k6869⟩ := op_6 hI hG0 List.not_mem_nil
        have hI := th_I.weak (a := h0) hI
        obtain rfl := eaU_q k6869.1 e2
        refine th_get hx hb hts inT6 hown hK hO rfl 5 (by decide) (hts _ (tb_c wd_69)) rfl rfl dX6_copyFrom_96 ?_
        refine lv_aload_n hx hb dX6_copyFrom_99 rfl (lv_at hl 2 rfl) ?_
        have hI := th_I.close hI hG0 hO (ok_6 hq6844 hq6846 hq6848 hq6850 hq6852 hq6854 hq6856 hq6858 hq6860 hq6862 ⟨by omega, by omega⟩ k6869)
        obtain ⟨a6870, a6872, a6874, a6876, a6878, a6880, a6882, a6884, a6886, a6888, w6890, w6893, w6894, w6895, hO, hq6871, hq6873, hq6875, hq6877, hq6879, hq6881, hq6883, hq6885, hq6887, hq6889, ⟨k6891, k6892⟩, k6896⟩ := op_6 hI hp1 List.not_mem_nil
        have hI := th_I.weak (a := p1) hI
        obtain rfl := eaU_q k6896.1 e3
        refine th_get hx hb hts inT6 hown hK hO rfl 5 (by decide) (hts _ (tb_c wd_69)) rfl rfl dX6_copyFrom_100 ?_
        have hI := th_I.close hI hp1 hO (ok_6 hq6871 hq6873 hq6875 hq6877 hq6879 hq6881 hq6883 hq6885 hq6887 hq6889 ⟨by omega, by omega⟩ k6896)
        refine th_cVv (As := [.ref a6880]) (rest := []) (n := 1) (d := 1) ⟨hx, hb, hml, hown, hts⟩ (c_X4_copyFrom l E D G a6853 16 hq6854 a6880 hq6881 (by decide)) wd_1207 wd_1208 wd_1209 wd_3 wd_1210 (by decide +kernel) ⟨by rw [hR]; exact Nat.le_of_ble_eq_true rfl, by rw [hR]; exact Nat.le_of_ble_eq_true rfl⟩ hI hN hK hS (rc_4 hI hq6854 List.not_mem_nil) rfl rfl hl.1 rfl (Nat.le_of_ble_eq_true rfl) dX6_copyFrom_103 ⟨Nat.zero_le _, Nat.zero_le _⟩ (fun H locs hI hS => ?_)
        refine lv_aload_n hx hb dX6_copyFrom_106 rfl (lv_at hl 1 rfl) ?_
        obtain ⟨a6898, a6900, a6902, a6904, a6906, a6908, a6910, a6912, a6914, a6916, w6918, w6921, w6922, w6923, hO, hq6899, hq6901, hq6903, hq6905, hq6907, hq6909, hq6911, hq6913, hq6915, hq6917, ⟨k6919, k6920⟩, k6924⟩ := op_6 hI hG0 List.not_mem_nil
        have hI := th_I.weak (a := h0) hI
        obtain rfl := eaU_q k6924.1 e2
        refine th_get hx hb hts inT6 hown hK hO rfl 6 (by decide) (hts _ (tb_c wd_72)) rfl rfl dX6_copyFrom_107 ?_
        refine lv_aload_n hx hb dX6_copyFrom_110 rfl (lv_at hl 2 rfl) ?_
        have hI := th_I.close hI hG0 hO (ok_6 hq6899 hq6901 hq6903 hq6905 hq6907 hq6909 hq6911 hq6913 hq6915 hq6917 ⟨by omega, by omega⟩ k6924)
        obtain ⟨a6925, a6927, a6929, a6931, a6933, a6935, a6937, a6939, a6941, a6943, w6945, w6948, w6949, w6950, hO, hq6926, hq6928, hq6930, hq6932, hq6934, hq6936, hq6938, hq6940, hq6942, hq6944, ⟨k6946, k6947⟩, k6951⟩ := op_6 hI hp1 List.not_mem_nil
        have hI := th_I.weak (a := p1) hI
        obtain rfl := eaU_q k6951.1 e3
        refine th_get hx hb hts inT6 hown hK hO rfl 6 (by decide) (hts _ (tb_c wd_72)) rfl rfl dX6_copyFrom_111 ?_
        have hI := th_I.close hI hp1 hO (ok_6 hq6926 hq6928 hq6930 hq6932 hq6934 hq6936 hq6938 hq6940 hq6942 hq6944 ⟨by omega, by omega⟩ k6951)
        refine th_cVvE (As := [.ref u]) (rest := []) (n := 1) (d := 1) ⟨hx, hb, hml, hown, hts⟩ (c_X4_copyFrom_T l E D G t 42 hq6911 u hq6938 (by decide)) wd_1207 wd_1208 wd_1209 wd_3 wd_1210 (by decide +kernel) ⟨by rw [hR]; exact Nat.le_of_ble_eq_true rfl, by rw [hR]; exact Nat.le_of_ble_eq_true rfl⟩ hI hN hK (by rw [tys_eu (by omega)]; exact hK) hS (rc_4 hI hq6911 List.not_mem_nil) rfl rfl hl.1 rfl (Nat.le_of_ble_eq_true rfl) dX6_copyFrom_114 ⟨Nat.zero_le _, Nat.zero_le _⟩ (fun H locs Eu6953 hEu6953 hI hK hS => ?_)
        refine lv_aload_n hx hb dX6_copyFrom_117 rfl (lv_at hl 1 rfl) ?_
        obtain ⟨a6954, a6956, a6958, a6960, a6962, a6964, a6966, a6968, a6970, a6972, w6974, w6977, w6978, w6979, hO, hq6955, hq6957, hq6959, hq6961, hq6963, hq6965, hq6967, hq6969, hq6971, hq6973, ⟨k6975, k6976⟩, k6980⟩ := op_6 hI hG0 List.not_mem_nil
        have hI := th_I.weak (a := h0) hI
        refine th_get hx hb hts inT6 hown hK hO rfl 7 (by decide) (hts _ (tb_c wd_75)) rfl rfl dX6_copyFrom_118 ?_
        refine lv_aload_n hx hb dX6_copyFrom_121 rfl (lv_at hl 2 rfl) ?_
        have hI := th_I.close hI hG0 hO (ok_6 hq6955 hq6957 hq6959 hq6961 hq6963 hq6965 hq6967 hq6969 hq6971 hq6973 ⟨by omega, by omega⟩ k6980)
        obtain ⟨a6981, a6983, a6985, a6987, a6989, a6991, a6993, a6995, a6997, a6999, w7001, w7004, w7005, w7006, hO, hq6982, hq6984, hq6986, hq6988, hq6990, hq6992, hq6994, hq6996, hq6998, hq7000, ⟨k7002, k7003⟩, k7007⟩ := op_6 hI hp1 List.not_mem_nil
        have hI := th_I.weak (a := p1) hI
        refine th_get hx hb hts inT6 hown hK hO rfl 7 (by decide) (hts _ (tb_c wd_75)) rfl rfl dX6_copyFrom_122 ?_
        have hI := th_I.close hI hp1 hO (ok_6 hq6982 hq6984 hq6986 hq6988 hq6990 hq6992 hq6994 hq6996 hq6998 hq7000 ⟨by omega, by omega⟩ k7007)
        refine th_cVv (As := [.ref a6995]) (rest := []) (n := 1) (d := 1) ⟨hx, hb, hml, hown, hts⟩ (c_X4_copyFrom l Eu6953 D G a6968 6 hq6969 a6995 hq6996 (by decide)) wd_1207 wd_1208 wd_1209 wd_3 wd_1210 (by decide +kernel) ⟨by rw [hR]; exact Nat.le_of_ble_eq_true rfl, by rw [hR]; exact Nat.le_of_ble_eq_true rfl⟩ hI hN hK hS (rc_4 hI hq6969 List.not_mem_nil) rfl rfl hl.1 rfl (Nat.le_of_ble_eq_true rfl) dX6_copyFrom_125 ⟨Nat.zero_le _, Nat.zero_le _⟩ (fun H locs hI hS => ?_)
        refine lv_aload_n hx hb dX6_copyFrom_128 rfl (lv_at hl 1 rfl) ?_
        obtain ⟨a7009, a7011, a7013, a7015, a7017, a7019, a7021, a7023, a7025, a7027, w7029, w7032, w7033, w7034, hO, hq7010, hq7012, hq7014, hq7016, hq7018, hq7020, hq7022, hq7024, hq7026, hq7028, ⟨k7030, k7031⟩, k7035⟩ := op_6 hI hG0 List.not_mem_nil
        have hI := th_I.weak (a := h0) hI
        refine th_get hx hb hts inT6 hown hK hO rfl 8 (by decide) (hts _ (tb_c wd_78)) rfl rfl dX6_copyFrom_129 ?_
        refine lv_aload_n hx hb dX6_copyFrom_132 rfl (lv_at hl 2 rfl) ?_
        have hI := th_I.close hI hG0 hO (ok_6 hq7010 hq7012 hq7014 hq7016 hq7018 hq7020 hq7022 hq7024 hq7026 hq7028 ⟨by omega, by omega⟩ k7035)
        obtain ⟨a7036, a7038, a7040, a7042, a7044, a7046, a7048, a7050, a7052, a7054, w7056, w7059, w7060, w7061, hO, hq7037, hq7039, hq7041, hq7043, hq7045, hq7047, hq7049, hq7051, hq7053, hq7055, ⟨k7057, k7058⟩, k7062⟩ := op_6 hI hp1 List.not_mem_nil
        have hI := th_I.weak (a := p1) hI
        refine th_get hx hb hts inT6 hown hK hO rfl 8 (by decide) (hts _ (tb_c wd_78)) rfl rfl dX6_copyFrom_133 ?_
        have hI := th_I.close hI hp1 hO (ok_6 hq7037 hq7039 hq7041 hq7043 hq7045 hq7047 hq7049 hq7051 hq7053 hq7055 ⟨by omega, by omega⟩ k7062)
        refine th_cVv (As := [.ref a7052]) (rest := []) (n := 1) (d := 1) ⟨hx, hb, hml, hown, hts⟩ (c_X4_copyFrom l Eu6953 D G a7025 6 hq7026 a7052 hq7053 (by decide)) wd_1207 wd_1208 wd_1209 wd_3 wd_1210 (by decide +kernel) ⟨by rw [hR]; exact Nat.le_of_ble_eq_true rfl, by rw [hR]; exact Nat.le_of_ble_eq_true rfl⟩ hI hN hK hS (rc_4 hI hq7026 List.not_mem_nil) rfl rfl hl.1 rfl (Nat.le_of_ble_eq_true rfl) dX6_copyFrom_136 ⟨Nat.zero_le _, Nat.zero_le _⟩ (fun H locs hI hS => ?_)
        refine lv_aload_n hx hb dX6_copyFrom_139 rfl (lv_at hl 1 rfl) ?_
        refine lv_aload_n hx hb dX6_copyFrom_140 rfl (lv_at hl 2 rfl) ?_
        obtain ⟨a7064, a7066, a7068, a7070, a7072, a7074, a7076, a7078, a7080, a7082, w7084, w7087, w7088, w7089, hO, hq7065, hq7067, hq7069, hq7071, hq7073, hq7075, hq7077, hq7079, hq7081, hq7083, ⟨k7085, k7086⟩, k7090⟩ := op_6 hI hp1 List.not_mem_nil
        have hI := th_I.weak (a := p1) hI
        refine th_get hx hb hts inT6 hown hK hO rfl 10 (by decide) (hts _ (tb_c wd_82)) rfl rfl dX6_copyFrom_141 ?_
        have hI := th_I.close hI hp1 hO (ok_6 hq7065 hq7067 hq7069 hq7071 hq7073 hq7075 hq7077 hq7079 hq7081 hq7083 ⟨by omega, by omega⟩ k7090)
        obtain ⟨a7091, a7093, a7095, a7097, a7099, a7101, a7103, a7105, a7107, a7109, w7111, w7114, w7115, w7116, hO, hq7092, hq7094, hq7096, hq7098, hq7100, hq7102, hq7104, hq7106, hq7108, hq7110, ⟨k7112, k7113⟩, k7117⟩ := op_6 hI hG0 List.not_mem_nil
        have hI := th_I.weak (a := h0) hI
        refine th_put (ty := .int) hx hb hts inT6 tyX6 tyX6_ok nmX6 hown hK hO hS ⟨_, hG0⟩ rfl 10 (by decide) (hts _ (tb_c wd_82)) rfl rfl (by decide +kernel) rfl rfl (Nat.le_of_ble_eq_true rfl) dX6_copyFrom_144 (fun H locs hO oq hS => ?_)
        have hI := th_I.moved hI oq
        have hO : va_at D vwCl (h0, .inr (6, [.ref a7091, .ref a7093, .ref a7095, .ref a7097, .ref a7099, .ref a7101, .ref a7103, .ref a7105, .ref a7107, .ref a7109, .int w7084, .int w7114, .int w7115, .int w7116])) H := hO
        refine lv_aload_n hx hb dX6_copyFrom_147 rfl (lv_at hl 1 rfl) ?_
        refine lv_aload_n hx hb dX6_copyFrom_148 rfl (lv_at hl 2 rfl) ?_
        have hI := th_I.close hI hG0 hO (ok_6 hq7092 hq7094 hq7096 hq7098 hq7100 hq7102 hq7104 hq7106 hq7108 hq7110 ⟨by omega, by omega⟩ k7117)
        obtain ⟨a7118, a7120, a7122, a7124, a7126, a7128, a7130, a7132, a7134, a7136, w7138, w7141, w7142, w7143, hO, hq7119, hq7121, hq7123, hq7125, hq7127, hq7129, hq7131, hq7133, hq7135, hq7137, ⟨k7139, k7140⟩, k7144⟩ := op_6 hI hp1 List.not_mem_nil
        have hI := th_I.weak (a := p1) hI
        refine th_get hx hb hts inT6 hown hK hO rfl 11 (by decide) (hts _ (tb_c wd_84)) rfl rfl dX6_copyFrom_149 ?_
        have hI := th_I.close hI hp1 hO (ok_6 hq7119 hq7121 hq7123 hq7125 hq7127 hq7129 hq7131 hq7133 hq7135 hq7137 ⟨by omega, by omega⟩ k7144)
        obtain ⟨a7145, a7147, a7149, a7151, a7153, a7155, a7157, a7159, a7161, a7163, w7165, w7168, w7169, w7170, hO, hq7146, hq7148, hq7150, hq7152, hq7154, hq7156, hq7158, hq7160, hq7162, hq7164, ⟨k7166, k7167⟩, k7171⟩ := op_6 hI hG0 List.not_mem_nil
        have hI := th_I.weak (a := h0) hI
        refine th_put (ty := .int) hx hb hts inT6 tyX6 tyX6_ok nmX6 hown hK hO hS ⟨_, hG0⟩ rfl 11 (by decide) (hts _ (tb_c wd_84)) rfl rfl (by decide +kernel) rfl rfl (Nat.le_of_ble_eq_true rfl) dX6_copyFrom_152 (fun H locs hO oq hS => ?_)
        have hI := th_I.moved hI oq
        have hO : va_at D vwCl (h0, .inr (6, [.ref a7145, .ref a7147, .ref a7149, .ref a7151, .ref a7153, .ref a7155, .ref a7157, .ref a7159, .ref a7161, .ref a7163, .int w7165, .int w7141, .int w7169, .int w7170])) H := hO
        refine lv_aload_n hx hb dX6_copyFrom_155 rfl (lv_at hl 1 rfl) ?_
        refine lv_aload_n hx hb dX6_copyFrom_156 rfl (lv_at hl 2 rfl) ?_
        have hI := th_I.close hI hG0 hO (ok_6 hq7146 hq7148 hq7150 hq7152 hq7154 hq7156 hq7158 hq7160 hq7162 hq7164 ⟨by omega, by omega⟩ k7171)
        obtain ⟨a7172, a7174, a7176, a7178, a7180, a7182, a7184, a7186, a7188, a7190, w7192, w7195, w7196, w7197, hO, hq7173, hq7175, hq7177, hq7179, hq7181, hq7183, hq7185, hq7187, hq7189, hq7191, ⟨k7193, k7194⟩, k7198⟩ := op_6 hI hp1 List.not_mem_nil
        have hI := th_I.weak (a := p1) hI
        refine th_get hx hb hts inT6 hown hK hO rfl 12 (by decide) (hts _ (tb_c wd_86)) rfl rfl dX6_copyFrom_157 ?_
        have hI := th_I.close hI hp1 hO (ok_6 hq7173 hq7175 hq7177 hq7179 hq7181 hq7183 hq7185 hq7187 hq7189 hq7191 ⟨by omega, by omega⟩ k7198)
        obtain ⟨a7199, a7201, a7203, a7205, a7207, a7209, a7211, a7213, a7215, a7217, w7219, w7222, w7223, w7224, hO, hq7200, hq7202, hq7204, hq7206, hq7208, hq7210, hq7212, hq7214, hq7216, hq7218, ⟨k7220, k7221⟩, k7225⟩ := op_6 hI hG0 List.not_mem_nil
        have hI := th_I.weak (a := h0) hI
        refine th_put (ty := .int) hx hb hts inT6 tyX6 tyX6_ok nmX6 hown hK hO hS ⟨_, hG0⟩ rfl 12 (by decide) (hts _ (tb_c wd_86)) rfl rfl (by decide +kernel) rfl rfl (Nat.le_of_ble_eq_true rfl) dX6_copyFrom_160 (fun H locs hO oq hS => ?_)
        have hI := th_I.moved hI oq
        have hO : va_at D vwCl (h0, .inr (6, [.ref a7199, .ref a7201, .ref a7203, .ref a7205, .ref a7207, .ref a7209, .ref a7211, .ref a7213, .ref a7215, .ref a7217, .int w7219, .int w7222, .int w7196, .int w7224])) H := hO
        refine lv_aload_n hx hb dX6_copyFrom_163 rfl (lv_at hl 1 rfl) ?_
        refine lv_aload_n hx hb dX6_copyFrom_164 rfl (lv_at hl 2 rfl) ?_
        have hI := th_I.close hI hG0 hO (ok_6 hq7200 hq7202 hq7204 hq7206 hq7208 hq7210 hq7212 hq7214 hq7216 hq7218 ⟨by omega, by omega⟩ k7225)
        obtain ⟨a7226, a7228, a7230, a7232, a7234, a7236, a7238, a7240, a7242, a7244, w7246, w7249, w7250, w7251, hO, hq7227, hq7229, hq7231, hq7233, hq7235, hq7237, hq7239, hq7241, hq7243, hq7245, ⟨k7247, k7248⟩, k7252⟩ := op_6 hI hp1 List.not_mem_nil
        have hI := th_I.weak (a := p1) hI
        refine th_get hx hb hts inT6 hown hK hO rfl 13 (by decide) (hts _ (tb_c wd_90)) rfl rfl dX6_copyFrom_165 ?_
        have hI := th_I.close hI hp1 hO (ok_6 hq7227 hq7229 hq7231 hq7233 hq7235 hq7237 hq7239 hq7241 hq7243 hq7245 ⟨by omega, by omega⟩ k7252)
        obtain ⟨a7253, a7255, a7257, a7259, a7261, a7263, a7265, a7267, a7269, a7271, w7273, w7276, w7277, w7278, hO, hq7254, hq7256, hq7258, hq7260, hq7262, hq7264, hq7266, hq7268, hq7270, hq7272, ⟨k7274, k7275⟩, k7279⟩ := op_6 hI hG0 List.not_mem_nil
        have hI := th_I.weak (a := h0) hI
        refine th_put (ty := .int) hx hb hts inT6 tyX6 tyX6_ok nmX6 hown hK hO hS ⟨_, hG0⟩ rfl 13 (by decide) (hts _ (tb_c wd_90)) rfl rfl (by decide +kernel) rfl rfl (Nat.le_of_ble_eq_true rfl) dX6_copyFrom_168 (fun H locs hO oq hS => ?_)
        have hI := th_I.moved hI oq
        have hO : va_at D vwCl (h0, .inr (6, [.ref a7253, .ref a7255, .ref a7257, .ref a7259, .ref a7261, .ref a7263, .ref a7265, .ref a7267, .ref a7269, .ref a7271, .int w7273, .int w7276, .int w7277, .int w7251])) H := hO
        have hI := th_I.close hI hG0 hO (ok_6 hq7254 hq7256 hq7258 hq7260 hq7262 hq7264 hq7266 hq7268 hq7270 hq7272 ⟨by omega, by omega⟩ k7279)
        have hEt : eu E (32 + 8 * t) (E (32 + 8 * u)) = Eu6953 := (congrArg (fun z => eu E (32 + 8 * t) z) (show E (32 + 8 * u) = _ from rfl)).trans hEu6953.symm
        rw [← hEt] at hI hK
        rw [hQ]
        exact W.vret hx hb hr (fun t ht hW => ⟨⟨(), rfl, trivial, by rw [ht]; exact hI, hN.warm hW, va_K.moved hW.alike hK⟩, hS.F ht⟩) hS.2.2 dX6_copyFrom_171
      · skip
        have k7280 := iv_nle (X := (6)) (Y := v6674.toInt) (by decide) rfl c6676
        refine lv_aload_n hx hb dX6_copyFrom_44 rfl (lv_at hl 1 rfl) ?_
        obtain ⟨a7281, a7283, a7285, a7287, a7289, a7291, a7293, a7295, a7297, a7299, w7301, w7304, w7305, w7306, hO, hq7282, hq7284, hq7286, hq7288, hq7290, hq7292, hq7294, hq7296, hq7298, hq7300, ⟨k7302, k7303⟩, k7307⟩ := op_6 hI hG0 List.not_mem_nil
        have hI := th_I.weak (a := h0) hI
        obtain rfl := eaU_q k7307.1 e2
        refine th_get hx hb hts inT6 hown hK hO rfl 9 (by decide) (hts _ (tb_c wd_81)) rfl rfl dX6_copyFrom_45 ?_
        refine lv_iload_n hx hb dX6_copyFrom_48 rfl (lv_at hl 0 rfl) ?_
        refine lv_aload_n hx hb dX6_copyFrom_49 rfl (lv_at hl 2 rfl) ?_
        have hI := th_I.close hI hG0 hO (ok_6 hq7282 hq7284 hq7286 hq7288 hq7290 hq7292 hq7294 hq7296 hq7298 hq7300 ⟨by omega, by omega⟩ k7307)
        obtain ⟨a7308, a7310, a7312, a7314, a7316, a7318, a7320, a7322, a7324, a7326, w7328, w7331, w7332, w7333, hO, hq7309, hq7311, hq7313, hq7315, hq7317, hq7319, hq7321, hq7323, hq7325, hq7327, ⟨k7329, k7330⟩, k7334⟩ := op_6 hI hp1 List.not_mem_nil
        have hI := th_I.weak (a := p1) hI
        obtain rfl := eaU_q k7334.1 e3
        refine th_get hx hb hts inT6 hown hK hO rfl 9 (by decide) (hts _ (tb_c wd_81)) rfl rfl dX6_copyFrom_50 ?_
        refine lv_iload_n hx hb dX6_copyFrom_53 rfl (lv_at hl 0 rfl) ?_
        obtain ⟨g7336, hA7335, hg7337⟩ := op_2 hI hq7327 (th_ne hp1 hq7327 (show (6 : Nat) ≠ 2 by decide))
        refine va_aldq hx hb hK (th_one hA7335) 0 4 rfl rfl (iv_in (X := v6674.toInt) rfl (by omega) (by omega)) dX6_copyFrom_54 ?_
        obtain ⟨r7338, e7339⟩ : ∃ r, r = g7336 v6674.toNatClampNeg := ⟨_, rfl⟩
        rw [← e7339]
        obtain _ | a7340 := r7338
        · skip
          obtain ⟨_, hA7343, hg7344⟩ := op_2 hI hq7300 (th_ne hp1 hq7300 (show (6 : Nat) ≠ 2 by decide))
          refine th_aastN hx hb hK hA7343 4 rfl hS ⟨_, hq7300⟩ (iv_in (X := v6674.toInt) rfl (by omega) (by omega)) dX6_copyFrom_55 (fun H locs hA7343 oq hS => ?_)
          have hI := th_I.put hI hq7300 hA7343 (ok_2 (th_upN hg7344)) oq
          have hO := hO.kept (oq _ (fun z => th_ne hp1 hq7300 (show (6 : Nat) ≠ 2 by decide) (List.mem_singleton.mpr z.symm)))
          obtain ⟨v7345, e7346⟩ : ∃ y : Int32, y = v6674 + (1) := ⟨_, rfl⟩
          have tv7345 : v7345.toInt = v6674.toInt + (1) := iv_add rfl (by decide) e7346 (by omega) (by omega)
          refine lv_iinc (v := v7345) (lv' := [(2, .int v7345), (0, .ref h0), (1, .ref p1)]) hx hb dX6_copyFrom_56 hl (k := 0) rfl (by rw [e7346]; rfl) (by decide) rfl (fun ls hl => ?_)
          refine lv_goto (tgt := 38) hx hb dX6_copyFrom_59 (by decide) ?_
          have hI := th_I.close hI hp1 hO (ok_6 hq7309 hq7311 hq7313 hq7315 hq7317 hq7319 hq7321 hq7323 hq7325 hq7327 ⟨by omega, by omega⟩ k7334)
          exact ih_38 _ (by omega) H locs ls v7345 rfl (lv_sub hl [0, 1, 2] rfl) ⟨by omega, by omega⟩ hI hS
        · skip
          obtain ⟨m7342, hq7341⟩ := hg7337 _ _ (th_cl (X := v6674.toInt) rfl (by omega) (by omega)) e7339.symm
          obtain ⟨_, hA7347, hg7348⟩ := op_2 hI hq7300 (th_ne hp1 hq7300 (show (6 : Nat) ≠ 2 by decide))
          obtain ⟨_, hV7349⟩ := rc_5 hI hq7341 (th_ne hp1 hq7341 (show (6 : Nat) ≠ 5 by decide))
          refine th_aast hx hb hK hA7347 4 rfl hV7349 rfl hS ⟨_, hq7300⟩ (iv_in (X := v6674.toInt) rfl (by omega) (by omega)) dX6_copyFrom_55 (fun H locs hA7347 oq hS => ?_)
          have hI := th_I.put hI hq7300 hA7347 (ok_2 (th_upSL hg7348 hq7341)) oq
          have hO := hO.kept (oq _ (fun z => th_ne hp1 hq7300 (show (6 : Nat) ≠ 2 by decide) (List.mem_singleton.mpr z.symm)))
          obtain ⟨v7350, e7351⟩ : ∃ y : Int32, y = v6674 + (1) := ⟨_, rfl⟩
          have tv7350 : v7350.toInt = v6674.toInt + (1) := iv_add rfl (by decide) e7351 (by omega) (by omega)
          refine lv_iinc (v := v7350) (lv' := [(2, .int v7350), (0, .ref h0), (1, .ref p1)]) hx hb dX6_copyFrom_56 hl (k := 0) rfl (by rw [e7351]; rfl) (by decide) rfl (fun ls hl => ?_)
          refine lv_goto (tgt := 38) hx hb dX6_copyFrom_59 (by decide) ?_
          have hI := th_I.close hI hp1 hO (ok_6 hq7309 hq7311 hq7313 hq7315 hq7317 hq7319 hq7321 hq7323 hq7325 hq7327 ⟨by omega, by omega⟩ k7334)
          exact ih_38 _ (by omega) H locs ls v7350 rfl (lv_sub hl [0, 1, 2] rfl) ⟨by omega, by omega⟩ hI hS
  refine lv_aload_n hx hb dX6_copyFrom_0 rfl (lv_at hl 1 rfl) ?_
  obtain ⟨a7352, a7354, a7356, a7358, a7360, a7362, a7364, a7366, a7368, a7370, w7372, w7375, w7376, w7377, hO, hq7353, hq7355, hq7357, hq7359, hq7361, hq7363, hq7365, hq7367, hq7369, hq7371, ⟨k7373, k7374⟩, k7378⟩ := op_6 hI hp1 List.not_mem_nil
  have hI := th_I.weak (a := p1) hI
  obtain rfl := eaU_q k7378.1 e3
  refine th_get hx hb hts inT6 hown hK hO rfl 0 (by decide) (hts _ (tb_c wd_58)) rfl rfl dX6_copyFrom_1 ?_
  refine lv_iconst (v := 0) hx hb dX6_copyFrom_4 (by decide) ?_
  refine lv_aload_n hx hb dX6_copyFrom_5 rfl (lv_at hl 0 rfl) ?_
  have hI := th_I.close hI hp1 hO (ok_6 hq7353 hq7355 hq7357 hq7359 hq7361 hq7363 hq7365 hq7367 hq7369 hq7371 ⟨by omega, by omega⟩ k7378)
  obtain ⟨a7379, a7381, a7383, a7385, a7387, a7389, a7391, a7393, a7395, a7397, w7399, w7402, w7403, w7404, hO, hq7380, hq7382, hq7384, hq7386, hq7388, hq7390, hq7392, hq7394, hq7396, hq7398, ⟨k7400, k7401⟩, k7405⟩ := op_6 hI hG0 List.not_mem_nil
  have hI := th_I.weak (a := h0) hI
  obtain rfl := eaU_q k7405.1 e2
  refine th_get hx hb hts inT6 hown hK hO rfl 0 (by decide) (hts _ (tb_c wd_58)) rfl rfl dX6_copyFrom_6 ?_
  refine lv_iconst (v := 0) hx hb dX6_copyFrom_9 (by decide) ?_
  refine lv_aload_n hx hb dX6_copyFrom_10 rfl (lv_at hl 0 rfl) ?_
  refine th_get hx hb hts inT6 hown hK hO rfl 0 (by decide) (hts _ (tb_c wd_58)) rfl rfl dX6_copyFrom_11 ?_
  obtain ⟨_, hA7406⟩ := op_0 hI hq7380 (th_ne hG0 hq7380 (show (6 : Nat) ≠ 0 by decide))
  refine va_alen hx hb hK (th_one hA7406) 0 0 rfl (v := 10) rfl (show Int32.ofNat 10 = (10 : Int32) from by decide) dX6_copyFrom_14 ?_
  obtain ⟨_, hA7407⟩ := op_0 hI hq7353 (th_ne hG0 hq7353 (show (6 : Nat) ≠ 0 by decide))
  obtain ⟨_, hA7408⟩ := op_0 hI hq7380 (th_ne hG0 hq7380 (show (6 : Nat) ≠ 0 by decide))
  have k7409 : (10 : Int32).toInt = 10 := by decide
  have k7410 : (0 : Int32).toInt = 0 := by decide
  have k7411 : (0 : Int32).toInt = 0 := by decide
  refine th_copyi hx hb (hml.trans hl.1.symm) hown (hts _ (tb_c wd_1206)) (hts _ (tb_c wd_505)) (hts _ (tb_c wd_504)) (hts _ (tb_c wd_14)) hK hA7407 hA7408 0 rfl hS ⟨_, hq7380⟩ (fun z => by have := iv_lt (X := (0)) (Y := 0) (by decide) (by decide) z; omega) (fun z => by have := iv_lt (X := (0)) (Y := 0) (by decide) (by decide) z; omega) (fun z => by have := iv_lt (X := (10)) (Y := 0) (by decide) (by decide) z; omega) (by omega) (by omega) (by rw [hR]; exact Nat.le_of_ble_eq_true rfl) (by rw [hR]; exact Nat.le_of_ble_eq_true rfl) dX6_copyFrom_15 (fun H locs _ hA7408 oq hS => ?_)
  have hI := th_I.put hI hq7380 hA7408 ok_0 oq
  have hO := hO.kept (oq _ (fun z => th_ne hG0 hq7380 (show (6 : Nat) ≠ 0 by decide) (List.mem_singleton.mpr z.symm)))
  refine lv_aload_n hx hb dX6_copyFrom_18 rfl (lv_at hl 1 rfl) ?_
  have hI := th_I.close hI hG0 hO (ok_6 hq7380 hq7382 hq7384 hq7386 hq7388 hq7390 hq7392 hq7394 hq7396 hq7398 ⟨by omega, by omega⟩ k7405)
  obtain ⟨a7412, a7414, a7416, a7418, a7420, a7422, a7424, a7426, a7428, a7430, w7432, w7435, w7436, w7437, hO, hq7413, hq7415, hq7417, hq7419, hq7421, hq7423, hq7425, hq7427, hq7429, hq7431, ⟨k7433, k7434⟩, k7438⟩ := op_6 hI hp1 List.not_mem_nil
  have hI := th_I.weak (a := p1) hI
  obtain rfl := eaU_q k7438.1 e3
  refine th_get hx hb hts inT6 hown hK hO rfl 1 (by decide) (hts _ (tb_c wd_59)) rfl rfl dX6_copyFrom_19 ?_
  refine lv_iconst (v := 0) hx hb dX6_copyFrom_22 (by decide) ?_
  refine lv_aload_n hx hb dX6_copyFrom_23 rfl (lv_at hl 0 rfl) ?_
  have hI := th_I.close hI hp1 hO (ok_6 hq7413 hq7415 hq7417 hq7419 hq7421 hq7423 hq7425 hq7427 hq7429 hq7431 ⟨by omega, by omega⟩ k7438)
  obtain ⟨a7439, a7441, a7443, a7445, a7447, a7449, a7451, a7453, a7455, a7457, w7459, w7462, w7463, w7464, hO, hq7440, hq7442, hq7444, hq7446, hq7448, hq7450, hq7452, hq7454, hq7456, hq7458, ⟨k7460, k7461⟩, k7465⟩ := op_6 hI hG0 List.not_mem_nil
  have hI := th_I.weak (a := h0) hI
  obtain rfl := eaU_q k7465.1 e2
  refine th_get hx hb hts inT6 hown hK hO rfl 1 (by decide) (hts _ (tb_c wd_59)) rfl rfl dX6_copyFrom_24 ?_
  refine lv_iconst (v := 0) hx hb dX6_copyFrom_27 (by decide) ?_
  refine lv_aload_n hx hb dX6_copyFrom_28 rfl (lv_at hl 0 rfl) ?_
  refine th_get hx hb hts inT6 hown hK hO rfl 1 (by decide) (hts _ (tb_c wd_59)) rfl rfl dX6_copyFrom_29 ?_
  obtain ⟨_, hA7466⟩ := op_0 hI hq7442 (th_ne hG0 hq7442 (show (6 : Nat) ≠ 0 by decide))
  refine va_alen hx hb hK (th_one hA7466) 0 0 rfl (v := 96) rfl (show Int32.ofNat 96 = (96 : Int32) from by decide) dX6_copyFrom_32 ?_
  obtain ⟨_, hA7467⟩ := op_0 hI hq7415 (th_ne hG0 hq7415 (show (6 : Nat) ≠ 0 by decide))
  obtain ⟨_, hA7468⟩ := op_0 hI hq7442 (th_ne hG0 hq7442 (show (6 : Nat) ≠ 0 by decide))
  have k7469 : (96 : Int32).toInt = 96 := by decide
  have k7470 : (0 : Int32).toInt = 0 := by decide
  have k7471 : (0 : Int32).toInt = 0 := by decide
  refine th_copyi hx hb (hml.trans hl.1.symm) hown (hts _ (tb_c wd_1206)) (hts _ (tb_c wd_505)) (hts _ (tb_c wd_504)) (hts _ (tb_c wd_14)) hK hA7467 hA7468 0 rfl hS ⟨_, hq7442⟩ (fun z => by have := iv_lt (X := (0)) (Y := 0) (by decide) (by decide) z; omega) (fun z => by have := iv_lt (X := (0)) (Y := 0) (by decide) (by decide) z; omega) (fun z => by have := iv_lt (X := (96)) (Y := 0) (by decide) (by decide) z; omega) (by omega) (by omega) (by rw [hR]; exact Nat.le_of_ble_eq_true rfl) (by rw [hR]; exact Nat.le_of_ble_eq_true rfl) dX6_copyFrom_33 (fun H locs _ hA7468 oq hS => ?_)
  have hI := th_I.put hI hq7442 hA7468 ok_0 oq
  have hO := hO.kept (oq _ (fun z => th_ne hG0 hq7442 (show (6 : Nat) ≠ 0 by decide) (List.mem_singleton.mpr z.symm)))
  refine lv_iconst (v := 0) hx hb dX6_copyFrom_36 (by decide) ?_
  refine lv_istore_n (lv' := [(2, .int 0), (0, .ref h0), (1, .ref p1)]) hx hb dX6_copyFrom_37 rfl hl (by decide) rfl (fun ls hl => ?_)
  have hI := th_I.close hI hG0 hO (ok_6 hq7440 hq7442 hq7444 hq7446 hq7448 hq7450 hq7452 hq7454 hq7456 hq7458 ⟨by omega, by omega⟩ k7465)
  have zl : (0 : Int32).toInt = 0 := by decide
  exact J_38 _ H locs ls 0 rfl (lv_sub hl [0, 1, 2] rfl) ⟨by decide, by decide⟩ hI hS
