theorem wd_1206 : (Cond.methodLink RX6 (64 : Nat) arraycopyName) ∈ TB := tw 1206 (by decide +kernel) (by decide +kernel)
theorem wd_1207 : (Cond.methodLink RX6 (70 : Nat) yX4_copyFrom) ∈ TB := tw 1207 (by decide +kernel) (by decide +kernel)
theorem wd_1208 : (Jvm.Cond.instanceMethod yX4_copyFrom) ∈ TB := tw 1208 (by decide +kernel) (by decide +kernel)
theorem wd_1209 : (Cond.selects RX4 yX4_copyFrom yX4_copyFrom) ∈ TB := tw 1209 (by decide +kernel) (by decide +kernel)
theorem wd_1210 : (Cond.code yX4_copyFrom cX4_copyFrom 2 (Option.none : Option Jvm.ClassFile.FieldType)) ∈ TB := tw 1210 (by decide +kernel) (by decide +kernel)
theorem wd_60 : (Cond.fieldLink RX6 (23 : Nat) "NineRiver$State" "gates" "LNineRiver$Rows;") ∈ TB := tw 60 (by decide +kernel) (by decide +kernel)
theorem wd_63 : (Cond.fieldLink RX6 (27 : Nat) "NineRiver$State" "mills" "LNineRiver$Rows;") ∈ TB := tw 63 (by decide +kernel) (by decide +kernel)
theorem wd_66 : (Cond.fieldLink RX6 (30 : Nat) "NineRiver$State" "boats" "LNineRiver$Rows;") ∈ TB := tw 66 (by decide +kernel) (by decide +kernel)
theorem wd_69 : (Cond.fieldLink RX6 (33 : Nat) "NineRiver$State" "pours" "LNineRiver$Rows;") ∈ TB := tw 69 (by decide +kernel) (by decide +kernel)
theorem wd_72 : (Cond.fieldLink RX6 (36 : Nat) "NineRiver$State" "sights" "LNineRiver$Rows;") ∈ TB := tw 72 (by decide +kernel) (by decide +kernel)
theorem wd_75 : (Cond.fieldLink RX6 (39 : Nat) "NineRiver$State" "jobs" "LNineRiver$Rows;") ∈ TB := tw 75 (by decide +kernel) (by decide +kernel)
theorem wd_78 : (Cond.fieldLink RX6 (42 : Nat) "NineRiver$State" "wishes" "LNineRiver$Rows;") ∈ TB := tw 78 (by decide +kernel) (by decide +kernel)
theorem wd_86 : (Cond.fieldLink RX6 (58 : Nat) "NineRiver$State" "natural" "I") ∈ TB := tw 86 (by decide +kernel) (by decide +kernel)
theorem wd_90 : (Cond.fieldLink RX6 (61 : Nat) "NineRiver$State" "year" "I") ∈ TB := tw 90 (by decide +kernel) (by decide +kernel)
theorem dX4_copyFrom_0g : (decode cX4_copyFrom 0 = .ok (.aload_n 1, 1)) ∧ (decode cX4_copyFrom 1 = .ok (.getfield 9, 3)) ∧ (decode cX4_copyFrom 4 = .ok (.aload_n 0, 1)) ∧ (decode cX4_copyFrom 5 = .ok (.getfield 21, 3)) ∧ (decode cX4_copyFrom 8 = .ok (.if_icmp .gt 30, 3)) ∧ (decode cX4_copyFrom 11 = .ok (.aload_n 1, 1)) ∧ (decode cX4_copyFrom 12 = .ok (.getfield 24, 3)) ∧ (decode cX4_copyFrom 15 = .ok (.iconst 0, 1)) ∧ (decode cX4_copyFrom 16 = .ok (.aload_n 0, 1)) ∧ (decode cX4_copyFrom 17 = .ok (.getfield 24, 3)) := by decide +kernel
theorem dX4_copyFrom_0 : decode cX4_copyFrom 0 = .ok (.aload_n 1, 1) := dX4_copyFrom_0g.1
theorem dX4_copyFrom_1 : decode cX4_copyFrom 1 = .ok (.getfield 9, 3) := dX4_copyFrom_0g.2.1
theorem dX4_copyFrom_4 : decode cX4_copyFrom 4 = .ok (.aload_n 0, 1) := dX4_copyFrom_0g.2.2.1
theorem dX4_copyFrom_5 : decode cX4_copyFrom 5 = .ok (.getfield 21, 3) := dX4_copyFrom_0g.2.2.2.1
theorem dX4_copyFrom_8 : decode cX4_copyFrom 8 = .ok (.if_icmp .gt 30, 3) := dX4_copyFrom_0g.2.2.2.2.1
theorem dX4_copyFrom_11 : decode cX4_copyFrom 11 = .ok (.aload_n 1, 1) := dX4_copyFrom_0g.2.2.2.2.2.1
theorem dX4_copyFrom_12 : decode cX4_copyFrom 12 = .ok (.getfield 24, 3) := dX4_copyFrom_0g.2.2.2.2.2.2.1
theorem dX4_copyFrom_15 : decode cX4_copyFrom 15 = .ok (.iconst 0, 1) := dX4_copyFrom_0g.2.2.2.2.2.2.2.1
theorem dX4_copyFrom_16 : decode cX4_copyFrom 16 = .ok (.aload_n 0, 1) := dX4_copyFrom_0g.2.2.2.2.2.2.2.2.1
theorem dX4_copyFrom_17 : decode cX4_copyFrom 17 = .ok (.getfield 24, 3) := dX4_copyFrom_0g.2.2.2.2.2.2.2.2.2
theorem dX4_copyFrom_20g : (decode cX4_copyFrom 20 = .ok (.iconst 0, 1)) ∧ (decode cX4_copyFrom 21 = .ok (.aload_n 1, 1)) ∧ (decode cX4_copyFrom 22 = .ok (.getfield 9, 3)) ∧ (decode cX4_copyFrom 25 = .ok (.iconst 4, 1)) ∧ (decode cX4_copyFrom 26 = .ok (.imul, 1)) ∧ (decode cX4_copyFrom 27 = .ok (.invokestatic 36, 3)) ∧ (decode cX4_copyFrom 30 = .ok (.aload_n 0, 1)) ∧ (decode cX4_copyFrom 31 = .ok (.aload_n 1, 1)) ∧ (decode cX4_copyFrom 32 = .ok (.getfield 9, 3)) ∧ (decode cX4_copyFrom 35 = .ok (.putfield 9, 3)) := by decide +kernel
theorem dX4_copyFrom_20 : decode cX4_copyFrom 20 = .ok (.iconst 0, 1) := dX4_copyFrom_20g.1
theorem dX4_copyFrom_21 : decode cX4_copyFrom 21 = .ok (.aload_n 1, 1) := dX4_copyFrom_20g.2.1
theorem dX4_copyFrom_22 : decode cX4_copyFrom 22 = .ok (.getfield 9, 3) := dX4_copyFrom_20g.2.2.1
theorem dX4_copyFrom_25 : decode cX4_copyFrom 25 = .ok (.iconst 4, 1) := dX4_copyFrom_20g.2.2.2.1
theorem dX4_copyFrom_26 : decode cX4_copyFrom 26 = .ok (.imul, 1) := dX4_copyFrom_20g.2.2.2.2.1
theorem dX4_copyFrom_27 : decode cX4_copyFrom 27 = .ok (.invokestatic 36, 3) := dX4_copyFrom_20g.2.2.2.2.2.1
theorem dX4_copyFrom_30 : decode cX4_copyFrom 30 = .ok (.aload_n 0, 1) := dX4_copyFrom_20g.2.2.2.2.2.2.1
theorem dX4_copyFrom_31 : decode cX4_copyFrom 31 = .ok (.aload_n 1, 1) := dX4_copyFrom_20g.2.2.2.2.2.2.2.1
theorem dX4_copyFrom_32 : decode cX4_copyFrom 32 = .ok (.getfield 9, 3) := dX4_copyFrom_20g.2.2.2.2.2.2.2.2.1
theorem dX4_copyFrom_35 : decode cX4_copyFrom 35 = .ok (.putfield 9, 3) := dX4_copyFrom_20g.2.2.2.2.2.2.2.2.2
theorem dX4_copyFrom_38 : decode cX4_copyFrom 38 = .ok (.return_, 1) := by decide +kernel
set_option maxHeartbeats 4000000 in
set_option maxRecDepth 100000 in
theorem c_X4_copyFrom (l : Launch) (E : Nat → Nat) (D : va_G) (G : th_G) (h0 n : Nat) (hG0 : G h0 = some (4, n)) (p1 : Nat) (hp1 : G p1 = some (4, n)) : Met l yX4_copyFrom (tb (.code yX4_copyFrom cX4_copyFrom 2 none)) (rm 1) (va_Pc [.ref h0, .ref p1] (th_P E D G)) (QV E D G) 0 0 (th_A G) := by
  refine Met.ofW (cc := cX4_copyFrom) (maxL := 2) (ret := none) (by decide) rfl ?_
  intro p e s m args below meth c s₁ B hml hv
  obtain ⟨hav, hI, hN, hK⟩ := hv
  have hx := B.exec
  have hb := B.bytes
  have hr := B.returns
  have hts := atoms_spec (ws := tb (.code yX4_copyFrom cX4_copyFrom 2 none)) B.pre
  have hown : s.vm.findClass RX4 = some m.cls := findClass_of_methodNamed B.named
  have hlocks := B.notSynchronized
  have hS : va_S (th_A G) s.heap s.heap [] := va_S.rf
  have hl := lv_entry ([.ref h0, .ref p1]) (n := 2) (Nat.le_of_ble_eq_true rfl)
  rw [show entryFrame m args 2 = entryFrame m ([.ref h0, .ref p1] : List Value).toArray 2 from by rw [hav], lg_entry_eq]
  generalize (lg_sl ([.ref h0, .ref p1]) ++ List.replicate (2 - (lg_sl ([.ref h0, .ref p1])).length) Slot.unset).toArray = ls at hl ⊢
  have hl : lv_has ls 2 [(0, .ref h0), (1, .ref p1)] := hl
  generalize hR : (headSpec (tb (.code yX4_copyFrom cX4_copyFrom 2 none)) (rm 1)).room = R
  have hR := hR.symm
  generalize hQ : MQ below (QV E D G) args s 0 0 (th_A G) = QF
  have hQ := hQ.symm
  refine lv_aload_n hx hb dX4_copyFrom_0 rfl (lv_at hl 1 rfl) ?_
  obtain ⟨a1, w3, hO, hq2, ⟨k4, k5⟩, k6⟩ := op_4 hI hp1 List.not_mem_nil
  have hI := th_I.weak (a := p1) hI
  have k7 : (nI n).toInt = ((n : Nat) : Int) := nI_toInt (by omega)
  refine th_get hx hb hts inT4 hown hK hO rfl 2 (by decide) (hts _ (tb_c wd_47)) rfl rfl dX4_copyFrom_1 ?_
  refine lv_aload_n hx hb dX4_copyFrom_4 rfl (lv_at hl 0 rfl) ?_
  have hI := th_I.close hI hp1 hO (ok_4 hq2 ⟨by omega, by omega⟩ (by omega))
  obtain ⟨a8, w10, hO, hq9, ⟨k11, k12⟩, k13⟩ := op_4 hI hG0 List.not_mem_nil
  have hI := th_I.weak (a := h0) hI
  have k14 : (nI n).toInt = ((n : Nat) : Int) := nI_toInt (by omega)
  refine th_get hx hb hts inT4 hown hK hO rfl 0 (by decide) (hts _ (tb_c wd_45)) rfl rfl dX4_copyFrom_5 ?_
  refine lv_icmp_gt (tgt := 38) hx hb dX4_copyFrom_8 (by decide) (fun c15 => ?_) (fun c15 => ?_)
  · skip
    have k16 := iv_lt (X := (nI n).toInt) (Y := w3.toInt) rfl rfl c15
    have hI := th_I.close hI hG0 hO (ok_4 hq9 ⟨by omega, by omega⟩ (by omega))
    rw [hQ]
    exact W.vret hx hb hr (fun t ht hW => ⟨⟨(), rfl, trivial, by rw [ht]; exact hI, hN.warm hW, va_K.moved hW.alike hK⟩, hS.F ht⟩) hS.2.2 dX4_copyFrom_38
  · skip
    have k17 := iv_nlt (X := (nI n).toInt) (Y := w3.toInt) rfl rfl c15
    refine lv_aload_n hx hb dX4_copyFrom_11 rfl (lv_at hl 1 rfl) ?_
    have hI := th_I.close hI hG0 hO (ok_4 hq9 ⟨by omega, by omega⟩ (by omega))
    obtain ⟨a18, w20, hO, hq19, ⟨k21, k22⟩, k23⟩ := op_4 hI hp1 List.not_mem_nil
    have hI := th_I.weak (a := p1) hI
    have k24 : (nI n).toInt = ((n : Nat) : Int) := nI_toInt (by omega)
    refine th_get hx hb hts inT4 hown hK hO rfl 1 (by decide) (hts _ (tb_c wd_46)) rfl rfl dX4_copyFrom_12 ?_
    refine lv_iconst (v := 0) hx hb dX4_copyFrom_15 (by decide) ?_
    refine lv_aload_n hx hb dX4_copyFrom_16 rfl (lv_at hl 0 rfl) ?_
    have hI := th_I.close hI hp1 hO (ok_4 hq19 ⟨by omega, by omega⟩ (by omega))
    obtain ⟨a25, w27, hO, hq26, ⟨k28, k29⟩, k30⟩ := op_4 hI hG0 List.not_mem_nil
    have hI := th_I.weak (a := h0) hI
    have k31 : (nI n).toInt = ((n : Nat) : Int) := nI_toInt (by omega)
    refine th_get hx hb hts inT4 hown hK hO rfl 1 (by decide) (hts _ (tb_c wd_46)) rfl rfl dX4_copyFrom_17 ?_
    refine lv_iconst (v := 0) hx hb dX4_copyFrom_20 (by decide) ?_
    refine lv_aload_n hx hb dX4_copyFrom_21 rfl (lv_at hl 1 rfl) ?_
    have hI := th_I.close hI hG0 hO (ok_4 hq26 ⟨by omega, by omega⟩ (by omega))
    obtain ⟨a32, w34, hO, hq33, ⟨k35, k36⟩, k37⟩ := op_4 hI hp1 List.not_mem_nil
    have hI := th_I.weak (a := p1) hI
    have k38 : (nI n).toInt = ((n : Nat) : Int) := nI_toInt (by omega)
    refine th_get hx hb hts inT4 hown hK hO rfl 2 (by decide) (hts _ (tb_c wd_47)) rfl rfl dX4_copyFrom_22 ?_
    refine lv_iconst (v := 4) hx hb dX4_copyFrom_25 (by decide) ?_
    refine lv_imul hx hb dX4_copyFrom_26 ?_
    refine lv_topi (fun v39 e40 => ?_)
    have tv39 : v39.toInt = w34.toInt * (4) := iv_mul rfl (by decide) e40 (by omega) (by omega)
    obtain ⟨_, hA41⟩ := op_0 hI hq19 (th_ne hp1 hq19 (show (4 : Nat) ≠ 0 by decide))
    obtain ⟨_, hA42⟩ := op_0 hI hq26 (th_ne hp1 hq26 (show (4 : Nat) ≠ 0 by decide))
    have k43 : (0 : Int32).toInt = 0 := by decide
    have k44 : (0 : Int32).toInt = 0 := by decide
    refine th_copyi hx hb (hml.trans hl.1.symm) hown (hts _ (tb_c wd_503)) (hts _ (tb_c wd_505)) (hts _ (tb_c wd_504)) (hts _ (tb_c wd_14)) hK hA41 hA42 0 rfl hS ⟨_, hq26⟩ (fun z => by have := iv_lt (X := (0)) (Y := 0) (by decide) (by decide) z; omega) (fun z => by have := iv_lt (X := (0)) (Y := 0) (by decide) (by decide) z; omega) (fun z => by have := iv_lt (X := v39.toInt) (Y := 0) rfl (by decide) z; omega) (by omega) (by omega) (by rw [hR]; exact Nat.le_of_ble_eq_true rfl) (by rw [hR]; exact Nat.le_of_ble_eq_true rfl) dX4_copyFrom_27 (fun H locs _ hA42 oq hS => ?_)
    have hI := th_I.put hI hq26 hA42 ok_0 oq
    have hO := hO.kept (oq _ (fun z => th_ne hp1 hq26 (show (4 : Nat) ≠ 0 by decide) (List.mem_singleton.mpr z.symm)))
    refine lv_aload_n hx hb dX4_copyFrom_30 rfl (lv_at hl 0 rfl) ?_
    refine lv_aload_n hx hb dX4_copyFrom_31 rfl (lv_at hl 1 rfl) ?_
    refine th_get hx hb hts inT4 hown hK hO rfl 2 (by decide) (hts _ (tb_c wd_47)) rfl rfl dX4_copyFrom_32 ?_
    have hI := th_I.close hI hp1 hO (ok_4 hq33 ⟨by omega, by omega⟩ (by omega))
    obtain ⟨a45, w47, hO, hq46, ⟨k48, k49⟩, k50⟩ := op_4 hI hG0 List.not_mem_nil
    have hI := th_I.weak (a := h0) hI
    have k51 : (nI n).toInt = ((n : Nat) : Int) := nI_toInt (by omega)
    refine th_put (ty := .int) hx hb hts inT4 tyX4 tyX4_ok nmX4 hown hK hO hS ⟨_, hG0⟩ rfl 2 (by decide) (hts _ (tb_c wd_47)) rfl rfl (by decide +kernel) rfl rfl (Nat.le_of_ble_eq_true rfl) dX4_copyFrom_35 (fun H locs hO oq hS => ?_)
    have hI := th_I.moved hI oq
    have hO : va_at D vwCl (h0, .inr (4, [.int (nI n), .ref a45, .int w34])) H := hO
    have hI := th_I.close hI hG0 hO (ok_4 hq46 ⟨by omega, by omega⟩ (by omega))
    rw [hQ]
    exact W.vret hx hb hr (fun t ht hW => ⟨⟨(), rfl, trivial, by rw [ht]; exact hI, hN.warm hW, va_K.moved hW.alike hK⟩, hS.F ht⟩) hS.2.2 dX4_copyFrom_38
theorem dX6_keepLaw_0g : (decode cX6_keepLaw 0 = .ok (.aload_n 0, 1)) ∧ (decode cX6_keepLaw 1 = .ok (.getfield 51, 3)) ∧ (decode cX6_keepLaw 4 = .ok (.bipush 6, 2)) ∧ (decode cX6_keepLaw 6 = .ok (.if_icmp .lt 5, 3)) ∧ (decode cX6_keepLaw 9 = .ok (.iconst (-1), 1)) ∧ (decode cX6_keepLaw 10 = .ok (.ireturn, 1)) ∧ (decode cX6_keepLaw 11 = .ok (.aload_n 0, 1)) ∧ (decode cX6_keepLaw 12 = .ok (.getfield 47, 3)) ∧ (decode cX6_keepLaw 15 = .ok (.aload_n 0, 1)) ∧ (decode cX6_keepLaw 16 = .ok (.getfield 51, 3)) := by decide +kernel
theorem dX6_keepLaw_0 : decode cX6_keepLaw 0 = .ok (.aload_n 0, 1) := dX6_keepLaw_0g.1
theorem dX6_keepLaw_1 : decode cX6_keepLaw 1 = .ok (.getfield 51, 3) := dX6_keepLaw_0g.2.1
theorem dX6_keepLaw_4 : decode cX6_keepLaw 4 = .ok (.bipush 6, 2) := dX6_keepLaw_0g.2.2.1
theorem dX6_keepLaw_6 : decode cX6_keepLaw 6 = .ok (.if_icmp .lt 5, 3) := dX6_keepLaw_0g.2.2.2.1
theorem dX6_keepLaw_9 : decode cX6_keepLaw 9 = .ok (.iconst (-1), 1) := dX6_keepLaw_0g.2.2.2.2.1
theorem dX6_keepLaw_10 : decode cX6_keepLaw 10 = .ok (.ireturn, 1) := dX6_keepLaw_0g.2.2.2.2.2.1
theorem dX6_keepLaw_11 : decode cX6_keepLaw 11 = .ok (.aload_n 0, 1) := dX6_keepLaw_0g.2.2.2.2.2.2.1
theorem dX6_keepLaw_12 : decode cX6_keepLaw 12 = .ok (.getfield 47, 3) := dX6_keepLaw_0g.2.2.2.2.2.2.2.1
theorem dX6_keepLaw_15 : decode cX6_keepLaw 15 = .ok (.aload_n 0, 1) := dX6_keepLaw_0g.2.2.2.2.2.2.2.2.1
theorem dX6_keepLaw_16 : decode cX6_keepLaw 16 = .ok (.getfield 51, 3) := dX6_keepLaw_0g.2.2.2.2.2.2.2.2.2
theorem dX6_keepLaw_19g : (decode cX6_keepLaw 19 = .ok (.aload_n 1, 1)) ∧ (decode cX6_keepLaw 20 = .ok (.aastore, 1)) ∧ (decode cX6_keepLaw 21 = .ok (.aload_n 0, 1)) ∧ (decode cX6_keepLaw 22 = .ok (.dup, 1)) ∧ (decode cX6_keepLaw 23 = .ok (.getfield 51, 3)) ∧ (decode cX6_keepLaw 26 = .ok (.iconst 1, 1)) ∧ (decode cX6_keepLaw 27 = .ok (.iadd, 1)) ∧ (decode cX6_keepLaw 28 = .ok (.putfield 51, 3)) ∧ (decode cX6_keepLaw 31 = .ok (.aload_n 0, 1)) ∧ (decode cX6_keepLaw 32 = .ok (.getfield 51, 3)) := by decide +kernel
theorem dX6_keepLaw_19 : decode cX6_keepLaw 19 = .ok (.aload_n 1, 1) := dX6_keepLaw_19g.1
theorem dX6_keepLaw_20 : decode cX6_keepLaw 20 = .ok (.aastore, 1) := dX6_keepLaw_19g.2.1
theorem dX6_keepLaw_21 : decode cX6_keepLaw 21 = .ok (.aload_n 0, 1) := dX6_keepLaw_19g.2.2.1
theorem dX6_keepLaw_22 : decode cX6_keepLaw 22 = .ok (.dup, 1) := dX6_keepLaw_19g.2.2.2.1
theorem dX6_keepLaw_23 : decode cX6_keepLaw 23 = .ok (.getfield 51, 3) := dX6_keepLaw_19g.2.2.2.2.1
theorem dX6_keepLaw_26 : decode cX6_keepLaw 26 = .ok (.iconst 1, 1) := dX6_keepLaw_19g.2.2.2.2.2.1
theorem dX6_keepLaw_27 : decode cX6_keepLaw 27 = .ok (.iadd, 1) := dX6_keepLaw_19g.2.2.2.2.2.2.1
theorem dX6_keepLaw_28 : decode cX6_keepLaw 28 = .ok (.putfield 51, 3) := dX6_keepLaw_19g.2.2.2.2.2.2.2.1
theorem dX6_keepLaw_31 : decode cX6_keepLaw 31 = .ok (.aload_n 0, 1) := dX6_keepLaw_19g.2.2.2.2.2.2.2.2.1
theorem dX6_keepLaw_32 : decode cX6_keepLaw 32 = .ok (.getfield 51, 3) := dX6_keepLaw_19g.2.2.2.2.2.2.2.2.2
theorem dX6_keepLaw_35g : (decode cX6_keepLaw 35 = .ok (.iconst 1, 1)) ∧ (decode cX6_keepLaw 36 = .ok (.isub, 1)) ∧ (decode cX6_keepLaw 37 = .ok (.ireturn, 1)) := by decide +kernel
theorem dX6_keepLaw_35 : decode cX6_keepLaw 35 = .ok (.iconst 1, 1) := dX6_keepLaw_35g.1
theorem dX6_keepLaw_36 : decode cX6_keepLaw 36 = .ok (.isub, 1) := dX6_keepLaw_35g.2.1
theorem dX6_keepLaw_37 : decode cX6_keepLaw 37 = .ok (.ireturn, 1) := dX6_keepLaw_35g.2.2
set_option maxHeartbeats 4000000 in
set_option maxRecDepth 100000 in
theorem c_X6_keepLaw (l : Launch) (E : Nat → Nat) (D : va_G) (G : th_G) (h0 : Nat) (hG0 : G h0 = some (6, 0)) (p1 n1 : Nat) (hp1 : G p1 = some (5, n1)) : Met l yX6_keepLaw (tb (.code yX6_keepLaw cX6_keepLaw 2 (some .int))) (rm 0) (va_Pc [.ref h0, .ref p1] (th_P E D G)) (QI (eu E (1000 + 512 * h0) (gK (E (1000 + 512 * h0)))) D G (fun r => ((r : Int32) = -1 ∧ 48 ≤ E (1000 + 512 * h0)) ∨ ((r : Int32).toInt = ((E (1000 + 512 * h0) / 8 : Nat) : Int) ∧ E (1000 + 512 * h0) < 48))) 0 0 (th_A G) := by
  refine Met.ofW (cc := cX6_keepLaw) (maxL := 2) (ret := (some .int)) (by decide) rfl ?_
  intro p e s m args below meth c s₁ B hml hv
  obtain ⟨hav, hI, hN, hK⟩ := hv
  have hx := B.exec
  have hb := B.bytes
  have hr := B.returns
  have hts := atoms_spec (ws := tb (.code yX6_keepLaw cX6_keepLaw 2 (some .int))) B.pre
  have hown : s.vm.findClass RX6 = some m.cls := findClass_of_methodNamed B.named
  have hlocks := B.notSynchronized
  have hS : va_S (th_A G) s.heap s.heap [] := va_S.rf
  have hl := lv_entry ([.ref h0, .ref p1]) (n := 2) (Nat.le_of_ble_eq_true rfl)
  rw [show entryFrame m args 2 = entryFrame m ([.ref h0, .ref p1] : List Value).toArray 2 from by rw [hav], lg_entry_eq]
  generalize (lg_sl ([.ref h0, .ref p1]) ++ List.replicate (2 - (lg_sl ([.ref h0, .ref p1])).length) Slot.unset).toArray = ls at hl ⊢
  have hl : lv_has ls 2 [(0, .ref h0), (1, .ref p1)] := hl
  generalize hR : (headSpec (tb (.code yX6_keepLaw cX6_keepLaw 2 (some .int))) (rm 0)).room = R
  have hR := hR.symm
  generalize hQ : MQ below (QI (eu E (1000 + 512 * h0) (gK (E (1000 + 512 * h0)))) D G (fun r => ((r : Int32) = -1 ∧ 48 ≤ E (1000 + 512 * h0)) ∨ ((r : Int32).toInt = ((E (1000 + 512 * h0) / 8 : Nat) : Int) ∧ E (1000 + 512 * h0) < 48))) args s 0 0 (th_A G) = QF
  have hQ := hQ.symm
  refine lv_aload_n hx hb dX6_keepLaw_0 rfl (lv_at hl 0 rfl) ?_
  obtain ⟨a1, a3, a5, a7, a9, a11, a13, a15, a17, a19, w21, w24, w25, w26, hO, hq2, hq4, hq6, hq8, hq10, hq12, hq14, hq16, hq18, hq20, ⟨k22, k23⟩, k27⟩ := op_6 hI hG0 List.not_mem_nil
  have hI := th_I.weak (a := h0) hI
  refine th_get hx hb hts inT6 hown hK hO rfl 10 (by decide) (hts _ (tb_c wd_82)) rfl rfl dX6_keepLaw_1 ?_
  have k28 := eaW_out k27
  refine lv_bipush (v := 6) hx hb dX6_keepLaw_4 (by decide) ?_
  refine lv_icmp_lt (tgt := 11) hx hb dX6_keepLaw_6 (by decide) (fun c29 => ?_) (fun c29 => ?_)
  · skip
    have k30 := iv_lt (X := w21.toInt) (Y := (6)) rfl (by decide) c29
    refine lv_aload_n hx hb dX6_keepLaw_11 rfl (lv_at hl 0 rfl) ?_
    refine th_get hx hb hts inT6 hown hK hO rfl 9 (by decide) (hts _ (tb_c wd_81)) rfl rfl dX6_keepLaw_12 ?_
    refine lv_aload_n hx hb dX6_keepLaw_15 rfl (lv_at hl 0 rfl) ?_
    refine th_get hx hb hts inT6 hown hK hO rfl 10 (by decide) (hts _ (tb_c wd_82)) rfl rfl dX6_keepLaw_16 ?_
    have k31 := eaW_out k27
    refine lv_aload_n hx hb dX6_keepLaw_19 rfl (lv_at hl 1 rfl) ?_
    obtain ⟨_, hA32, hg33⟩ := op_2 hI hq20 (th_ne hG0 hq20 (show (6 : Nat) ≠ 2 by decide))
    obtain ⟨_, hV34⟩ := rc_5 hI hp1 (th_ne hG0 hp1 (show (6 : Nat) ≠ 5 by decide))
    refine th_aast hx hb hK hA32 4 rfl hV34 rfl hS ⟨_, hq20⟩ (iv_in (X := w21.toInt) rfl (by omega) (by omega)) dX6_keepLaw_20 (fun H locs hA32 oq hS => ?_)
    have hI := th_I.put hI hq20 hA32 (ok_2 (th_upSL hg33 hp1)) oq
    have hO := hO.kept (oq _ (fun z => th_ne hG0 hq20 (show (6 : Nat) ≠ 2 by decide) (List.mem_singleton.mpr z.symm)))
    refine lv_aload_n hx hb dX6_keepLaw_21 rfl (lv_at hl 0 rfl) ?_
    refine lv_dup hx hb dX6_keepLaw_22 rfl ?_
    refine th_get hx hb hts inT6 hown hK hO rfl 10 (by decide) (hts _ (tb_c wd_82)) rfl rfl dX6_keepLaw_23 ?_
    have k35 := eaW_out k27
    refine lv_iconst (v := 1) hx hb dX6_keepLaw_26 (by decide) ?_
    refine lv_iadd hx hb dX6_keepLaw_27 ?_
    refine lv_topi (fun v36 e37 => ?_)
    have tv36 : v36.toInt = w21.toInt + (1) := iv_add rfl (by decide) e37 (by omega) (by omega)
    have k38 := eaW_out k27
    refine th_put (ty := .int) hx hb hts inT6 tyX6 tyX6_ok nmX6 hown hK hO hS ⟨_, hG0⟩ rfl 10 (by decide) (hts _ (tb_c wd_82)) rfl rfl (by decide +kernel) rfl rfl (Nat.le_of_ble_eq_true rfl) dX6_keepLaw_28 (fun H locs hO oq hS => ?_)
    have hI := th_I.moved hI oq
    have hO : va_at D vwCl (h0, .inr (6, [.ref a1, .ref a3, .ref a5, .ref a7, .ref a9, .ref a11, .ref a13, .ref a15, .ref a17, .ref a19, .int v36, .int w24, .int w25, .int w26])) H := hO
    obtain ⟨Eu39, hEu39⟩ : ∃ x : Nat → Nat, x = eu E (1000 + 512 * h0) (8 * (v36.toInt).toNat + (w24.toInt + 1).toNat) := ⟨_, rfl⟩
    have hI : th_I (okC Eu39) D G [] H := by rw [hEu39]; exact ea_close hI hG0 hO ⟨by omega, by omega⟩ (ok_6 hq2 hq4 hq6 hq8 hq10 hq12 hq14 hq16 hq18 hq20 ⟨by omega, by omega⟩ (show eaW _ _ _ from ⟨by rw [eu_at]; omega, by rw [eu_at]; omega⟩))
    have hK : va_K D vwCl (th_tys Eu39) s := by rw [hEu39, tys_eu (by omega)]; exact hK
    have zEu39 : Eu39 (1000 + 512 * h0) = (8 * (v36.toInt).toNat + (w24.toInt + 1).toNat) := by rw [hEu39]; exact eu_at
    refine lv_aload_n hx hb dX6_keepLaw_31 rfl (lv_at hl 0 rfl) ?_
    obtain ⟨a40, a42, a44, a46, a48, a50, a52, a54, a56, a58, w60, w63, w64, w65, hO, hq41, hq43, hq45, hq47, hq49, hq51, hq53, hq55, hq57, hq59, ⟨k61, k62⟩, k66⟩ := op_6 hI hG0 List.not_mem_nil
    have hI := th_I.weak (a := h0) hI
    refine th_get hx hb hts inT6 hown hK hO rfl 10 (by decide) (hts _ (tb_c wd_82)) rfl rfl dX6_keepLaw_32 ?_
    have k67 := eaW_out k66
    refine lv_iconst (v := 1) hx hb dX6_keepLaw_35 (by decide) ?_
    refine lv_isub hx hb dX6_keepLaw_36 ?_
    refine lv_topi (fun v68 e69 => ?_)
    have tv68 : v68.toInt = w60.toInt - (1) := iv_sub rfl (by decide) e69 (by omega) (by omega)
    have hI := th_I.close hI hG0 hO (ok_6 hq41 hq43 hq45 hq47 hq49 hq51 hq53 hq55 hq57 hq59 ⟨by omega, by omega⟩ k66)
    have hEt : eu E (1000 + 512 * h0) (gK (E (1000 + 512 * h0))) = Eu39 := (congrArg (fun z => eu E (1000 + 512 * h0) z) (show gK (E (1000 + 512 * h0)) = _ from by unfold gK; (repeat' split) <;> omega)).trans hEu39.symm
    rw [← hEt] at hI hK
    have hpost : ((v68 : Int32) = -1 ∧ 48 ≤ E (1000 + 512 * h0)) ∨ ((v68 : Int32).toInt = ((E (1000 + 512 * h0) / 8 : Nat) : Int) ∧ E (1000 + 512 * h0) < 48) := by first | exact Or.inl ⟨rfl, by omega⟩ | exact Or.inr ⟨rfl, by omega⟩ | exact Or.inr ⟨by omega, by omega⟩
    rw [hQ]
    exact W.iret (v := v68) hx hb hr (fun t ht hW => ⟨⟨v68, (), rfl, hpost, by rw [ht]; exact hI, hN.warm hW, va_K.moved hW.alike hK⟩, hS.F ht⟩) hS.2.2 dX6_keepLaw_37
  · skip
    have k70 := iv_nlt (X := w21.toInt) (Y := (6)) rfl (by decide) c29
    refine lv_iconst (v := (-1)) hx hb dX6_keepLaw_9 (by decide) ?_
    have hI := th_I.close hI hG0 hO (ok_6 hq2 hq4 hq6 hq8 hq10 hq12 hq14 hq16 hq18 hq20 ⟨by omega, by omega⟩ k27)
    have hEt : eu E (1000 + 512 * h0) (gK (E (1000 + 512 * h0))) = E := eu_id (by unfold gK; (repeat' split) <;> omega)
    have hI : th_I (okC (eu E (1000 + 512 * h0) (gK (E (1000 + 512 * h0))))) D G [] s.heap := by rw [hEt]; exact hI
    have hK : va_K D vwCl (th_tys (eu E (1000 + 512 * h0) (gK (E (1000 + 512 * h0))))) s := by rw [hEt]; exact hK
    have hpost : (((-1) : Int32) = -1 ∧ 48 ≤ E (1000 + 512 * h0)) ∨ (((-1) : Int32).toInt = ((E (1000 + 512 * h0) / 8 : Nat) : Int) ∧ E (1000 + 512 * h0) < 48) := by first | exact Or.inl ⟨rfl, by omega⟩ | exact Or.inr ⟨rfl, by omega⟩ | exact Or.inr ⟨by omega, by omega⟩
    rw [hQ]
    exact W.iret (v := (-1)) hx hb hr (fun t ht hW => ⟨⟨(-1), (), rfl, hpost, by rw [ht]; exact hI, hN.warm hW, va_K.moved hW.alike hK⟩, hS.F ht⟩) hS.2.2 dX6_keepLaw_10
theorem dX6_copyFrom_0g : (decode cX6_copyFrom 0 = .ok (.aload_n 1, 1)) ∧ (decode cX6_copyFrom 1 = .ok (.getfield 9, 3)) ∧ (decode cX6_copyFrom 4 = .ok (.iconst 0, 1)) ∧ (decode cX6_copyFrom 5 = .ok (.aload_n 0, 1)) ∧ (decode cX6_copyFrom 6 = .ok (.getfield 9, 3)) ∧ (decode cX6_copyFrom 9 = .ok (.iconst 0, 1)) ∧ (decode cX6_copyFrom 10 = .ok (.aload_n 0, 1)) ∧ (decode cX6_copyFrom 11 = .ok (.getfield 9, 3)) ∧ (decode cX6_copyFrom 14 = .ok (.arraylength, 1)) ∧ (decode cX6_copyFrom 15 = .ok (.invokestatic 64, 3)) := by decide +kernel
theorem dX6_copyFrom_0 : decode cX6_copyFrom 0 = .ok (.aload_n 1, 1) := dX6_copyFrom_0g.1
theorem dX6_copyFrom_1 : decode cX6_copyFrom 1 = .ok (.getfield 9, 3) := dX6_copyFrom_0g.2.1
theorem dX6_copyFrom_4 : decode cX6_copyFrom 4 = .ok (.iconst 0, 1) := dX6_copyFrom_0g.2.2.1
theorem dX6_copyFrom_5 : decode cX6_copyFrom 5 = .ok (.aload_n 0, 1) := dX6_copyFrom_0g.2.2.2.1
theorem dX6_copyFrom_6 : decode cX6_copyFrom 6 = .ok (.getfield 9, 3) := dX6_copyFrom_0g.2.2.2.2.1
theorem dX6_copyFrom_9 : decode cX6_copyFrom 9 = .ok (.iconst 0, 1) := dX6_copyFrom_0g.2.2.2.2.2.1
theorem dX6_copyFrom_10 : decode cX6_copyFrom 10 = .ok (.aload_n 0, 1) := dX6_copyFrom_0g.2.2.2.2.2.2.1
theorem dX6_copyFrom_11 : decode cX6_copyFrom 11 = .ok (.getfield 9, 3) := dX6_copyFrom_0g.2.2.2.2.2.2.2.1
theorem dX6_copyFrom_14 : decode cX6_copyFrom 14 = .ok (.arraylength, 1) := dX6_copyFrom_0g.2.2.2.2.2.2.2.2.1
theorem dX6_copyFrom_15 : decode cX6_copyFrom 15 = .ok (.invokestatic 64, 3) := dX6_copyFrom_0g.2.2.2.2.2.2.2.2.2
theorem dX6_copyFrom_18g : (decode cX6_copyFrom 18 = .ok (.aload_n 1, 1)) ∧ (decode cX6_copyFrom 19 = .ok (.getfield 15, 3)) ∧ (decode cX6_copyFrom 22 = .ok (.iconst 0, 1)) ∧ (decode cX6_copyFrom 23 = .ok (.aload_n 0, 1)) ∧ (decode cX6_copyFrom 24 = .ok (.getfield 15, 3)) ∧ (decode cX6_copyFrom 27 = .ok (.iconst 0, 1)) ∧ (decode cX6_copyFrom 28 = .ok (.aload_n 0, 1)) ∧ (decode cX6_copyFrom 29 = .ok (.getfield 15, 3)) ∧ (decode cX6_copyFrom 32 = .ok (.arraylength, 1)) ∧ (decode cX6_copyFrom 33 = .ok (.invokestatic 64, 3)) := by decide +kernel
theorem dX6_copyFrom_18 : decode cX6_copyFrom 18 = .ok (.aload_n 1, 1) := dX6_copyFrom_18g.1
theorem dX6_copyFrom_19 : decode cX6_copyFrom 19 = .ok (.getfield 15, 3) := dX6_copyFrom_18g.2.1
theorem dX6_copyFrom_22 : decode cX6_copyFrom 22 = .ok (.iconst 0, 1) := dX6_copyFrom_18g.2.2.1
theorem dX6_copyFrom_23 : decode cX6_copyFrom 23 = .ok (.aload_n 0, 1) := dX6_copyFrom_18g.2.2.2.1
theorem dX6_copyFrom_24 : decode cX6_copyFrom 24 = .ok (.getfield 15, 3) := dX6_copyFrom_18g.2.2.2.2.1
theorem dX6_copyFrom_27 : decode cX6_copyFrom 27 = .ok (.iconst 0, 1) := dX6_copyFrom_18g.2.2.2.2.2.1
theorem dX6_copyFrom_28 : decode cX6_copyFrom 28 = .ok (.aload_n 0, 1) := dX6_copyFrom_18g.2.2.2.2.2.2.1
theorem dX6_copyFrom_29 : decode cX6_copyFrom 29 = .ok (.getfield 15, 3) := dX6_copyFrom_18g.2.2.2.2.2.2.2.1
theorem dX6_copyFrom_32 : decode cX6_copyFrom 32 = .ok (.arraylength, 1) := dX6_copyFrom_18g.2.2.2.2.2.2.2.2.1
theorem dX6_copyFrom_33 : decode cX6_copyFrom 33 = .ok (.invokestatic 64, 3) := dX6_copyFrom_18g.2.2.2.2.2.2.2.2.2
theorem dX6_copyFrom_36g : (decode cX6_copyFrom 36 = .ok (.iconst 0, 1)) ∧ (decode cX6_copyFrom 37 = .ok (.istore_n 2, 1)) ∧ (decode cX6_copyFrom 38 = .ok (.iload_n 2, 1)) ∧ (decode cX6_copyFrom 39 = .ok (.bipush 6, 2)) ∧ (decode cX6_copyFrom 41 = .ok (.if_icmp .ge 21, 3)) ∧ (decode cX6_copyFrom 44 = .ok (.aload_n 0, 1)) ∧ (decode cX6_copyFrom 45 = .ok (.getfield 47, 3)) ∧ (decode cX6_copyFrom 48 = .ok (.iload_n 2, 1)) ∧ (decode cX6_copyFrom 49 = .ok (.aload_n 1, 1)) ∧ (decode cX6_copyFrom 50 = .ok (.getfield 47, 3)) := by decide +kernel
theorem dX6_copyFrom_36 : decode cX6_copyFrom 36 = .ok (.iconst 0, 1) := dX6_copyFrom_36g.1
theorem dX6_copyFrom_37 : decode cX6_copyFrom 37 = .ok (.istore_n 2, 1) := dX6_copyFrom_36g.2.1
theorem dX6_copyFrom_38 : decode cX6_copyFrom 38 = .ok (.iload_n 2, 1) := dX6_copyFrom_36g.2.2.1
theorem dX6_copyFrom_39 : decode cX6_copyFrom 39 = .ok (.bipush 6, 2) := dX6_copyFrom_36g.2.2.2.1
theorem dX6_copyFrom_41 : decode cX6_copyFrom 41 = .ok (.if_icmp .ge 21, 3) := dX6_copyFrom_36g.2.2.2.2.1
theorem dX6_copyFrom_44 : decode cX6_copyFrom 44 = .ok (.aload_n 0, 1) := dX6_copyFrom_36g.2.2.2.2.2.1
theorem dX6_copyFrom_45 : decode cX6_copyFrom 45 = .ok (.getfield 47, 3) := dX6_copyFrom_36g.2.2.2.2.2.2.1
theorem dX6_copyFrom_48 : decode cX6_copyFrom 48 = .ok (.iload_n 2, 1) := dX6_copyFrom_36g.2.2.2.2.2.2.2.1
theorem dX6_copyFrom_49 : decode cX6_copyFrom 49 = .ok (.aload_n 1, 1) := dX6_copyFrom_36g.2.2.2.2.2.2.2.2.1
theorem dX6_copyFrom_50 : decode cX6_copyFrom 50 = .ok (.getfield 47, 3) := dX6_copyFrom_36g.2.2.2.2.2.2.2.2.2
theorem dX6_copyFrom_53g : (decode cX6_copyFrom 53 = .ok (.iload_n 2, 1)) ∧ (decode cX6_copyFrom 54 = .ok (.aaload, 1)) ∧ (decode cX6_copyFrom 55 = .ok (.aastore, 1)) ∧ (decode cX6_copyFrom 56 = .ok (.iinc 2 1, 3)) ∧ (decode cX6_copyFrom 59 = .ok (.goto (-21), 3)) ∧ (decode cX6_copyFrom 62 = .ok (.aload_n 0, 1)) ∧ (decode cX6_copyFrom 63 = .ok (.getfield 23, 3)) ∧ (decode cX6_copyFrom 66 = .ok (.aload_n 1, 1)) ∧ (decode cX6_copyFrom 67 = .ok (.getfield 23, 3)) ∧ (decode cX6_copyFrom 70 = .ok (.invokevirtual 70, 3)) := by decide +kernel
theorem dX6_copyFrom_53 : decode cX6_copyFrom 53 = .ok (.iload_n 2, 1) := dX6_copyFrom_53g.1
theorem dX6_copyFrom_54 : decode cX6_copyFrom 54 = .ok (.aaload, 1) := dX6_copyFrom_53g.2.1
theorem dX6_copyFrom_55 : decode cX6_copyFrom 55 = .ok (.aastore, 1) := dX6_copyFrom_53g.2.2.1
theorem dX6_copyFrom_56 : decode cX6_copyFrom 56 = .ok (.iinc 2 1, 3) := dX6_copyFrom_53g.2.2.2.1
theorem dX6_copyFrom_59 : decode cX6_copyFrom 59 = .ok (.goto (-21), 3) := dX6_copyFrom_53g.2.2.2.2.1
theorem dX6_copyFrom_62 : decode cX6_copyFrom 62 = .ok (.aload_n 0, 1) := dX6_copyFrom_53g.2.2.2.2.2.1
theorem dX6_copyFrom_63 : decode cX6_copyFrom 63 = .ok (.getfield 23, 3) := dX6_copyFrom_53g.2.2.2.2.2.2.1
theorem dX6_copyFrom_66 : decode cX6_copyFrom 66 = .ok (.aload_n 1, 1) := dX6_copyFrom_53g.2.2.2.2.2.2.2.1
theorem dX6_copyFrom_67 : decode cX6_copyFrom 67 = .ok (.getfield 23, 3) := dX6_copyFrom_53g.2.2.2.2.2.2.2.2.1
theorem dX6_copyFrom_70 : decode cX6_copyFrom 70 = .ok (.invokevirtual 70, 3) := dX6_copyFrom_53g.2.2.2.2.2.2.2.2.2
theorem dX6_copyFrom_73g : (decode cX6_copyFrom 73 = .ok (.aload_n 0, 1)) ∧ (decode cX6_copyFrom 74 = .ok (.getfield 27, 3)) ∧ (decode cX6_copyFrom 77 = .ok (.aload_n 1, 1)) ∧ (decode cX6_copyFrom 78 = .ok (.getfield 27, 3)) ∧ (decode cX6_copyFrom 81 = .ok (.invokevirtual 70, 3)) ∧ (decode cX6_copyFrom 84 = .ok (.aload_n 0, 1)) ∧ (decode cX6_copyFrom 85 = .ok (.getfield 30, 3)) ∧ (decode cX6_copyFrom 88 = .ok (.aload_n 1, 1)) ∧ (decode cX6_copyFrom 89 = .ok (.getfield 30, 3)) ∧ (decode cX6_copyFrom 92 = .ok (.invokevirtual 70, 3)) := by decide +kernel
theorem dX6_copyFrom_73 : decode cX6_copyFrom 73 = .ok (.aload_n 0, 1) := dX6_copyFrom_73g.1
theorem dX6_copyFrom_74 : decode cX6_copyFrom 74 = .ok (.getfield 27, 3) := dX6_copyFrom_73g.2.1
theorem dX6_copyFrom_77 : decode cX6_copyFrom 77 = .ok (.aload_n 1, 1) := dX6_copyFrom_73g.2.2.1
theorem dX6_copyFrom_78 : decode cX6_copyFrom 78 = .ok (.getfield 27, 3) := dX6_copyFrom_73g.2.2.2.1
theorem dX6_copyFrom_81 : decode cX6_copyFrom 81 = .ok (.invokevirtual 70, 3) := dX6_copyFrom_73g.2.2.2.2.1
theorem dX6_copyFrom_84 : decode cX6_copyFrom 84 = .ok (.aload_n 0, 1) := dX6_copyFrom_73g.2.2.2.2.2.1
theorem dX6_copyFrom_85 : decode cX6_copyFrom 85 = .ok (.getfield 30, 3) := dX6_copyFrom_73g.2.2.2.2.2.2.1
theorem dX6_copyFrom_88 : decode cX6_copyFrom 88 = .ok (.aload_n 1, 1) := dX6_copyFrom_73g.2.2.2.2.2.2.2.1
theorem dX6_copyFrom_89 : decode cX6_copyFrom 89 = .ok (.getfield 30, 3) := dX6_copyFrom_73g.2.2.2.2.2.2.2.2.1
theorem dX6_copyFrom_92 : decode cX6_copyFrom 92 = .ok (.invokevirtual 70, 3) := dX6_copyFrom_73g.2.2.2.2.2.2.2.2.2
theorem dX6_copyFrom_95g : (decode cX6_copyFrom 95 = .ok (.aload_n 0, 1)) ∧ (decode cX6_copyFrom 96 = .ok (.getfield 33, 3)) ∧ (decode cX6_copyFrom 99 = .ok (.aload_n 1, 1)) ∧ (decode cX6_copyFrom 100 = .ok (.getfield 33, 3)) ∧ (decode cX6_copyFrom 103 = .ok (.invokevirtual 70, 3)) ∧ (decode cX6_copyFrom 106 = .ok (.aload_n 0, 1)) ∧ (decode cX6_copyFrom 107 = .ok (.getfield 36, 3)) ∧ (decode cX6_copyFrom 110 = .ok (.aload_n 1, 1)) ∧ (decode cX6_copyFrom 111 = .ok (.getfield 36, 3)) ∧ (decode cX6_copyFrom 114 = .ok (.invokevirtual 70, 3)) := by decide +kernel
theorem dX6_copyFrom_95 : decode cX6_copyFrom 95 = .ok (.aload_n 0, 1) := dX6_copyFrom_95g.1
theorem dX6_copyFrom_96 : decode cX6_copyFrom 96 = .ok (.getfield 33, 3) := dX6_copyFrom_95g.2.1
theorem dX6_copyFrom_99 : decode cX6_copyFrom 99 = .ok (.aload_n 1, 1) := dX6_copyFrom_95g.2.2.1
theorem dX6_copyFrom_100 : decode cX6_copyFrom 100 = .ok (.getfield 33, 3) := dX6_copyFrom_95g.2.2.2.1
theorem dX6_copyFrom_103 : decode cX6_copyFrom 103 = .ok (.invokevirtual 70, 3) := dX6_copyFrom_95g.2.2.2.2.1
theorem dX6_copyFrom_106 : decode cX6_copyFrom 106 = .ok (.aload_n 0, 1) := dX6_copyFrom_95g.2.2.2.2.2.1
theorem dX6_copyFrom_107 : decode cX6_copyFrom 107 = .ok (.getfield 36, 3) := dX6_copyFrom_95g.2.2.2.2.2.2.1
theorem dX6_copyFrom_110 : decode cX6_copyFrom 110 = .ok (.aload_n 1, 1) := dX6_copyFrom_95g.2.2.2.2.2.2.2.1
theorem dX6_copyFrom_111 : decode cX6_copyFrom 111 = .ok (.getfield 36, 3) := dX6_copyFrom_95g.2.2.2.2.2.2.2.2.1
theorem dX6_copyFrom_114 : decode cX6_copyFrom 114 = .ok (.invokevirtual 70, 3) := dX6_copyFrom_95g.2.2.2.2.2.2.2.2.2
theorem dX6_copyFrom_117g : (decode cX6_copyFrom 117 = .ok (.aload_n 0, 1)) ∧ (decode cX6_copyFrom 118 = .ok (.getfield 39, 3)) ∧ (decode cX6_copyFrom 121 = .ok (.aload_n 1, 1)) ∧ (decode cX6_copyFrom 122 = .ok (.getfield 39, 3)) ∧ (decode cX6_copyFrom 125 = .ok (.invokevirtual 70, 3)) ∧ (decode cX6_copyFrom 128 = .ok (.aload_n 0, 1)) ∧ (decode cX6_copyFrom 129 = .ok (.getfield 42, 3)) ∧ (decode cX6_copyFrom 132 = .ok (.aload_n 1, 1)) ∧ (decode cX6_copyFrom 133 = .ok (.getfield 42, 3)) ∧ (decode cX6_copyFrom 136 = .ok (.invokevirtual 70, 3)) := by decide +kernel
theorem dX6_copyFrom_117 : decode cX6_copyFrom 117 = .ok (.aload_n 0, 1) := dX6_copyFrom_117g.1
theorem dX6_copyFrom_118 : decode cX6_copyFrom 118 = .ok (.getfield 39, 3) := dX6_copyFrom_117g.2.1
theorem dX6_copyFrom_121 : decode cX6_copyFrom 121 = .ok (.aload_n 1, 1) := dX6_copyFrom_117g.2.2.1
theorem dX6_copyFrom_122 : decode cX6_copyFrom 122 = .ok (.getfield 39, 3) := dX6_copyFrom_117g.2.2.2.1
theorem dX6_copyFrom_125 : decode cX6_copyFrom 125 = .ok (.invokevirtual 70, 3) := dX6_copyFrom_117g.2.2.2.2.1
theorem dX6_copyFrom_128 : decode cX6_copyFrom 128 = .ok (.aload_n 0, 1) := dX6_copyFrom_117g.2.2.2.2.2.1
theorem dX6_copyFrom_129 : decode cX6_copyFrom 129 = .ok (.getfield 42, 3) := dX6_copyFrom_117g.2.2.2.2.2.2.1
theorem dX6_copyFrom_132 : decode cX6_copyFrom 132 = .ok (.aload_n 1, 1) := dX6_copyFrom_117g.2.2.2.2.2.2.2.1
theorem dX6_copyFrom_133 : decode cX6_copyFrom 133 = .ok (.getfield 42, 3) := dX6_copyFrom_117g.2.2.2.2.2.2.2.2.1
theorem dX6_copyFrom_136 : decode cX6_copyFrom 136 = .ok (.invokevirtual 70, 3) := dX6_copyFrom_117g.2.2.2.2.2.2.2.2.2
theorem dX6_copyFrom_139g : (decode cX6_copyFrom 139 = .ok (.aload_n 0, 1)) ∧ (decode cX6_copyFrom 140 = .ok (.aload_n 1, 1)) ∧ (decode cX6_copyFrom 141 = .ok (.getfield 51, 3)) ∧ (decode cX6_copyFrom 144 = .ok (.putfield 51, 3)) ∧ (decode cX6_copyFrom 147 = .ok (.aload_n 0, 1)) ∧ (decode cX6_copyFrom 148 = .ok (.aload_n 1, 1)) ∧ (decode cX6_copyFrom 149 = .ok (.getfield 55, 3)) ∧ (decode cX6_copyFrom 152 = .ok (.putfield 55, 3)) ∧ (decode cX6_copyFrom 155 = .ok (.aload_n 0, 1)) ∧ (decode cX6_copyFrom 156 = .ok (.aload_n 1, 1)) := by decide +kernel
theorem dX6_copyFrom_139 : decode cX6_copyFrom 139 = .ok (.aload_n 0, 1) := dX6_copyFrom_139g.1
theorem dX6_copyFrom_140 : decode cX6_copyFrom 140 = .ok (.aload_n 1, 1) := dX6_copyFrom_139g.2.1
theorem dX6_copyFrom_141 : decode cX6_copyFrom 141 = .ok (.getfield 51, 3) := dX6_copyFrom_139g.2.2.1
theorem dX6_copyFrom_144 : decode cX6_copyFrom 144 = .ok (.putfield 51, 3) := dX6_copyFrom_139g.2.2.2.1
theorem dX6_copyFrom_147 : decode cX6_copyFrom 147 = .ok (.aload_n 0, 1) := dX6_copyFrom_139g.2.2.2.2.1
theorem dX6_copyFrom_148 : decode cX6_copyFrom 148 = .ok (.aload_n 1, 1) := dX6_copyFrom_139g.2.2.2.2.2.1
theorem dX6_copyFrom_149 : decode cX6_copyFrom 149 = .ok (.getfield 55, 3) := dX6_copyFrom_139g.2.2.2.2.2.2.1
theorem dX6_copyFrom_152 : decode cX6_copyFrom 152 = .ok (.putfield 55, 3) := dX6_copyFrom_139g.2.2.2.2.2.2.2.1
theorem dX6_copyFrom_155 : decode cX6_copyFrom 155 = .ok (.aload_n 0, 1) := dX6_copyFrom_139g.2.2.2.2.2.2.2.2.1
theorem dX6_copyFrom_156 : decode cX6_copyFrom 156 = .ok (.aload_n 1, 1) := dX6_copyFrom_139g.2.2.2.2.2.2.2.2.2
theorem dX6_copyFrom_157g : (decode cX6_copyFrom 157 = .ok (.getfield 58, 3)) ∧ (decode cX6_copyFrom 160 = .ok (.putfield 58, 3)) ∧ (decode cX6_copyFrom 163 = .ok (.aload_n 0, 1)) ∧ (decode cX6_copyFrom 164 = .ok (.aload_n 1, 1)) ∧ (decode cX6_copyFrom 165 = .ok (.getfield 61, 3)) ∧ (decode cX6_copyFrom 168 = .ok (.putfield 61, 3)) ∧ (decode cX6_copyFrom 171 = .ok (.return_, 1)) := by decide +kernel
theorem dX6_copyFrom_157 : decode cX6_copyFrom 157 = .ok (.getfield 58, 3) := dX6_copyFrom_157g.1
theorem dX6_copyFrom_160 : decode cX6_copyFrom 160 = .ok (.putfield 58, 3) := dX6_copyFrom_157g.2.1
theorem dX6_copyFrom_163 : decode cX6_copyFrom 163 = .ok (.aload_n 0, 1) := dX6_copyFrom_157g.2.2.1
theorem dX6_copyFrom_164 : decode cX6_copyFrom 164 = .ok (.aload_n 1, 1) := dX6_copyFrom_157g.2.2.2.1
theorem dX6_copyFrom_165 : decode cX6_copyFrom 165 = .ok (.getfield 61, 3) := dX6_copyFrom_157g.2.2.2.2.1
theorem dX6_copyFrom_168 : decode cX6_copyFrom 168 = .ok (.putfield 61, 3) := dX6_copyFrom_157g.2.2.2.2.2.1
theorem dX6_copyFrom_171 : decode cX6_copyFrom 171 = .ok (.return_, 1) := dX6_copyFrom_157g.2.2.2.2.2.2
set_option maxHeartbeats 4000000 in
set_option maxRecDepth 100000 in
theorem c_X6_copyFrom (l : Launch) (E : Nat → Nat) (D : va_G) (G : th_G) (h0 : Nat) (hG0 : G h0 = some (6, 0)) (p1 : Nat) (hp1 : G p1 = some (6, 0)) (hne : p1 ≠ h0) : Met l yX6_copyFrom (tb (.code yX6_copyFrom cX6_copyFrom 3 none)) (rm 2) (va_Pc [.ref h0, .ref p1] (th_P E D G)) (QV (eu E (1000 + 512 * h0) (E (1000 + 512 * p1))) D G) 0 0 (th_A G) := by
  refine Met.ofW (cc := cX6_copyFrom) (maxL := 3) (ret := none) (by decide) rfl ?_
  intro p e s m args below meth c s₁ B hml hv
  obtain ⟨hav, hI, hN, hK⟩ := hv
  have hx := B.exec
  have hb := B.bytes
  have hr := B.returns
  have hts := atoms_spec (ws := tb (.code yX6_copyFrom cX6_copyFrom 3 none)) B.pre
  have hown : s.vm.findClass RX6 = some m.cls := findClass_of_methodNamed B.named
  have hlocks := B.notSynchronized
  have hS : va_S (th_A G) s.heap s.heap [] := va_S.rf
  have hl := lv_entry ([.ref h0, .ref p1]) (n := 3) (Nat.le_of_ble_eq_true rfl)
  rw [show entryFrame m args 3 = entryFrame m ([.ref h0, .ref p1] : List Value).toArray 3 from by rw [hav], lg_entry_eq]
  generalize (lg_sl ([.ref h0, .ref p1]) ++ List.replicate (3 - (lg_sl ([.ref h0, .ref p1])).length) Slot.unset).toArray = ls at hl ⊢
  have hl : lv_has ls 3 [(0, .ref h0), (1, .ref p1)] := hl
  generalize hR : (headSpec (tb (.code yX6_copyFrom cX6_copyFrom 3 none)) (rm 2)).room = R
  have hR := hR.symm
  generalize hQ : MQ below (QV (eu E (1000 + 512 * h0) (E (1000 + 512 * p1))) D G) args s 0 0 (th_A G) = QF
  have hQ := hQ.symm
  have J_38 : ∀ (nn : Nat) (H : Heap) (locs : List Loc) (ls : Array Slot) (v6723 : Int32), (Int.toNat (6 - v6723.toInt) = nn) → lv_has ls 3 [(2, .int v6723), (0, .ref h0), (1, .ref p1)] → ((0 : Int) ≤ v6723.toInt ∧ v6723.toInt ≤ 6) → th_I (okC E) D G [] H → va_S (th_A G) s.heap H locs → W p l e R s m args below meth c H locs 0 0 QF (F0 m 38 ls []) := by
    intro nn
    induction nn using Nat.strongRecOn with
    | ind nn ih_38 =>
      intro H locs ls v6723 hm hl k6724 hI hS
      refine lv_iload_n hx hb dX6_copyFrom_38 rfl (lv_at hl 0 rfl) ?_
      refine lv_bipush (v := 6) hx hb dX6_copyFrom_39 (by decide) ?_
      refine lv_icmp_ge (tgt := 62) hx hb dX6_copyFrom_41 (by decide) (fun c6725 => ?_) (fun c6725 => ?_)
      · skip
        have k6726 := iv_le (X := (6)) (Y := v6723.toInt) (by decide) rfl c6725
        refine lv_aload_n hx hb dX6_copyFrom_62 rfl (lv_at hl 1 rfl) ?_
        obtain ⟨a6727, a6729, a6731, a6733, a6735, a6737, a6739, a6741, a6743, a6745, w6747, w6750, w6751, w6752, hO, hq6728, hq6730, hq6732, hq6734, hq6736, hq6738, hq6740, hq6742, hq6744, hq6746, ⟨k6748, k6749⟩, k6753⟩ := op_6 hI hG0 List.not_mem_nil
        have hI := th_I.weak (a := h0) hI
        refine th_get hx hb hts inT6 hown hK hO rfl 2 (by decide) (hts _ (tb_c wd_60)) rfl rfl dX6_copyFrom_63 ?_
        refine lv_aload_n hx hb dX6_copyFrom_66 rfl (lv_at hl 2 rfl) ?_
        have hI := th_I.close hI hG0 hO (ok_6 hq6728 hq6730 hq6732 hq6734 hq6736 hq6738 hq6740 hq6742 hq6744 hq6746 ⟨by omega, by omega⟩ k6753)
        obtain ⟨a6754, a6756, a6758, a6760, a6762, a6764, a6766, a6768, a6770, a6772, w6774, w6777, w6778, w6779, hO, hq6755, hq6757, hq6759, hq6761, hq6763, hq6765, hq6767, hq6769, hq6771, hq6773, ⟨k6775, k6776⟩, k6780⟩ := op_6 hI hp1 List.not_mem_nil
        have hI := th_I.weak (a := p1) hI
        refine th_get hx hb hts inT6 hown hK hO rfl 2 (by decide) (hts _ (tb_c wd_60)) rfl rfl dX6_copyFrom_67 ?_
        have hI := th_I.close hI hp1 hO (ok_6 hq6755 hq6757 hq6759 hq6761 hq6763 hq6765 hq6767 hq6769 hq6771 hq6773 ⟨by omega, by omega⟩ k6780)
        refine th_cVv (As := [.ref a6758]) (rest := []) (n := 1) (d := 1) ⟨hx, hb, hml, hown, hts⟩ (c_X4_copyFrom l E D G a6731 8 hq6732 a6758 hq6759) wd_1207 wd_1208 wd_1209 wd_3 wd_1210 (by decide +kernel) ⟨by rw [hR]; exact Nat.le_of_ble_eq_true rfl, by rw [hR]; exact Nat.le_of_ble_eq_true rfl⟩ hI hN hK hS (rc_4 hI hq6732 List.not_mem_nil) rfl rfl hl.1 rfl (Nat.le_of_ble_eq_true rfl) dX6_copyFrom_70 ⟨Nat.zero_le _, Nat.zero_le _⟩ (fun H locs hI hS => ?_)
        refine lv_aload_n hx hb dX6_copyFrom_73 rfl (lv_at hl 1 rfl) ?_
        obtain ⟨a6782, a6784, a6786, a6788, a6790, a6792, a6794, a6796, a6798, a6800, w6802, w6805, w6806, w6807, hO, hq6783, hq6785, hq6787, hq6789, hq6791, hq6793, hq6795, hq6797, hq6799, hq6801, ⟨k6803, k6804⟩, k6808⟩ := op_6 hI hG0 List.not_mem_nil
        have hI := th_I.weak (a := h0) hI
        refine th_get hx hb hts inT6 hown hK hO rfl 3 (by decide) (hts _ (tb_c wd_63)) rfl rfl dX6_copyFrom_74 ?_
        refine lv_aload_n hx hb dX6_copyFrom_77 rfl (lv_at hl 2 rfl) ?_
        have hI := th_I.close hI hG0 hO (ok_6 hq6783 hq6785 hq6787 hq6789 hq6791 hq6793 hq6795 hq6797 hq6799 hq6801 ⟨by omega, by omega⟩ k6808)
        obtain ⟨a6809, a6811, a6813, a6815, a6817, a6819, a6821, a6823, a6825, a6827, w6829, w6832, w6833, w6834, hO, hq6810, hq6812, hq6814, hq6816, hq6818, hq6820, hq6822, hq6824, hq6826, hq6828, ⟨k6830, k6831⟩, k6835⟩ := op_6 hI hp1 List.not_mem_nil
        have hI := th_I.weak (a := p1) hI
        refine th_get hx hb hts inT6 hown hK hO rfl 3 (by decide) (hts _ (tb_c wd_63)) rfl rfl dX6_copyFrom_78 ?_
        have hI := th_I.close hI hp1 hO (ok_6 hq6810 hq6812 hq6814 hq6816 hq6818 hq6820 hq6822 hq6824 hq6826 hq6828 ⟨by omega, by omega⟩ k6835)
        refine th_cVv (As := [.ref a6815]) (rest := []) (n := 1) (d := 1) ⟨hx, hb, hml, hown, hts⟩ (c_X4_copyFrom l E D G a6788 6 hq6789 a6815 hq6816) wd_1207 wd_1208 wd_1209 wd_3 wd_1210 (by decide +kernel) ⟨by rw [hR]; exact Nat.le_of_ble_eq_true rfl, by rw [hR]; exact Nat.le_of_ble_eq_true rfl⟩ hI hN hK hS (rc_4 hI hq6789 List.not_mem_nil) rfl rfl hl.1 rfl (Nat.le_of_ble_eq_true rfl) dX6_copyFrom_81 ⟨Nat.zero_le _, Nat.zero_le _⟩ (fun H locs hI hS => ?_)
        refine lv_aload_n hx hb dX6_copyFrom_84 rfl (lv_at hl 1 rfl) ?_
        obtain ⟨a6837, a6839, a6841, a6843, a6845, a6847, a6849, a6851, a6853, a6855, w6857, w6860, w6861, w6862, hO, hq6838, hq6840, hq6842, hq6844, hq6846, hq6848, hq6850, hq6852, hq6854, hq6856, ⟨k6858, k6859⟩, k6863⟩ := op_6 hI hG0 List.not_mem_nil
        have hI := th_I.weak (a := h0) hI
        refine th_get hx hb hts inT6 hown hK hO rfl 4 (by decide) (hts _ (tb_c wd_66)) rfl rfl dX6_copyFrom_85 ?_
        refine lv_aload_n hx hb dX6_copyFrom_88 rfl (lv_at hl 2 rfl) ?_
        have hI := th_I.close hI hG0 hO (ok_6 hq6838 hq6840 hq6842 hq6844 hq6846 hq6848 hq6850 hq6852 hq6854 hq6856 ⟨by omega, by omega⟩ k6863)
        obtain ⟨a6864, a6866, a6868, a6870, a6872, a6874, a6876, a6878, a6880, a6882, w6884, w6887, w6888, w6889, hO, hq6865, hq6867, hq6869, hq6871, hq6873, hq6875, hq6877, hq6879, hq6881, hq6883, ⟨k6885, k6886⟩, k6890⟩ := op_6 hI hp1 List.not_mem_nil
        have hI := th_I.weak (a := p1) hI
        refine th_get hx hb hts inT6 hown hK hO rfl 4 (by decide) (hts _ (tb_c wd_66)) rfl rfl dX6_copyFrom_89 ?_
        have hI := th_I.close hI hp1 hO (ok_6 hq6865 hq6867 hq6869 hq6871 hq6873 hq6875 hq6877 hq6879 hq6881 hq6883 ⟨by omega, by omega⟩ k6890)
        refine th_cVv (As := [.ref a6872]) (rest := []) (n := 1) (d := 1) ⟨hx, hb, hml, hown, hts⟩ (c_X4_copyFrom l E D G a6845 6 hq6846 a6872 hq6873) wd_1207 wd_1208 wd_1209 wd_3 wd_1210 (by decide +kernel) ⟨by rw [hR]; exact Nat.le_of_ble_eq_true rfl, by rw [hR]; exact Nat.le_of_ble_eq_true rfl⟩ hI hN hK hS (rc_4 hI hq6846 List.not_mem_nil) rfl rfl hl.1 rfl (Nat.le_of_ble_eq_true rfl) dX6_copyFrom_92 ⟨Nat.zero_le _, Nat.zero_le _⟩ (fun H locs hI hS => ?_)
        refine lv_aload_n hx hb dX6_copyFrom_95 rfl (lv_at hl 1 rfl) ?_
        obtain ⟨a6892, a6894, a6896, a6898, a6900, a6902, a6904, a6906, a6908, a6910, w6912, w6915, w6916, w6917, hO, hq6893, hq6895, hq6897, hq6899, hq6901, hq6903, hq6905, hq6907, hq6909, hq6911, ⟨k6913, k6914⟩, k6918⟩ := op_6 hI hG0 List.not_mem_nil
        have hI := th_I.weak (a := h0) hI
        refine th_get hx hb hts inT6 hown hK hO rfl 5 (by decide) (hts _ (tb_c wd_69)) rfl rfl dX6_copyFrom_96 ?_
        refine lv_aload_n hx hb dX6_copyFrom_99 rfl (lv_at hl 2 rfl) ?_
        have hI := th_I.close hI hG0 hO (ok_6 hq6893 hq6895 hq6897 hq6899 hq6901 hq6903 hq6905 hq6907 hq6909 hq6911 ⟨by omega, by omega⟩ k6918)
        obtain ⟨a6919, a6921, a6923, a6925, a6927, a6929, a6931, a6933, a6935, a6937, w6939, w6942, w6943, w6944, hO, hq6920, hq6922, hq6924, hq6926, hq6928, hq6930, hq6932, hq6934, hq6936, hq6938, ⟨k6940, k6941⟩, k6945⟩ := op_6 hI hp1 List.not_mem_nil
        have hI := th_I.weak (a := p1) hI
        refine th_get hx hb hts inT6 hown hK hO rfl 5 (by decide) (hts _ (tb_c wd_69)) rfl rfl dX6_copyFrom_100 ?_
        have hI := th_I.close hI hp1 hO (ok_6 hq6920 hq6922 hq6924 hq6926 hq6928 hq6930 hq6932 hq6934 hq6936 hq6938 ⟨by omega, by omega⟩ k6945)
        refine th_cVv (As := [.ref a6929]) (rest := []) (n := 1) (d := 1) ⟨hx, hb, hml, hown, hts⟩ (c_X4_copyFrom l E D G a6902 16 hq6903 a6929 hq6930) wd_1207 wd_1208 wd_1209 wd_3 wd_1210 (by decide +kernel) ⟨by rw [hR]; exact Nat.le_of_ble_eq_true rfl, by rw [hR]; exact Nat.le_of_ble_eq_true rfl⟩ hI hN hK hS (rc_4 hI hq6903 List.not_mem_nil) rfl rfl hl.1 rfl (Nat.le_of_ble_eq_true rfl) dX6_copyFrom_103 ⟨Nat.zero_le _, Nat.zero_le _⟩ (fun H locs hI hS => ?_)
        refine lv_aload_n hx hb dX6_copyFrom_106 rfl (lv_at hl 1 rfl) ?_
        obtain ⟨a6947, a6949, a6951, a6953, a6955, a6957, a6959, a6961, a6963, a6965, w6967, w6970, w6971, w6972, hO, hq6948, hq6950, hq6952, hq6954, hq6956, hq6958, hq6960, hq6962, hq6964, hq6966, ⟨k6968, k6969⟩, k6973⟩ := op_6 hI hG0 List.not_mem_nil
        have hI := th_I.weak (a := h0) hI
        refine th_get hx hb hts inT6 hown hK hO rfl 6 (by decide) (hts _ (tb_c wd_72)) rfl rfl dX6_copyFrom_107 ?_
        refine lv_aload_n hx hb dX6_copyFrom_110 rfl (lv_at hl 2 rfl) ?_
        have hI := th_I.close hI hG0 hO (ok_6 hq6948 hq6950 hq6952 hq6954 hq6956 hq6958 hq6960 hq6962 hq6964 hq6966 ⟨by omega, by omega⟩ k6973)
        obtain ⟨a6974, a6976, a6978, a6980, a6982, a6984, a6986, a6988, a6990, a6992, w6994, w6997, w6998, w6999, hO, hq6975, hq6977, hq6979, hq6981, hq6983, hq6985, hq6987, hq6989, hq6991, hq6993, ⟨k6995, k6996⟩, k7000⟩ := op_6 hI hp1 List.not_mem_nil
        have hI := th_I.weak (a := p1) hI
        refine th_get hx hb hts inT6 hown hK hO rfl 6 (by decide) (hts _ (tb_c wd_72)) rfl rfl dX6_copyFrom_111 ?_
        have hI := th_I.close hI hp1 hO (ok_6 hq6975 hq6977 hq6979 hq6981 hq6983 hq6985 hq6987 hq6989 hq6991 hq6993 ⟨by omega, by omega⟩ k7000)
        refine th_cVv (As := [.ref a6986]) (rest := []) (n := 1) (d := 1) ⟨hx, hb, hml, hown, hts⟩ (c_X4_copyFrom l E D G a6959 10 hq6960 a6986 hq6987) wd_1207 wd_1208 wd_1209 wd_3 wd_1210 (by decide +kernel) ⟨by rw [hR]; exact Nat.le_of_ble_eq_true rfl, by rw [hR]; exact Nat.le_of_ble_eq_true rfl⟩ hI hN hK hS (rc_4 hI hq6960 List.not_mem_nil) rfl rfl hl.1 rfl (Nat.le_of_ble_eq_true rfl) dX6_copyFrom_114 ⟨Nat.zero_le _, Nat.zero_le _⟩ (fun H locs hI hS => ?_)
        refine lv_aload_n hx hb dX6_copyFrom_117 rfl (lv_at hl 1 rfl) ?_
        obtain ⟨a7002, a7004, a7006, a7008, a7010, a7012, a7014, a7016, a7018, a7020, w7022, w7025, w7026, w7027, hO, hq7003, hq7005, hq7007, hq7009, hq7011, hq7013, hq7015, hq7017, hq7019, hq7021, ⟨k7023, k7024⟩, k7028⟩ := op_6 hI hG0 List.not_mem_nil
        have hI := th_I.weak (a := h0) hI
        refine th_get hx hb hts inT6 hown hK hO rfl 7 (by decide) (hts _ (tb_c wd_75)) rfl rfl dX6_copyFrom_118 ?_
        refine lv_aload_n hx hb dX6_copyFrom_121 rfl (lv_at hl 2 rfl) ?_
        have hI := th_I.close hI hG0 hO (ok_6 hq7003 hq7005 hq7007 hq7009 hq7011 hq7013 hq7015 hq7017 hq7019 hq7021 ⟨by omega, by omega⟩ k7028)
        obtain ⟨a7029, a7031, a7033, a7035, a7037, a7039, a7041, a7043, a7045, a7047, w7049, w7052, w7053, w7054, hO, hq7030, hq7032, hq7034, hq7036, hq7038, hq7040, hq7042, hq7044, hq7046, hq7048, ⟨k7050, k7051⟩, k7055⟩ := op_6 hI hp1 List.not_mem_nil
        have hI := th_I.weak (a := p1) hI
        refine th_get hx hb hts inT6 hown hK hO rfl 7 (by decide) (hts _ (tb_c wd_75)) rfl rfl dX6_copyFrom_122 ?_
        have hI := th_I.close hI hp1 hO (ok_6 hq7030 hq7032 hq7034 hq7036 hq7038 hq7040 hq7042 hq7044 hq7046 hq7048 ⟨by omega, by omega⟩ k7055)
        refine th_cVv (As := [.ref a7043]) (rest := []) (n := 1) (d := 1) ⟨hx, hb, hml, hown, hts⟩ (c_X4_copyFrom l E D G a7016 6 hq7017 a7043 hq7044) wd_1207 wd_1208 wd_1209 wd_3 wd_1210 (by decide +kernel) ⟨by rw [hR]; exact Nat.le_of_ble_eq_true rfl, by rw [hR]; exact Nat.le_of_ble_eq_true rfl⟩ hI hN hK hS (rc_4 hI hq7017 List.not_mem_nil) rfl rfl hl.1 rfl (Nat.le_of_ble_eq_true rfl) dX6_copyFrom_125 ⟨Nat.zero_le _, Nat.zero_le _⟩ (fun H locs hI hS => ?_)
        refine lv_aload_n hx hb dX6_copyFrom_128 rfl (lv_at hl 1 rfl) ?_
        obtain ⟨a7057, a7059, a7061, a7063, a7065, a7067, a7069, a7071, a7073, a7075, w7077, w7080, w7081, w7082, hO, hq7058, hq7060, hq7062, hq7064, hq7066, hq7068, hq7070, hq7072, hq7074, hq7076, ⟨k7078, k7079⟩, k7083⟩ := op_6 hI hG0 List.not_mem_nil
        have hI := th_I.weak (a := h0) hI
        refine th_get hx hb hts inT6 hown hK hO rfl 8 (by decide) (hts _ (tb_c wd_78)) rfl rfl dX6_copyFrom_129 ?_
        refine lv_aload_n hx hb dX6_copyFrom_132 rfl (lv_at hl 2 rfl) ?_
        have hI := th_I.close hI hG0 hO (ok_6 hq7058 hq7060 hq7062 hq7064 hq7066 hq7068 hq7070 hq7072 hq7074 hq7076 ⟨by omega, by omega⟩ k7083)
        obtain ⟨a7084, a7086, a7088, a7090, a7092, a7094, a7096, a7098, a7100, a7102, w7104, w7107, w7108, w7109, hO, hq7085, hq7087, hq7089, hq7091, hq7093, hq7095, hq7097, hq7099, hq7101, hq7103, ⟨k7105, k7106⟩, k7110⟩ := op_6 hI hp1 List.not_mem_nil
        have hI := th_I.weak (a := p1) hI
        refine th_get hx hb hts inT6 hown hK hO rfl 8 (by decide) (hts _ (tb_c wd_78)) rfl rfl dX6_copyFrom_133 ?_
        have hI := th_I.close hI hp1 hO (ok_6 hq7085 hq7087 hq7089 hq7091 hq7093 hq7095 hq7097 hq7099 hq7101 hq7103 ⟨by omega, by omega⟩ k7110)
        refine th_cVv (As := [.ref a7100]) (rest := []) (n := 1) (d := 1) ⟨hx, hb, hml, hown, hts⟩ (c_X4_copyFrom l E D G a7073 6 hq7074 a7100 hq7101) wd_1207 wd_1208 wd_1209 wd_3 wd_1210 (by decide +kernel) ⟨by rw [hR]; exact Nat.le_of_ble_eq_true rfl, by rw [hR]; exact Nat.le_of_ble_eq_true rfl⟩ hI hN hK hS (rc_4 hI hq7074 List.not_mem_nil) rfl rfl hl.1 rfl (Nat.le_of_ble_eq_true rfl) dX6_copyFrom_136 ⟨Nat.zero_le _, Nat.zero_le _⟩ (fun H locs hI hS => ?_)
        refine lv_aload_n hx hb dX6_copyFrom_139 rfl (lv_at hl 1 rfl) ?_
        refine lv_aload_n hx hb dX6_copyFrom_140 rfl (lv_at hl 2 rfl) ?_
        obtain ⟨a7112, a7114, a7116, a7118, a7120, a7122, a7124, a7126, a7128, a7130, w7132, w7135, w7136, w7137, hO, hq7113, hq7115, hq7117, hq7119, hq7121, hq7123, hq7125, hq7127, hq7129, hq7131, ⟨k7133, k7134⟩, k7138⟩ := op_6 hI hp1 List.not_mem_nil
        have hI := th_I.weak (a := p1) hI
        refine th_get hx hb hts inT6 hown hK hO rfl 10 (by decide) (hts _ (tb_c wd_82)) rfl rfl dX6_copyFrom_141 ?_
        have k7139 := eaW_out k7138
        have hI := th_I.close hI hp1 hO (ok_6 hq7113 hq7115 hq7117 hq7119 hq7121 hq7123 hq7125 hq7127 hq7129 hq7131 ⟨by omega, by omega⟩ k7138)
        obtain ⟨a7140, a7142, a7144, a7146, a7148, a7150, a7152, a7154, a7156, a7158, w7160, w7163, w7164, w7165, hO, hq7141, hq7143, hq7145, hq7147, hq7149, hq7151, hq7153, hq7155, hq7157, hq7159, ⟨k7161, k7162⟩, k7166⟩ := op_6 hI hG0 List.not_mem_nil
        have hI := th_I.weak (a := h0) hI
        have k7167 := eaW_out k7166
        refine th_put (ty := .int) hx hb hts inT6 tyX6 tyX6_ok nmX6 hown hK hO hS ⟨_, hG0⟩ rfl 10 (by decide) (hts _ (tb_c wd_82)) rfl rfl (by decide +kernel) rfl rfl (Nat.le_of_ble_eq_true rfl) dX6_copyFrom_144 (fun H locs hO oq hS => ?_)
        have hI := th_I.moved hI oq
        have hO : va_at D vwCl (h0, .inr (6, [.ref a7140, .ref a7142, .ref a7144, .ref a7146, .ref a7148, .ref a7150, .ref a7152, .ref a7154, .ref a7156, .ref a7158, .int w7132, .int w7163, .int w7164, .int w7165])) H := hO
        obtain ⟨Eu7168, hEu7168⟩ : ∃ x : Nat → Nat, x = eu E (1000 + 512 * h0) (8 * (w7132.toInt).toNat + (w7163.toInt + 1).toNat) := ⟨_, rfl⟩
        have hI : th_I (okC Eu7168) D G [] H := by rw [hEu7168]; exact ea_close hI hG0 hO ⟨by omega, by omega⟩ (ok_6 hq7141 hq7143 hq7145 hq7147 hq7149 hq7151 hq7153 hq7155 hq7157 hq7159 ⟨by omega, by omega⟩ (show eaW _ _ _ from ⟨by rw [eu_at]; omega, by rw [eu_at]; omega⟩))
        have hK : va_K D vwCl (th_tys Eu7168) s := by rw [hEu7168, tys_eu (by omega)]; exact hK
        have zEu7168 : Eu7168 (1000 + 512 * h0) = (8 * (w7132.toInt).toNat + (w7163.toInt + 1).toNat) := by rw [hEu7168]; exact eu_at
        have k7169 : Eu7168 (1000 + 512 * p1) = E (1000 + 512 * p1) := by rw [hEu7168, eu_ne (by omega)]
        refine lv_aload_n hx hb dX6_copyFrom_147 rfl (lv_at hl 1 rfl) ?_
        refine lv_aload_n hx hb dX6_copyFrom_148 rfl (lv_at hl 2 rfl) ?_
        obtain ⟨a7170, a7172, a7174, a7176, a7178, a7180, a7182, a7184, a7186, a7188, w7190, w7193, w7194, w7195, hO, hq7171, hq7173, hq7175, hq7177, hq7179, hq7181, hq7183, hq7185, hq7187, hq7189, ⟨k7191, k7192⟩, k7196⟩ := op_6 hI hp1 List.not_mem_nil
        have hI := th_I.weak (a := p1) hI
        refine th_get hx hb hts inT6 hown hK hO rfl 11 (by decide) (hts _ (tb_c wd_84)) rfl rfl dX6_copyFrom_149 ?_
        have k7197 := eaW_out k7196
        have hI := th_I.close hI hp1 hO (ok_6 hq7171 hq7173 hq7175 hq7177 hq7179 hq7181 hq7183 hq7185 hq7187 hq7189 ⟨by omega, by omega⟩ k7196)
        obtain ⟨a7198, a7200, a7202, a7204, a7206, a7208, a7210, a7212, a7214, a7216, w7218, w7221, w7222, w7223, hO, hq7199, hq7201, hq7203, hq7205, hq7207, hq7209, hq7211, hq7213, hq7215, hq7217, ⟨k7219, k7220⟩, k7224⟩ := op_6 hI hG0 List.not_mem_nil
        have hI := th_I.weak (a := h0) hI
        have k7225 := eaW_out k7224
        refine th_put (ty := .int) hx hb hts inT6 tyX6 tyX6_ok nmX6 hown hK hO hS ⟨_, hG0⟩ rfl 11 (by decide) (hts _ (tb_c wd_84)) rfl rfl (by decide +kernel) rfl rfl (Nat.le_of_ble_eq_true rfl) dX6_copyFrom_152 (fun H locs hO oq hS => ?_)
        have hI := th_I.moved hI oq
        have hO : va_at D vwCl (h0, .inr (6, [.ref a7198, .ref a7200, .ref a7202, .ref a7204, .ref a7206, .ref a7208, .ref a7210, .ref a7212, .ref a7214, .ref a7216, .int w7218, .int w7193, .int w7222, .int w7223])) H := hO
        obtain ⟨Eu7226, hEu7226⟩ : ∃ x : Nat → Nat, x = eu Eu7168 (1000 + 512 * h0) (8 * (w7218.toInt).toNat + (w7193.toInt + 1).toNat) := ⟨_, rfl⟩
        have hI : th_I (okC Eu7226) D G [] H := by rw [hEu7226]; exact ea_close hI hG0 hO ⟨by omega, by omega⟩ (ok_6 hq7199 hq7201 hq7203 hq7205 hq7207 hq7209 hq7211 hq7213 hq7215 hq7217 ⟨by omega, by omega⟩ (show eaW _ _ _ from ⟨by rw [eu_at]; omega, by rw [eu_at]; omega⟩))
        have hK : va_K D vwCl (th_tys Eu7226) s := by rw [hEu7226, tys_eu (by omega)]; exact hK
        have zEu7226 : Eu7226 (1000 + 512 * h0) = (8 * (w7218.toInt).toNat + (w7193.toInt + 1).toNat) := by rw [hEu7226]; exact eu_at
        rw [hEu7168, eu_eu] at hEu7226
        have k7227 : Eu7226 (1000 + 512 * p1) = E (1000 + 512 * p1) := by rw [hEu7226, eu_ne (by omega)]
        refine lv_aload_n hx hb dX6_copyFrom_155 rfl (lv_at hl 1 rfl) ?_
        refine lv_aload_n hx hb dX6_copyFrom_156 rfl (lv_at hl 2 rfl) ?_
        obtain ⟨a7228, a7230, a7232, a7234, a7236, a7238, a7240, a7242, a7244, a7246, w7248, w7251, w7252, w7253, hO, hq7229, hq7231, hq7233, hq7235, hq7237, hq7239, hq7241, hq7243, hq7245, hq7247, ⟨k7249, k7250⟩, k7254⟩ := op_6 hI hp1 List.not_mem_nil
        have hI := th_I.weak (a := p1) hI
        refine th_get hx hb hts inT6 hown hK hO rfl 12 (by decide) (hts _ (tb_c wd_86)) rfl rfl dX6_copyFrom_157 ?_
        have hI := th_I.close hI hp1 hO (ok_6 hq7229 hq7231 hq7233 hq7235 hq7237 hq7239 hq7241 hq7243 hq7245 hq7247 ⟨by omega, by omega⟩ k7254)
        obtain ⟨a7255, a7257, a7259, a7261, a7263, a7265, a7267, a7269, a7271, a7273, w7275, w7278, w7279, w7280, hO, hq7256, hq7258, hq7260, hq7262, hq7264, hq7266, hq7268, hq7270, hq7272, hq7274, ⟨k7276, k7277⟩, k7281⟩ := op_6 hI hG0 List.not_mem_nil
        have hI := th_I.weak (a := h0) hI
        refine th_put (ty := .int) hx hb hts inT6 tyX6 tyX6_ok nmX6 hown hK hO hS ⟨_, hG0⟩ rfl 12 (by decide) (hts _ (tb_c wd_86)) rfl rfl (by decide +kernel) rfl rfl (Nat.le_of_ble_eq_true rfl) dX6_copyFrom_160 (fun H locs hO oq hS => ?_)
        have hI := th_I.moved hI oq
        have hO : va_at D vwCl (h0, .inr (6, [.ref a7255, .ref a7257, .ref a7259, .ref a7261, .ref a7263, .ref a7265, .ref a7267, .ref a7269, .ref a7271, .ref a7273, .int w7275, .int w7278, .int w7252, .int w7280])) H := hO
        refine lv_aload_n hx hb dX6_copyFrom_163 rfl (lv_at hl 1 rfl) ?_
        refine lv_aload_n hx hb dX6_copyFrom_164 rfl (lv_at hl 2 rfl) ?_
        have hI := th_I.close hI hG0 hO (ok_6 hq7256 hq7258 hq7260 hq7262 hq7264 hq7266 hq7268 hq7270 hq7272 hq7274 ⟨by omega, by omega⟩ k7281)
        obtain ⟨a7282, a7284, a7286, a7288, a7290, a7292, a7294, a7296, a7298, a7300, w7302, w7305, w7306, w7307, hO, hq7283, hq7285, hq7287, hq7289, hq7291, hq7293, hq7295, hq7297, hq7299, hq7301, ⟨k7303, k7304⟩, k7308⟩ := op_6 hI hp1 List.not_mem_nil
        have hI := th_I.weak (a := p1) hI
        refine th_get hx hb hts inT6 hown hK hO rfl 13 (by decide) (hts _ (tb_c wd_90)) rfl rfl dX6_copyFrom_165 ?_
        have hI := th_I.close hI hp1 hO (ok_6 hq7283 hq7285 hq7287 hq7289 hq7291 hq7293 hq7295 hq7297 hq7299 hq7301 ⟨by omega, by omega⟩ k7308)
        obtain ⟨a7309, a7311, a7313, a7315, a7317, a7319, a7321, a7323, a7325, a7327, w7329, w7332, w7333, w7334, hO, hq7310, hq7312, hq7314, hq7316, hq7318, hq7320, hq7322, hq7324, hq7326, hq7328, ⟨k7330, k7331⟩, k7335⟩ := op_6 hI hG0 List.not_mem_nil
        have hI := th_I.weak (a := h0) hI
        refine th_put (ty := .int) hx hb hts inT6 tyX6 tyX6_ok nmX6 hown hK hO hS ⟨_, hG0⟩ rfl 13 (by decide) (hts _ (tb_c wd_90)) rfl rfl (by decide +kernel) rfl rfl (Nat.le_of_ble_eq_true rfl) dX6_copyFrom_168 (fun H locs hO oq hS => ?_)
        have hI := th_I.moved hI oq
        have hO : va_at D vwCl (h0, .inr (6, [.ref a7309, .ref a7311, .ref a7313, .ref a7315, .ref a7317, .ref a7319, .ref a7321, .ref a7323, .ref a7325, .ref a7327, .int w7329, .int w7332, .int w7333, .int w7307])) H := hO
        have hI := th_I.close hI hG0 hO (ok_6 hq7310 hq7312 hq7314 hq7316 hq7318 hq7320 hq7322 hq7324 hq7326 hq7328 ⟨by omega, by omega⟩ k7335)
        have hEt : eu E (1000 + 512 * h0) (E (1000 + 512 * p1)) = Eu7226 := (congrArg (fun z => eu E (1000 + 512 * h0) z) (show E (1000 + 512 * p1) = _ from by omega)).trans hEu7226.symm
        rw [← hEt] at hI hK
        rw [hQ]
        exact W.vret hx hb hr (fun t ht hW => ⟨⟨(), rfl, trivial, by rw [ht]; exact hI, hN.warm hW, va_K.moved hW.alike hK⟩, hS.F ht⟩) hS.2.2 dX6_copyFrom_171
      · skip
        have k7336 := iv_nle (X := (6)) (Y := v6723.toInt) (by decide) rfl c6725
        refine lv_aload_n hx hb dX6_copyFrom_44 rfl (lv_at hl 1 rfl) ?_
        obtain ⟨a7337, a7339, a7341, a7343, a7345, a7347, a7349, a7351, a7353, a7355, w7357, w7360, w7361, w7362, hO, hq7338, hq7340, hq7342, hq7344, hq7346, hq7348, hq7350, hq7352, hq7354, hq7356, ⟨k7358, k7359⟩, k7363⟩ := op_6 hI hG0 List.not_mem_nil
        have hI := th_I.weak (a := h0) hI
        refine th_get hx hb hts inT6 hown hK hO rfl 9 (by decide) (hts _ (tb_c wd_81)) rfl rfl dX6_copyFrom_45 ?_
        refine lv_iload_n hx hb dX6_copyFrom_48 rfl (lv_at hl 0 rfl) ?_
        refine lv_aload_n hx hb dX6_copyFrom_49 rfl (lv_at hl 2 rfl) ?_
        have hI := th_I.close hI hG0 hO (ok_6 hq7338 hq7340 hq7342 hq7344 hq7346 hq7348 hq7350 hq7352 hq7354 hq7356 ⟨by omega, by omega⟩ k7363)
        obtain ⟨a7364, a7366, a7368, a7370, a7372, a7374, a7376, a7378, a7380, a7382, w7384, w7387, w7388, w7389, hO, hq7365, hq7367, hq7369, hq7371, hq7373, hq7375, hq7377, hq7379, hq7381, hq7383, ⟨k7385, k7386⟩, k7390⟩ := op_6 hI hp1 List.not_mem_nil
        have hI := th_I.weak (a := p1) hI
        refine th_get hx hb hts inT6 hown hK hO rfl 9 (by decide) (hts _ (tb_c wd_81)) rfl rfl dX6_copyFrom_50 ?_
        refine lv_iload_n hx hb dX6_copyFrom_53 rfl (lv_at hl 0 rfl) ?_
        obtain ⟨g7392, hA7391, hg7393⟩ := op_2 hI hq7383 (th_ne hp1 hq7383 (show (6 : Nat) ≠ 2 by decide))
        refine va_aldq hx hb hK (th_one hA7391) 0 4 rfl rfl (iv_in (X := v6723.toInt) rfl (by omega) (by omega)) dX6_copyFrom_54 ?_
        obtain ⟨r7394, e7395⟩ : ∃ r, r = g7392 v6723.toNatClampNeg := ⟨_, rfl⟩
        rw [← e7395]
        obtain _ | a7396 := r7394
        · skip
          obtain ⟨_, hA7399, hg7400⟩ := op_2 hI hq7356 (th_ne hp1 hq7356 (show (6 : Nat) ≠ 2 by decide))
          refine th_aastN hx hb hK hA7399 4 rfl hS ⟨_, hq7356⟩ (iv_in (X := v6723.toInt) rfl (by omega) (by omega)) dX6_copyFrom_55 (fun H locs hA7399 oq hS => ?_)
          have hI := th_I.put hI hq7356 hA7399 (ok_2 (th_upN hg7400)) oq
          have hO := hO.kept (oq _ (fun z => th_ne hp1 hq7356 (show (6 : Nat) ≠ 2 by decide) (List.mem_singleton.mpr z.symm)))
          obtain ⟨v7401, e7402⟩ : ∃ y : Int32, y = v6723 + (1) := ⟨_, rfl⟩
          have tv7401 : v7401.toInt = v6723.toInt + (1) := iv_add rfl (by decide) e7402 (by omega) (by omega)
          refine lv_iinc (v := v7401) (lv' := [(2, .int v7401), (0, .ref h0), (1, .ref p1)]) hx hb dX6_copyFrom_56 hl (k := 0) rfl (by rw [e7402]; rfl) (by decide) rfl (fun ls hl => ?_)
          refine lv_goto (tgt := 38) hx hb dX6_copyFrom_59 (by decide) ?_
          have hI := th_I.close hI hp1 hO (ok_6 hq7365 hq7367 hq7369 hq7371 hq7373 hq7375 hq7377 hq7379 hq7381 hq7383 ⟨by omega, by omega⟩ k7390)
          exact ih_38 _ (by omega) H locs ls v7401 rfl (lv_sub hl [0, 1, 2] rfl) ⟨by omega, by omega⟩ hI hS
        · skip
          obtain ⟨m7398, hq7397⟩ := hg7393 _ _ (th_cl (X := v6723.toInt) rfl (by omega) (by omega)) e7395.symm
          obtain ⟨_, hA7403, hg7404⟩ := op_2 hI hq7356 (th_ne hp1 hq7356 (show (6 : Nat) ≠ 2 by decide))
          obtain ⟨_, hV7405⟩ := rc_5 hI hq7397 (th_ne hp1 hq7397 (show (6 : Nat) ≠ 5 by decide))
          refine th_aast hx hb hK hA7403 4 rfl hV7405 rfl hS ⟨_, hq7356⟩ (iv_in (X := v6723.toInt) rfl (by omega) (by omega)) dX6_copyFrom_55 (fun H locs hA7403 oq hS => ?_)
          have hI := th_I.put hI hq7356 hA7403 (ok_2 (th_upSL hg7404 hq7397)) oq
          have hO := hO.kept (oq _ (fun z => th_ne hp1 hq7356 (show (6 : Nat) ≠ 2 by decide) (List.mem_singleton.mpr z.symm)))
          obtain ⟨v7406, e7407⟩ : ∃ y : Int32, y = v6723 + (1) := ⟨_, rfl⟩
          have tv7406 : v7406.toInt = v6723.toInt + (1) := iv_add rfl (by decide) e7407 (by omega) (by omega)
          refine lv_iinc (v := v7406) (lv' := [(2, .int v7406), (0, .ref h0), (1, .ref p1)]) hx hb dX6_copyFrom_56 hl (k := 0) rfl (by rw [e7407]; rfl) (by decide) rfl (fun ls hl => ?_)
          refine lv_goto (tgt := 38) hx hb dX6_copyFrom_59 (by decide) ?_
          have hI := th_I.close hI hp1 hO (ok_6 hq7365 hq7367 hq7369 hq7371 hq7373 hq7375 hq7377 hq7379 hq7381 hq7383 ⟨by omega, by omega⟩ k7390)
          exact ih_38 _ (by omega) H locs ls v7406 rfl (lv_sub hl [0, 1, 2] rfl) ⟨by omega, by omega⟩ hI hS
  refine lv_aload_n hx hb dX6_copyFrom_0 rfl (lv_at hl 1 rfl) ?_
  obtain ⟨a7408, a7410, a7412, a7414, a7416, a7418, a7420, a7422, a7424, a7426, w7428, w7431, w7432, w7433, hO, hq7409, hq7411, hq7413, hq7415, hq7417, hq7419, hq7421, hq7423, hq7425, hq7427, ⟨k7429, k7430⟩, k7434⟩ := op_6 hI hp1 List.not_mem_nil
  have hI := th_I.weak (a := p1) hI
  refine th_get hx hb hts inT6 hown hK hO rfl 0 (by decide) (hts _ (tb_c wd_58)) rfl rfl dX6_copyFrom_1 ?_
  refine lv_iconst (v := 0) hx hb dX6_copyFrom_4 (by decide) ?_
  refine lv_aload_n hx hb dX6_copyFrom_5 rfl (lv_at hl 0 rfl) ?_
  have hI := th_I.close hI hp1 hO (ok_6 hq7409 hq7411 hq7413 hq7415 hq7417 hq7419 hq7421 hq7423 hq7425 hq7427 ⟨by omega, by omega⟩ k7434)
  obtain ⟨a7435, a7437, a7439, a7441, a7443, a7445, a7447, a7449, a7451, a7453, w7455, w7458, w7459, w7460, hO, hq7436, hq7438, hq7440, hq7442, hq7444, hq7446, hq7448, hq7450, hq7452, hq7454, ⟨k7456, k7457⟩, k7461⟩ := op_6 hI hG0 List.not_mem_nil
  have hI := th_I.weak (a := h0) hI
  refine th_get hx hb hts inT6 hown hK hO rfl 0 (by decide) (hts _ (tb_c wd_58)) rfl rfl dX6_copyFrom_6 ?_
  refine lv_iconst (v := 0) hx hb dX6_copyFrom_9 (by decide) ?_
  refine lv_aload_n hx hb dX6_copyFrom_10 rfl (lv_at hl 0 rfl) ?_
  refine th_get hx hb hts inT6 hown hK hO rfl 0 (by decide) (hts _ (tb_c wd_58)) rfl rfl dX6_copyFrom_11 ?_
  obtain ⟨_, hA7462⟩ := op_0 hI hq7436 (th_ne hG0 hq7436 (show (6 : Nat) ≠ 0 by decide))
  refine va_alen hx hb hK (th_one hA7462) 0 0 rfl (v := 10) rfl (show Int32.ofNat 10 = (10 : Int32) from by decide) dX6_copyFrom_14 ?_
  obtain ⟨_, hA7463⟩ := op_0 hI hq7409 (th_ne hG0 hq7409 (show (6 : Nat) ≠ 0 by decide))
  obtain ⟨_, hA7464⟩ := op_0 hI hq7436 (th_ne hG0 hq7436 (show (6 : Nat) ≠ 0 by decide))
  have k7465 : (10 : Int32).toInt = 10 := by decide
  have k7466 : (0 : Int32).toInt = 0 := by decide
  have k7467 : (0 : Int32).toInt = 0 := by decide
  refine th_copyi hx hb (hml.trans hl.1.symm) hown (hts _ (tb_c wd_1206)) (hts _ (tb_c wd_505)) (hts _ (tb_c wd_504)) (hts _ (tb_c wd_14)) hK hA7463 hA7464 0 rfl hS ⟨_, hq7436⟩ (fun z => by have := iv_lt (X := (0)) (Y := 0) (by decide) (by decide) z; omega) (fun z => by have := iv_lt (X := (0)) (Y := 0) (by decide) (by decide) z; omega) (fun z => by have := iv_lt (X := (10)) (Y := 0) (by decide) (by decide) z; omega) (by omega) (by omega) (by rw [hR]; exact Nat.le_of_ble_eq_true rfl) (by rw [hR]; exact Nat.le_of_ble_eq_true rfl) dX6_copyFrom_15 (fun H locs _ hA7464 oq hS => ?_)
  have hI := th_I.put hI hq7436 hA7464 ok_0 oq
  have hO := hO.kept (oq _ (fun z => th_ne hG0 hq7436 (show (6 : Nat) ≠ 0 by decide) (List.mem_singleton.mpr z.symm)))
  refine lv_aload_n hx hb dX6_copyFrom_18 rfl (lv_at hl 1 rfl) ?_
  have hI := th_I.close hI hG0 hO (ok_6 hq7436 hq7438 hq7440 hq7442 hq7444 hq7446 hq7448 hq7450 hq7452 hq7454 ⟨by omega, by omega⟩ k7461)
  obtain ⟨a7468, a7470, a7472, a7474, a7476, a7478, a7480, a7482, a7484, a7486, w7488, w7491, w7492, w7493, hO, hq7469, hq7471, hq7473, hq7475, hq7477, hq7479, hq7481, hq7483, hq7485, hq7487, ⟨k7489, k7490⟩, k7494⟩ := op_6 hI hp1 List.not_mem_nil
  have hI := th_I.weak (a := p1) hI
  refine th_get hx hb hts inT6 hown hK hO rfl 1 (by decide) (hts _ (tb_c wd_59)) rfl rfl dX6_copyFrom_19 ?_
  refine lv_iconst (v := 0) hx hb dX6_copyFrom_22 (by decide) ?_
  refine lv_aload_n hx hb dX6_copyFrom_23 rfl (lv_at hl 0 rfl) ?_
  have hI := th_I.close hI hp1 hO (ok_6 hq7469 hq7471 hq7473 hq7475 hq7477 hq7479 hq7481 hq7483 hq7485 hq7487 ⟨by omega, by omega⟩ k7494)
  obtain ⟨a7495, a7497, a7499, a7501, a7503, a7505, a7507, a7509, a7511, a7513, w7515, w7518, w7519, w7520, hO, hq7496, hq7498, hq7500, hq7502, hq7504, hq7506, hq7508, hq7510, hq7512, hq7514, ⟨k7516, k7517⟩, k7521⟩ := op_6 hI hG0 List.not_mem_nil
  have hI := th_I.weak (a := h0) hI
  refine th_get hx hb hts inT6 hown hK hO rfl 1 (by decide) (hts _ (tb_c wd_59)) rfl rfl dX6_copyFrom_24 ?_
  refine lv_iconst (v := 0) hx hb dX6_copyFrom_27 (by decide) ?_
  refine lv_aload_n hx hb dX6_copyFrom_28 rfl (lv_at hl 0 rfl) ?_
  refine th_get hx hb hts inT6 hown hK hO rfl 1 (by decide) (hts _ (tb_c wd_59)) rfl rfl dX6_copyFrom_29 ?_
  obtain ⟨_, hA7522⟩ := op_0 hI hq7498 (th_ne hG0 hq7498 (show (6 : Nat) ≠ 0 by decide))
  refine va_alen hx hb hK (th_one hA7522) 0 0 rfl (v := 96) rfl (show Int32.ofNat 96 = (96 : Int32) from by decide) dX6_copyFrom_32 ?_
  obtain ⟨_, hA7523⟩ := op_0 hI hq7471 (th_ne hG0 hq7471 (show (6 : Nat) ≠ 0 by decide))
  obtain ⟨_, hA7524⟩ := op_0 hI hq7498 (th_ne hG0 hq7498 (show (6 : Nat) ≠ 0 by decide))
  have k7525 : (96 : Int32).toInt = 96 := by decide
  have k7526 : (0 : Int32).toInt = 0 := by decide
  have k7527 : (0 : Int32).toInt = 0 := by decide
  refine th_copyi hx hb (hml.trans hl.1.symm) hown (hts _ (tb_c wd_1206)) (hts _ (tb_c wd_505)) (hts _ (tb_c wd_504)) (hts _ (tb_c wd_14)) hK hA7523 hA7524 0 rfl hS ⟨_, hq7498⟩ (fun z => by have := iv_lt (X := (0)) (Y := 0) (by decide) (by decide) z; omega) (fun z => by have := iv_lt (X := (0)) (Y := 0) (by decide) (by decide) z; omega) (fun z => by have := iv_lt (X := (96)) (Y := 0) (by decide) (by decide) z; omega) (by omega) (by omega) (by rw [hR]; exact Nat.le_of_ble_eq_true rfl) (by rw [hR]; exact Nat.le_of_ble_eq_true rfl) dX6_copyFrom_33 (fun H locs _ hA7524 oq hS => ?_)
  have hI := th_I.put hI hq7498 hA7524 ok_0 oq
  have hO := hO.kept (oq _ (fun z => th_ne hG0 hq7498 (show (6 : Nat) ≠ 0 by decide) (List.mem_singleton.mpr z.symm)))
  refine lv_iconst (v := 0) hx hb dX6_copyFrom_36 (by decide) ?_
  refine lv_istore_n (lv' := [(2, .int 0), (0, .ref h0), (1, .ref p1)]) hx hb dX6_copyFrom_37 rfl hl (by decide) rfl (fun ls hl => ?_)
  have hI := th_I.close hI hG0 hO (ok_6 hq7496 hq7498 hq7500 hq7502 hq7504 hq7506 hq7508 hq7510 hq7512 hq7514 ⟨by omega, by omega⟩ k7521)
  have zl : (0 : Int32).toInt = 0 := by decide
  exact J_38 _ H locs ls 0 rfl (lv_sub hl [0, 1, 2] rfl) ⟨by decide, by decide⟩ hI hS
