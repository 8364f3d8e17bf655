theorem wd_1206 : (Cond.methodLink RX6 (64 : Nat) arraycopyName) ∈ TB := tw 1206 (by decide +kernel) (by decide +kernel)
theorem wd_1207 : (Cond.methodLink RX6 (70 : Nat) yX4_copyFrom) ∈ TB := tw 1207 (by decide +kernel) (by decide +kernel)
theorem wd_1208 : (Jvm.Cond.instanceMethod yX4_copyFrom) ∈ TB := tw 1208 (by decide +kernel) (by decide +kernel)
theorem wd_1209 : (Cond.selects RX4 yX4_copyFrom yX4_copyFrom) ∈ TB := tw 1209 (by decide +kernel) (by decide +kernel)
theorem wd_1210 : (Cond.code yX4_copyFrom cX4_copyFrom 2 (Option.none : Option Jvm.ClassFile.FieldType)) ∈ TB := tw 1210 (by decide +kernel) (by decide +kernel)
theorem wd_60 : (Cond.fieldLink RX6 (23 : Nat) "NineRiver$State" "gates" "LNineRiver$Rows;") ∈ TB := tw 60 (by decide +kernel) (by decide +kernel)
theorem wd_63 : (Cond.fieldLink RX6 (27 : Nat) "NineRiver$State" "mills" "LNineRiver$Rows;") ∈ TB := tw 63 (by decide +kernel) (by decide +kernel)
theorem wd_66 : (Cond.fieldLink RX6 (30 : Nat) "NineRiver$State" "boats" "LNineRiver$Rows;") ∈ TB := tw 66 (by decide +kernel) (by decide +kernel)
theorem wd_69 : (Cond.fieldLink RX6 (33 : Nat) "NineRiver$State" "pours" "LNineRiver$Rows;") ∈ TB := tw 69 (by decide +kernel) (by decide +kernel)
theorem wd_72 : (Cond.fieldLink RX6 (36 : Nat) "NineRiver$State" "sights" "LNineRiver$Rows;") ∈ TB := tw 72 (by decide +kernel) (by decide +kernel)
theorem wd_75 : (Cond.fieldLink RX6 (39 : Nat) "NineRiver$State" "jobs" "LNineRiver$Rows;") ∈ TB := tw 75 (by decide +kernel) (by decide +kernel)
theorem wd_78 : (Cond.fieldLink RX6 (42 : Nat) "NineRiver$State" "wishes" "LNineRiver$Rows;") ∈ TB := tw 78 (by decide +kernel) (by decide +kernel)
theorem wd_86 : (Cond.fieldLink RX6 (58 : Nat) "NineRiver$State" "natural" "I") ∈ TB := tw 86 (by decide +kernel) (by decide +kernel)
theorem wd_90 : (Cond.fieldLink RX6 (61 : Nat) "NineRiver$State" "year" "I") ∈ TB := tw 90 (by decide +kernel) (by decide +kernel)
theorem dX4_copyFrom_0g : (decode cX4_copyFrom 0 = .ok (.aload_n 1, 1)) ∧ (decode cX4_copyFrom 1 = .ok (.getfield 9, 3)) ∧ (decode cX4_copyFrom 4 = .ok (.aload_n 0, 1)) ∧ (decode cX4_copyFrom 5 = .ok (.getfield 21, 3)) ∧ (decode cX4_copyFrom 8 = .ok (.if_icmp .gt 30, 3)) ∧ (decode cX4_copyFrom 11 = .ok (.aload_n 1, 1)) ∧ (decode cX4_copyFrom 12 = .ok (.getfield 24, 3)) ∧ (decode cX4_copyFrom 15 = .ok (.iconst 0, 1)) ∧ (decode cX4_copyFrom 16 = .ok (.aload_n 0, 1)) ∧ (decode cX4_copyFrom 17 = .ok (.getfield 24, 3)) := by decide +kernel
theorem dX4_copyFrom_0 : decode cX4_copyFrom 0 = .ok (.aload_n 1, 1) := dX4_copyFrom_0g.1
theorem dX4_copyFrom_1 : decode cX4_copyFrom 1 = .ok (.getfield 9, 3) := dX4_copyFrom_0g.2.1
theorem dX4_copyFrom_4 : decode cX4_copyFrom 4 = .ok (.aload_n 0, 1) := dX4_copyFrom_0g.2.2.1
theorem dX4_copyFrom_5 : decode cX4_copyFrom 5 = .ok (.getfield 21, 3) := dX4_copyFrom_0g.2.2.2.1
theorem dX4_copyFrom_8 : decode cX4_copyFrom 8 = .ok (.if_icmp .gt 30, 3) := dX4_copyFrom_0g.2.2.2.2.1
theorem dX4_copyFrom_11 : decode cX4_copyFrom 11 = .ok (.aload_n 1, 1) := dX4_copyFrom_0g.2.2.2.2.2.1
theorem dX4_copyFrom_12 : decode cX4_copyFrom 12 = .ok (.getfield 24, 3) := dX4_copyFrom_0g.2.2.2.2.2.2.1
theorem dX4_copyFrom_15 : decode cX4_copyFrom 15 = .ok (.iconst 0, 1) := dX4_copyFrom_0g.2.2.2.2.2.2.2.1
theorem dX4_copyFrom_16 : decode cX4_copyFrom 16 = .ok (.aload_n 0, 1) := dX4_copyFrom_0g.2.2.2.2.2.2.2.2.1
theorem dX4_copyFrom_17 : decode cX4_copyFrom 17 = .ok (.getfield 24, 3) := dX4_copyFrom_0g.2.2.2.2.2.2.2.2.2
theorem dX4_copyFrom_20g : (decode cX4_copyFrom 20 = .ok (.iconst 0, 1)) ∧ (decode cX4_copyFrom 21 = .ok (.aload_n 1, 1)) ∧ (decode cX4_copyFrom 22 = .ok (.getfield 9, 3)) ∧ (decode cX4_copyFrom 25 = .ok (.iconst 4, 1)) ∧ (decode cX4_copyFrom 26 = .ok (.imul, 1)) ∧ (decode cX4_copyFrom 27 = .ok (.invokestatic 36, 3)) ∧ (decode cX4_copyFrom 30 = .ok (.aload_n 0, 1)) ∧ (decode cX4_copyFrom 31 = .ok (.aload_n 1, 1)) ∧ (decode cX4_copyFrom 32 = .ok (.getfield 9, 3)) ∧ (decode cX4_copyFrom 35 = .ok (.putfield 9, 3)) := by decide +kernel
theorem dX4_copyFrom_20 : decode cX4_copyFrom 20 = .ok (.iconst 0, 1) := dX4_copyFrom_20g.1
theorem dX4_copyFrom_21 : decode cX4_copyFrom 21 = .ok (.aload_n 1, 1) := dX4_copyFrom_20g.2.1
theorem dX4_copyFrom_22 : decode cX4_copyFrom 22 = .ok (.getfield 9, 3) := dX4_copyFrom_20g.2.2.1
theorem dX4_copyFrom_25 : decode cX4_copyFrom 25 = .ok (.iconst 4, 1) := dX4_copyFrom_20g.2.2.2.1
theorem dX4_copyFrom_26 : decode cX4_copyFrom 26 = .ok (.imul, 1) := dX4_copyFrom_20g.2.2.2.2.1
theorem dX4_copyFrom_27 : decode cX4_copyFrom 27 = .ok (.invokestatic 36, 3) := dX4_copyFrom_20g.2.2.2.2.2.1
theorem dX4_copyFrom_30 : decode cX4_copyFrom 30 = .ok (.aload_n 0, 1) := dX4_copyFrom_20g.2.2.2.2.2.2.1
theorem dX4_copyFrom_31 : decode cX4_copyFrom 31 = .ok (.aload_n 1, 1) := dX4_copyFrom_20g.2.2.2.2.2.2.2.1
theorem dX4_copyFrom_32 : decode cX4_copyFrom 32 = .ok (.getfield 9, 3) := dX4_copyFrom_20g.2.2.2.2.2.2.2.2.1
theorem dX4_copyFrom_35 : decode cX4_copyFrom 35 = .ok (.putfield 9, 3) := dX4_copyFrom_20g.2.2.2.2.2.2.2.2.2
theorem dX4_copyFrom_38 : decode cX4_copyFrom 38 = .ok (.return_, 1) := by decide +kernel
set_option maxHeartbeats 4000000 in
set_option maxRecDepth 100000 in
theorem c_X4_copyFrom (l : Launch) (E : Nat → Nat) (D : va_G) (G : th_G) (h0 n : Nat) (hG0 : G h0 = some (4, n)) (p1 : Nat) (hp1 : G p1 = some (4, n)) : Met l yX4_copyFrom (tb (.code yX4_copyFrom cX4_copyFrom 2 none)) (rm 1) (va_Pc [.ref h0, .ref p1] (th_P E D G)) (QV E D G) 0 0 (th_A G) := by
  refine Met.ofW (cc := cX4_copyFrom) (maxL := 2) (ret := none) (by decide) rfl ?_
  intro p e s m args below meth c s₁ B hml hv
  obtain ⟨hav, hI, hN, hK⟩ := hv
  have hx := B.exec
  have hb := B.bytes
  have hr := B.returns
  have hts := atoms_spec (ws := tb (.code yX4_copyFrom cX4_copyFrom 2 none)) B.pre
  have hown : s.vm.findClass RX4 = some m.cls := findClass_of_methodNamed B.named
  have hlocks := B.notSynchronized
  have hS : va_S (th_A G) s.heap s.heap [] := va_S.rf
  have hl := lv_entry ([.ref h0, .ref p1]) (n := 2) (Nat.le_of_ble_eq_true rfl)
  rw [show entryFrame m args 2 = entryFrame m ([.ref h0, .ref p1] : List Value).toArray 2 from by rw [hav], lg_entry_eq]
  generalize (lg_sl ([.ref h0, .ref p1]) ++ List.replicate (2 - (lg_sl ([.ref h0, .ref p1])).length) Slot.unset).toArray = ls at hl ⊢
  have hl : lv_has ls 2 [(0, .ref h0), (1, .ref p1)] := hl
  generalize hR : (headSpec (tb (.code yX4_copyFrom cX4_copyFrom 2 none)) (rm 1)).room = R
  have hR := hR.symm
  generalize hQ : MQ below (QV E D G) args s 0 0 (th_A G) = QF
  have hQ := hQ.symm
  refine lv_aload_n hx hb dX4_copyFrom_0 rfl (lv_at hl 1 rfl) ?_
  obtain ⟨a1, w3, hO, hq2, ⟨k4, k5⟩, k6⟩ := op_4 hI hp1 List.not_mem_nil
  have hI := th_I.weak (a := p1) hI
  have k7 : (nI n).toInt = ((n : Nat) : Int) := nI_toInt (by omega)
  refine th_get hx hb hts inT4 hown hK hO rfl 2 (by decide) (hts _ (tb_c wd_47)) rfl rfl dX4_copyFrom_1 ?_
  refine lv_aload_n hx hb dX4_copyFrom_4 rfl (lv_at hl 0 rfl) ?_
  have hI := th_I.close hI hp1 hO (ok_4 hq2 ⟨by omega, by omega⟩ (by omega))
  obtain ⟨a8, w10, hO, hq9, ⟨k11, k12⟩, k13⟩ := op_4 hI hG0 List.not_mem_nil
  have hI := th_I.weak (a := h0) hI
  have k14 : (nI n).toInt = ((n : Nat) : Int) := nI_toInt (by omega)
  refine th_get hx hb hts inT4 hown hK hO rfl 0 (by decide) (hts _ (tb_c wd_45)) rfl rfl dX4_copyFrom_5 ?_
  refine lv_icmp_gt (tgt := 38) hx hb dX4_copyFrom_8 (by decide) (fun c15 => ?_) (fun c15 => ?_)
  · skip
    have k16 := iv_lt (X := (nI n).toInt) (Y := w3.toInt) rfl rfl c15
    have hI := th_I.close hI hG0 hO (ok_4 hq9 ⟨by omega, by omega⟩ (by omega))
    rw [hQ]
    exact W.vret hx hb hr (fun t ht hW => ⟨⟨(), rfl, trivial, by rw [ht]; exact hI, hN.warm hW, va_K.moved hW.alike hK⟩, hS.F ht⟩) hS.2.2 dX4_copyFrom_38
  · skip
    have k17 := iv_nlt (X := (nI n).toInt) (Y := w3.toInt) rfl rfl c15
    refine lv_aload_n hx hb dX4_copyFrom_11 rfl (lv_at hl 1 rfl) ?_
    have hI := th_I.close hI hG0 hO (ok_4 hq9 ⟨by omega, by omega⟩ (by omega))
    obtain ⟨a18, w20, hO, hq19, ⟨k21, k22⟩, k23⟩ := op_4 hI hp1 List.not_mem_nil
    have hI := th_I.weak (a := p1) hI
    have k24 : (nI n).toInt = ((n : Nat) : Int) := nI_toInt (by omega)
    refine th_get hx hb hts inT4 hown hK hO rfl 1 (by decide) (hts _ (tb_c wd_46)) rfl rfl dX4_copyFrom_12 ?_
    refine lv_iconst (v := 0) hx hb dX4_copyFrom_15 (by decide) ?_
    refine lv_aload_n hx hb dX4_copyFrom_16 rfl (lv_at hl 0 rfl) ?_
    have hI := th_I.close hI hp1 hO (ok_4 hq19 ⟨by omega, by omega⟩ (by omega))
    obtain ⟨a25, w27, hO, hq26, ⟨k28, k29⟩, k30⟩ := op_4 hI hG0 List.not_mem_nil
    have hI := th_I.weak (a := h0) hI
    have k31 : (nI n).toInt = ((n : Nat) : Int) := nI_toInt (by omega)
    refine th_get hx hb hts inT4 hown hK hO rfl 1 (by decide) (hts _ (tb_c wd_46)) rfl rfl dX4_copyFrom_17 ?_
    refine lv_iconst (v := 0) hx hb dX4_copyFrom_20 (by decide) ?_
    refine lv_aload_n hx hb dX4_copyFrom_21 rfl (lv_at hl 1 rfl) ?_
    have hI := th_I.close hI hG0 hO (ok_4 hq26 ⟨by omega, by omega⟩ (by omega))
    obtain ⟨a32, w34, hO, hq33, ⟨k35, k36⟩, k37⟩ := op_4 hI hp1 List.not_mem_nil
    have hI := th_I.weak (a := p1) hI
    have k38 : (nI n).toInt = ((n : Nat) : Int) := nI_toInt (by omega)
    refine th_get hx hb hts inT4 hown hK hO rfl 2 (by decide) (hts _ (tb_c wd_47)) rfl rfl dX4_copyFrom_22 ?_
    refine lv_iconst (v := 4) hx hb dX4_copyFrom_25 (by decide) ?_
    refine lv_imul hx hb dX4_copyFrom_26 ?_
    refine lv_topi (fun v39 e40 => ?_)
    have tv39 : v39.toInt = w34.toInt * (4) := iv_mul rfl (by decide) e40 (by omega) (by omega)
    obtain ⟨_, hA41⟩ := op_0 hI hq19 (th_ne hp1 hq19 (show (4 : Nat) ≠ 0 by decide))
    obtain ⟨_, hA42⟩ := op_0 hI hq26 (th_ne hp1 hq26 (show (4 : Nat) ≠ 0 by decide))
    have k43 : (0 : Int32).toInt = 0 := by decide
    have k44 : (0 : Int32).toInt = 0 := by decide
    refine th_copyi hx hb (hml.trans hl.1.symm) hown (hts _ (tb_c wd_503)) (hts _ (tb_c wd_505)) (hts _ (tb_c wd_504)) (hts _ (tb_c wd_14)) hK hA41 hA42 0 rfl hS ⟨_, hq26⟩ (fun z => by have := iv_lt (X := (0)) (Y := 0) (by decide) (by decide) z; omega) (fun z => by have := iv_lt (X := (0)) (Y := 0) (by decide) (by decide) z; omega) (fun z => by have := iv_lt (X := v39.toInt) (Y := 0) rfl (by decide) z; omega) (by omega) (by omega) (by rw [hR]; exact Nat.le_of_ble_eq_true rfl) (by rw [hR]; exact Nat.le_of_ble_eq_true rfl) dX4_copyFrom_27 (fun H locs _ hA42 oq hS => ?_)
    have hI := th_I.put hI hq26 hA42 ok_0 oq
    have hO := hO.kept (oq _ (fun z => th_ne hp1 hq26 (show (4 : Nat) ≠ 0 by decide) (List.mem_singleton.mpr z.symm)))
    refine lv_aload_n hx hb dX4_copyFrom_30 rfl (lv_at hl 0 rfl) ?_
    refine lv_aload_n hx hb dX4_copyFrom_31 rfl (lv_at hl 1 rfl) ?_
    refine th_get hx hb hts inT4 hown hK hO rfl 2 (by decide) (hts _ (tb_c wd_47)) rfl rfl dX4_copyFrom_32 ?_
    have hI := th_I.close hI hp1 hO (ok_4 hq33 ⟨by omega, by omega⟩ (by omega))
    obtain ⟨a45, w47, hO, hq46, ⟨k48, k49⟩, k50⟩ := op_4 hI hG0 List.not_mem_nil
    have hI := th_I.weak (a := h0) hI
    have k51 : (nI n).toInt = ((n : Nat) : Int) := nI_toInt (by omega)
    refine th_put (ty := .int) hx hb hts inT4 tyX4 tyX4_ok nmX4 hown hK hO hS ⟨_, hG0⟩ rfl 2 (by decide) (hts _ (tb_c wd_47)) rfl rfl (by decide +kernel) rfl rfl (Nat.le_of_ble_eq_true rfl) dX4_copyFrom_35 (fun H locs hO oq hS => ?_)
    have hI := th_I.moved hI oq
    have hO : va_at D vwCl (h0, .inr (4, [.int (nI n), .ref a45, .int w34])) H := hO
    have hI := th_I.close hI hG0 hO (ok_4 hq46 ⟨by omega, by omega⟩ (by omega))
    rw [hQ]
    exact W.vret hx hb hr (fun t ht hW => ⟨⟨(), rfl, trivial, by rw [ht]; exact hI, hN.warm hW, va_K.moved hW.alike hK⟩, hS.F ht⟩) hS.2.2 dX4_copyFrom_38
theorem dX6_keepLaw_0g : (decode cX6_keepLaw 0 = .ok (.aload_n 0, 1)) ∧ (decode cX6_keepLaw 1 = .ok (.getfield 51, 3)) ∧ (decode cX6_keepLaw 4 = .ok (.bipush 6, 2)) ∧ (decode cX6_keepLaw 6 = .ok (.if_icmp .lt 5, 3)) ∧ (decode cX6_keepLaw 9 = .ok (.iconst (-1), 1)) ∧ (decode cX6_keepLaw 10 = .ok (.ireturn, 1)) ∧ (decode cX6_keepLaw 11 = .ok (.aload_n 0, 1)) ∧ (decode cX6_keepLaw 12 = .ok (.getfield 47, 3)) ∧ (decode cX6_keepLaw 15 = .ok (.aload_n 0, 1)) ∧ (decode cX6_keepLaw 16 = .ok (.getfield 51, 3)) := by decide +kernel
theorem dX6_keepLaw_0 : decode cX6_keepLaw 0 = .ok (.aload_n 0, 1) := dX6_keepLaw_0g.1
theorem dX6_keepLaw_1 : decode cX6_keepLaw 1 = .ok (.getfield 51, 3) := dX6_keepLaw_0g.2.1
theorem dX6_keepLaw_4 : decode cX6_keepLaw 4 = .ok (.bipush 6, 2) := dX6_keepLaw_0g.2.2.1
theorem dX6_keepLaw_6 : decode cX6_keepLaw 6 = .ok (.if_icmp .lt 5, 3) := dX6_keepLaw_0g.2.2.2.1
theorem dX6_keepLaw_9 : decode cX6_keepLaw 9 = .ok (.iconst (-1), 1) := dX6_keepLaw_0g.2.2.2.2.1
theorem dX6_keepLaw_10 : decode cX6_keepLaw 10 = .ok (.ireturn, 1) := dX6_keepLaw_0g.2.2.2.2.2.1
theorem dX6_keepLaw_11 : decode cX6_keepLaw 11 = .ok (.aload_n 0, 1) := dX6_keepLaw_0g.2.2.2.2.2.2.1
theorem dX6_keepLaw_12 : decode cX6_keepLaw 12 = .ok (.getfield 47, 3) := dX6_keepLaw_0g.2.2.2.2.2.2.2.1
theorem dX6_keepLaw_15 : decode cX6_keepLaw 15 = .ok (.aload_n 0, 1) := dX6_keepLaw_0g.2.2.2.2.2.2.2.2.1
theorem dX6_keepLaw_16 : decode cX6_keepLaw 16 = .ok (.getfield 51, 3) := dX6_keepLaw_0g.2.2.2.2.2.2.2.2.2
theorem dX6_keepLaw_19g : (decode cX6_keepLaw 19 = .ok (.aload_n 1, 1)) ∧ (decode cX6_keepLaw 20 = .ok (.aastore, 1)) ∧ (decode cX6_keepLaw 21 = .ok (.aload_n 0, 1)) ∧ (decode cX6_keepLaw 22 = .ok (.dup, 1)) ∧ (decode cX6_keepLaw 23 = .ok (.getfield 51, 3)) ∧ (decode cX6_keepLaw 26 = .ok (.iconst 1, 1)) ∧ (decode cX6_keepLaw 27 = .ok (.iadd, 1)) ∧ (decode cX6_keepLaw 28 = .ok (.putfield 51, 3)) ∧ (decode cX6_keepLaw 31 = .ok (.aload_n 0, 1)) ∧ (decode cX6_keepLaw 32 = .ok (.getfield 51, 3)) := by decide +kernel
theorem dX6_keepLaw_19 : decode cX6_keepLaw 19 = .ok (.aload_n 1, 1) := dX6_keepLaw_19g.1
theorem dX6_keepLaw_20 : decode cX6_keepLaw 20 = .ok (.aastore, 1) := dX6_keepLaw_19g.2.1
theorem dX6_keepLaw_21 : decode cX6_keepLaw 21 = .ok (.aload_n 0, 1) := dX6_keepLaw_19g.2.2.1
theorem dX6_keepLaw_22 : decode cX6_keepLaw 22 = .ok (.dup, 1) := dX6_keepLaw_19g.2.2.2.1
theorem dX6_keepLaw_23 : decode cX6_keepLaw 23 = .ok (.getfield 51, 3) := dX6_keepLaw_19g.2.2.2.2.1
theorem dX6_keepLaw_26 : decode cX6_keepLaw 26 = .ok (.iconst 1, 1) := dX6_keepLaw_19g.2.2.2.2.2.1
theorem dX6_keepLaw_27 : decode cX6_keepLaw 27 = .ok (.iadd, 1) := dX6_keepLaw_19g.2.2.2.2.2.2.1
theorem dX6_keepLaw_28 : decode cX6_keepLaw 28 = .ok (.putfield 51, 3) := dX6_keepLaw_19g.2.2.2.2.2.2.2.1
theorem dX6_keepLaw_31 : decode cX6_keepLaw 31 = .ok (.aload_n 0, 1) := dX6_keepLaw_19g.2.2.2.2.2.2.2.2.1
theorem dX6_keepLaw_32 : decode cX6_keepLaw 32 = .ok (.getfield 51, 3) := dX6_keepLaw_19g.2.2.2.2.2.2.2.2.2
theorem dX6_keepLaw_35g : (decode cX6_keepLaw 35 = .ok (.iconst 1, 1)) ∧ (decode cX6_keepLaw 36 = .ok (.isub, 1)) ∧ (decode cX6_keepLaw 37 = .ok (.ireturn, 1)) := by decide +kernel
theorem dX6_keepLaw_35 : decode cX6_keepLaw 35 = .ok (.iconst 1, 1) := dX6_keepLaw_35g.1
theorem dX6_keepLaw_36 : decode cX6_keepLaw 36 = .ok (.isub, 1) := dX6_keepLaw_35g.2.1
theorem dX6_keepLaw_37 : decode cX6_keepLaw 37 = .ok (.ireturn, 1) := dX6_keepLaw_35g.2.2
set_option maxHeartbeats 4000000 in
set_option maxRecDepth 100000 in
theorem c_X6_keepLaw (l : Launch) (E : Nat → Nat) (D : va_G) (G : th_G) (h0 : Nat) (hG0 : G h0 = some (6, 0)) (p1 n1 : Nat) (hp1 : G p1 = some (5, n1)) : Met l yX6_keepLaw (tb (.code yX6_keepLaw cX6_keepLaw 2 (some .int))) (rm 0) (va_Pc [.ref h0, .ref p1] (th_P E D G)) (QI E D G (fun r => True)) 0 0 (th_A G) := by
  refine Met.ofW (cc := cX6_keepLaw) (maxL := 2) (ret := (some .int)) (by decide) rfl ?_
  intro p e s m args below meth c s₁ B hml hv
  obtain ⟨hav, hI, hN, hK⟩ := hv
  have hx := B.exec
  have hb := B.bytes
  have hr := B.returns
  have hts := atoms_spec (ws := tb (.code yX6_keepLaw cX6_keepLaw 2 (some .int))) B.pre
  have hown : s.vm.findClass RX6 = some m.cls := findClass_of_methodNamed B.named
  have hlocks := B.notSynchronized
  have hS : va_S (th_A G) s.heap s.heap [] := va_S.rf
  have hl := lv_entry ([.ref h0, .ref p1]) (n := 2) (Nat.le_of_ble_eq_true rfl)
  rw [show entryFrame m args 2 = entryFrame m ([.ref h0, .ref p1] : List Value).toArray 2 from by rw [hav], lg_entry_eq]
  generalize (lg_sl ([.ref h0, .ref p1]) ++ List.replicate (2 - (lg_sl ([.ref h0, .ref p1])).length) Slot.unset).toArray = ls at hl ⊢
  have hl : lv_has ls 2 [(0, .ref h0), (1, .ref p1)] := hl
  generalize hR : (headSpec (tb (.code yX6_keepLaw cX6_keepLaw 2 (some .int))) (rm 0)).room = R
  have hR := hR.symm
  generalize hQ : MQ below (QI E D G (fun r => True)) args s 0 0 (th_A G) = QF
  have hQ := hQ.symm
  refine lv_aload_n hx hb dX6_keepLaw_0 rfl (lv_at hl 0 rfl) ?_
  obtain ⟨a1, a3, a5, a7, a9, a11, a13, a15, a17, a19, w21, w24, w25, w26, hO, hq2, hq4, hq6, hq8, hq10, hq12, hq14, hq16, hq18, hq20, ⟨k22, k23⟩, k27⟩ := op_6 hI hG0 List.not_mem_nil
  have hI := th_I.weak (a := h0) hI
  refine th_get hx hb hts inT6 hown hK hO rfl 10 (by decide) (hts _ (tb_c wd_82)) rfl rfl dX6_keepLaw_1 ?_
  refine lv_bipush (v := 6) hx hb dX6_keepLaw_4 (by decide) ?_
  refine lv_icmp_lt (tgt := 11) hx hb dX6_keepLaw_6 (by decide) (fun c28 => ?_) (fun c28 => ?_)
  · skip
    have k29 := iv_lt (X := w21.toInt) (Y := (6)) rfl (by decide) c28
    refine lv_aload_n hx hb dX6_keepLaw_11 rfl (lv_at hl 0 rfl) ?_
    refine th_get hx hb hts inT6 hown hK hO rfl 9 (by decide) (hts _ (tb_c wd_81)) rfl rfl dX6_keepLaw_12 ?_
    refine lv_aload_n hx hb dX6_keepLaw_15 rfl (lv_at hl 0 rfl) ?_
    refine th_get hx hb hts inT6 hown hK hO rfl 10 (by decide) (hts _ (tb_c wd_82)) rfl rfl dX6_keepLaw_16 ?_
    refine lv_aload_n hx hb dX6_keepLaw_19 rfl (lv_at hl 1 rfl) ?_
    obtain ⟨_, hA30, hg31⟩ := op_2 hI hq20 (th_ne hG0 hq20 (show (6 : Nat) ≠ 2 by decide))
    obtain ⟨_, hV32⟩ := rc_5 hI hp1 (th_ne hG0 hp1 (show (6 : Nat) ≠ 5 by decide))
    refine th_aast hx hb hK hA30 4 rfl hV32 rfl hS ⟨_, hq20⟩ (iv_in (X := w21.toInt) rfl (by omega) (by omega)) dX6_keepLaw_20 (fun H locs hA30 oq hS => ?_)
    have hI := th_I.put hI hq20 hA30 (ok_2 (th_upSL hg31 hp1)) oq
    have hO := hO.kept (oq _ (fun z => th_ne hG0 hq20 (show (6 : Nat) ≠ 2 by decide) (List.mem_singleton.mpr z.symm)))
    refine lv_aload_n hx hb dX6_keepLaw_21 rfl (lv_at hl 0 rfl) ?_
    refine lv_dup hx hb dX6_keepLaw_22 rfl ?_
    refine th_get hx hb hts inT6 hown hK hO rfl 10 (by decide) (hts _ (tb_c wd_82)) rfl rfl dX6_keepLaw_23 ?_
    refine lv_iconst (v := 1) hx hb dX6_keepLaw_26 (by decide) ?_
    refine lv_iadd hx hb dX6_keepLaw_27 ?_
    refine lv_topi (fun v33 e34 => ?_)
    have tv33 : v33.toInt = w21.toInt + (1) := iv_add rfl (by decide) e34 (by omega) (by omega)
    refine th_put (ty := .int) hx hb hts inT6 tyX6 tyX6_ok nmX6 hown hK hO hS ⟨_, hG0⟩ rfl 10 (by decide) (hts _ (tb_c wd_82)) rfl rfl (by decide +kernel) rfl rfl (Nat.le_of_ble_eq_true rfl) dX6_keepLaw_28 (fun H locs hO oq hS => ?_)
    have hI := th_I.moved hI oq
    have hO : va_at D vwCl (h0, .inr (6, [.ref a1, .ref a3, .ref a5, .ref a7, .ref a9, .ref a11, .ref a13, .ref a15, .ref a17, .ref a19, .int v33, .int w24, .int w25, .int w26])) H := hO
    refine lv_aload_n hx hb dX6_keepLaw_31 rfl (lv_at hl 0 rfl) ?_
    refine th_get hx hb hts inT6 hown hK hO rfl 10 (by decide) (hts _ (tb_c wd_82)) rfl rfl dX6_keepLaw_32 ?_
    refine lv_iconst (v := 1) hx hb dX6_keepLaw_35 (by decide) ?_
    refine lv_isub hx hb dX6_keepLaw_36 ?_
    refine lv_topi (fun v35 e36 => ?_)
    have tv35 : v35.toInt = v33.toInt - (1) := iv_sub rfl (by decide) e36 (by omega) (by omega)
    have hI := th_I.close hI hG0 hO (ok_6 hq2 hq4 hq6 hq8 hq10 hq12 hq14 hq16 hq18 hq20 ⟨by omega, by omega⟩ k27)
    have hpost : True := trivial
    rw [hQ]
    exact W.iret (v := v35) hx hb hr (fun t ht hW => ⟨⟨v35, (), rfl, hpost, by rw [ht]; exact hI, hN.warm hW, va_K.moved hW.alike hK⟩, hS.F ht⟩) hS.2.2 dX6_keepLaw_37
  · skip
    have k37 := iv_nlt (X := w21.toInt) (Y := (6)) rfl (by decide) c28
    refine lv_iconst (v := (-1)) hx hb dX6_keepLaw_9 (by decide) ?_
    have hI := th_I.close hI hG0 hO (ok_6 hq2 hq4 hq6 hq8 hq10 hq12 hq14 hq16 hq18 hq20 ⟨by omega, by omega⟩ k27)
    have hpost : True := trivial
    rw [hQ]
    exact W.iret (v := (-1)) hx hb hr (fun t ht hW => ⟨⟨(-1), (), rfl, hpost, by rw [ht]; exact hI, hN.warm hW, va_K.moved hW.alike hK⟩, hS.F ht⟩) hS.2.2 dX6_keepLaw_10
theorem dX6_copyFrom_0g : (decode cX6_copyFrom 0 = .ok (.aload_n 1, 1)) ∧ (decode cX6_copyFrom 1 = .ok (.getfield 9, 3)) ∧ (decode cX6_copyFrom 4 = .ok (.iconst 0, 1)) ∧ (decode cX6_copyFrom 5 = .ok (.aload_n 0, 1)) ∧ (decode cX6_copyFrom 6 = .ok (.getfield 9, 3)) ∧ (decode cX6_copyFrom 9 = .ok (.iconst 0, 1)) ∧ (decode cX6_copyFrom 10 = .ok (.aload_n 0, 1)) ∧ (decode cX6_copyFrom 11 = .ok (.getfield 9, 3)) ∧ (decode cX6_copyFrom 14 = .ok (.arraylength, 1)) ∧ (decode cX6_copyFrom 15 = .ok (.invokestatic 64, 3)) := by decide +kernel
theorem dX6_copyFrom_0 : decode cX6_copyFrom 0 = .ok (.aload_n 1, 1) := dX6_copyFrom_0g.1
theorem dX6_copyFrom_1 : decode cX6_copyFrom 1 = .ok (.getfield 9, 3) := dX6_copyFrom_0g.2.1
theorem dX6_copyFrom_4 : decode cX6_copyFrom 4 = .ok (.iconst 0, 1) := dX6_copyFrom_0g.2.2.1
theorem dX6_copyFrom_5 : decode cX6_copyFrom 5 = .ok (.aload_n 0, 1) := dX6_copyFrom_0g.2.2.2.1
theorem dX6_copyFrom_6 : decode cX6_copyFrom 6 = .ok (.getfield 9, 3) := dX6_copyFrom_0g.2.2.2.2.1
theorem dX6_copyFrom_9 : decode cX6_copyFrom 9 = .ok (.iconst 0, 1) := dX6_copyFrom_0g.2.2.2.2.2.1
theorem dX6_copyFrom_10 : decode cX6_copyFrom 10 = .ok (.aload_n 0, 1) := dX6_copyFrom_0g.2.2.2.2.2.2.1
theorem dX6_copyFrom_11 : decode cX6_copyFrom 11 = .ok (.getfield 9, 3) := dX6_copyFrom_0g.2.2.2.2.2.2.2.1
theorem dX6_copyFrom_14 : decode cX6_copyFrom 14 = .ok (.arraylength, 1) := dX6_copyFrom_0g.2.2.2.2.2.2.2.2.1
theorem dX6_copyFrom_15 : decode cX6_copyFrom 15 = .ok (.invokestatic 64, 3) := dX6_copyFrom_0g.2.2.2.2.2.2.2.2.2
theorem dX6_copyFrom_18g : (decode cX6_copyFrom 18 = .ok (.aload_n 1, 1)) ∧ (decode cX6_copyFrom 19 = .ok (.getfield 15, 3)) ∧ (decode cX6_copyFrom 22 = .ok (.iconst 0, 1)) ∧ (decode cX6_copyFrom 23 = .ok (.aload_n 0, 1)) ∧ (decode cX6_copyFrom 24 = .ok (.getfield 15, 3)) ∧ (decode cX6_copyFrom 27 = .ok (.iconst 0, 1)) ∧ (decode cX6_copyFrom 28 = .ok (.aload_n 0, 1)) ∧ (decode cX6_copyFrom 29 = .ok (.getfield 15, 3)) ∧ (decode cX6_copyFrom 32 = .ok (.arraylength, 1)) ∧ (decode cX6_copyFrom 33 = .ok (.invokestatic 64, 3)) := by decide +kernel
theorem dX6_copyFrom_18 : decode cX6_copyFrom 18 = .ok (.aload_n 1, 1) := dX6_copyFrom_18g.1
theorem dX6_copyFrom_19 : decode cX6_copyFrom 19 = .ok (.getfield 15, 3) := dX6_copyFrom_18g.2.1
theorem dX6_copyFrom_22 : decode cX6_copyFrom 22 = .ok (.iconst 0, 1) := dX6_copyFrom_18g.2.2.1
theorem dX6_copyFrom_23 : decode cX6_copyFrom 23 = .ok (.aload_n 0, 1) := dX6_copyFrom_18g.2.2.2.1
theorem dX6_copyFrom_24 : decode cX6_copyFrom 24 = .ok (.getfield 15, 3) := dX6_copyFrom_18g.2.2.2.2.1
theorem dX6_copyFrom_27 : decode cX6_copyFrom 27 = .ok (.iconst 0, 1) := dX6_copyFrom_18g.2.2.2.2.2.1
theorem dX6_copyFrom_28 : decode cX6_copyFrom 28 = .ok (.aload_n 0, 1) := dX6_copyFrom_18g.2.2.2.2.2.2.1
theorem dX6_copyFrom_29 : decode cX6_copyFrom 29 = .ok (.getfield 15, 3) := dX6_copyFrom_18g.2.2.2.2.2.2.2.1
theorem dX6_copyFrom_32 : decode cX6_copyFrom 32 = .ok (.arraylength, 1) := dX6_copyFrom_18g.2.2.2.2.2.2.2.2.1
theorem dX6_copyFrom_33 : decode cX6_copyFrom 33 = .ok (.invokestatic 64, 3) := dX6_copyFrom_18g.2.2.2.2.2.2.2.2.2
theorem dX6_copyFrom_36g : (decode cX6_copyFrom 36 = .ok (.iconst 0, 1)) ∧ (decode cX6_copyFrom 37 = .ok (.istore_n 2, 1)) ∧ (decode cX6_copyFrom 38 = .ok (.iload_n 2, 1)) ∧ (decode cX6_copyFrom 39 = .ok (.bipush 6, 2)) ∧ (decode cX6_copyFrom 41 = .ok (.if_icmp .ge 21, 3)) ∧ (decode cX6_copyFrom 44 = .ok (.aload_n 0, 1)) ∧ (decode cX6_copyFrom 45 = .ok (.getfield 47, 3)) ∧ (decode cX6_copyFrom 48 = .ok (.iload_n 2, 1)) ∧ (decode cX6_copyFrom 49 = .ok (.aload_n 1, 1)) ∧ (decode cX6_copyFrom 50 = .ok (.getfield 47, 3)) := by decide +kernel
theorem dX6_copyFrom_36 : decode cX6_copyFrom 36 = .ok (.iconst 0, 1) := dX6_copyFrom_36g.1
theorem dX6_copyFrom_37 : decode cX6_copyFrom 37 = .ok (.istore_n 2, 1) := dX6_copyFrom_36g.2.1
theorem dX6_copyFrom_38 : decode cX6_copyFrom 38 = .ok (.iload_n 2, 1) := dX6_copyFrom_36g.2.2.1
theorem dX6_copyFrom_39 : decode cX6_copyFrom 39 = .ok (.bipush 6, 2) := dX6_copyFrom_36g.2.2.2.1
theorem dX6_copyFrom_41 : decode cX6_copyFrom 41 = .ok (.if_icmp .ge 21, 3) := dX6_copyFrom_36g.2.2.2.2.1
theorem dX6_copyFrom_44 : decode cX6_copyFrom 44 = .ok (.aload_n 0, 1) := dX6_copyFrom_36g.2.2.2.2.2.1
theorem dX6_copyFrom_45 : decode cX6_copyFrom 45 = .ok (.getfield 47, 3) := dX6_copyFrom_36g.2.2.2.2.2.2.1
theorem dX6_copyFrom_48 : decode cX6_copyFrom 48 = .ok (.iload_n 2, 1) := dX6_copyFrom_36g.2.2.2.2.2.2.2.1
theorem dX6_copyFrom_49 : decode cX6_copyFrom 49 = .ok (.aload_n 1, 1) := dX6_copyFrom_36g.2.2.2.2.2.2.2.2.1
theorem dX6_copyFrom_50 : decode cX6_copyFrom 50 = .ok (.getfield 47, 3) := dX6_copyFrom_36g.2.2.2.2.2.2.2.2.2
theorem dX6_copyFrom_53g : (decode cX6_copyFrom 53 = .ok (.iload_n 2, 1)) ∧ (decode cX6_copyFrom 54 = .ok (.aaload, 1)) ∧ (decode cX6_copyFrom 55 = .ok (.aastore, 1)) ∧ (decode cX6_copyFrom 56 = .ok (.iinc 2 1, 3)) ∧ (decode cX6_copyFrom 59 = .ok (.goto (-21), 3)) ∧ (decode cX6_copyFrom 62 = .ok (.aload_n 0, 1)) ∧ (decode cX6_copyFrom 63 = .ok (.getfield 23, 3)) ∧ (decode cX6_copyFrom 66 = .ok (.aload_n 1, 1)) ∧ (decode cX6_copyFrom 67 = .ok (.getfield 23, 3)) ∧ (decode cX6_copyFrom 70 = .ok (.invokevirtual 70, 3)) := by decide +kernel
theorem dX6_copyFrom_53 : decode cX6_copyFrom 53 = .ok (.iload_n 2, 1) := dX6_copyFrom_53g.1
theorem dX6_copyFrom_54 : decode cX6_copyFrom 54 = .ok (.aaload, 1) := dX6_copyFrom_53g.2.1
theorem dX6_copyFrom_55 : decode cX6_copyFrom 55 = .ok (.aastore, 1) := dX6_copyFrom_53g.2.2.1
theorem dX6_copyFrom_56 : decode cX6_copyFrom 56 = .ok (.iinc 2 1, 3) := dX6_copyFrom_53g.2.2.2.1
theorem dX6_copyFrom_59 : decode cX6_copyFrom 59 = .ok (.goto (-21), 3) := dX6_copyFrom_53g.2.2.2.2.1
theorem dX6_copyFrom_62 : decode cX6_copyFrom 62 = .ok (.aload_n 0, 1) := dX6_copyFrom_53g.2.2.2.2.2.1
theorem dX6_copyFrom_63 : decode cX6_copyFrom 63 = .ok (.getfield 23, 3) := dX6_copyFrom_53g.2.2.2.2.2.2.1
theorem dX6_copyFrom_66 : decode cX6_copyFrom 66 = .ok (.aload_n 1, 1) := dX6_copyFrom_53g.2.2.2.2.2.2.2.1
theorem dX6_copyFrom_67 : decode cX6_copyFrom 67 = .ok (.getfield 23, 3) := dX6_copyFrom_53g.2.2.2.2.2.2.2.2.1
theorem dX6_copyFrom_70 : decode cX6_copyFrom 70 = .ok (.invokevirtual 70, 3) := dX6_copyFrom_53g.2.2.2.2.2.2.2.2.2
theorem dX6_copyFrom_73g : (decode cX6_copyFrom 73 = .ok (.aload_n 0, 1)) ∧ (decode cX6_copyFrom 74 = .ok (.getfield 27, 3)) ∧ (decode cX6_copyFrom 77 = .ok (.aload_n 1, 1)) ∧ (decode cX6_copyFrom 78 = .ok (.getfield 27, 3)) ∧ (decode cX6_copyFrom 81 = .ok (.invokevirtual 70, 3)) ∧ (decode cX6_copyFrom 84 = .ok (.aload_n 0, 1)) ∧ (decode cX6_copyFrom 85 = .ok (.getfield 30, 3)) ∧ (decode cX6_copyFrom 88 = .ok (.aload_n 1, 1)) ∧ (decode cX6_copyFrom 89 = .ok (.getfield 30, 3)) ∧ (decode cX6_copyFrom 92 = .ok (.invokevirtual 70, 3)) := by decide +kernel
theorem dX6_copyFrom_73 : decode cX6_copyFrom 73 = .ok (.aload_n 0, 1) := dX6_copyFrom_73g.1
theorem dX6_copyFrom_74 : decode cX6_copyFrom 74 = .ok (.getfield 27, 3) := dX6_copyFrom_73g.2.1
theorem dX6_copyFrom_77 : decode cX6_copyFrom 77 = .ok (.aload_n 1, 1) := dX6_copyFrom_73g.2.2.1
theorem dX6_copyFrom_78 : decode cX6_copyFrom 78 = .ok (.getfield 27, 3) := dX6_copyFrom_73g.2.2.2.1
theorem dX6_copyFrom_81 : decode cX6_copyFrom 81 = .ok (.invokevirtual 70, 3) := dX6_copyFrom_73g.2.2.2.2.1
theorem dX6_copyFrom_84 : decode cX6_copyFrom 84 = .ok (.aload_n 0, 1) := dX6_copyFrom_73g.2.2.2.2.2.1
theorem dX6_copyFrom_85 : decode cX6_copyFrom 85 = .ok (.getfield 30, 3) := dX6_copyFrom_73g.2.2.2.2.2.2.1
theorem dX6_copyFrom_88 : decode cX6_copyFrom 88 = .ok (.aload_n 1, 1) := dX6_copyFrom_73g.2.2.2.2.2.2.2.1
theorem dX6_copyFrom_89 : decode cX6_copyFrom 89 = .ok (.getfield 30, 3) := dX6_copyFrom_73g.2.2.2.2.2.2.2.2.1
theorem dX6_copyFrom_92 : decode cX6_copyFrom 92 = .ok (.invokevirtual 70, 3) := dX6_copyFrom_73g.2.2.2.2.2.2.2.2.2
theorem dX6_copyFrom_95g : (decode cX6_copyFrom 95 = .ok (.aload_n 0, 1)) ∧ (decode cX6_copyFrom 96 = .ok (.getfield 33, 3)) ∧ (decode cX6_copyFrom 99 = .ok (.aload_n 1, 1)) ∧ (decode cX6_copyFrom 100 = .ok (.getfield 33, 3)) ∧ (decode cX6_copyFrom 103 = .ok (.invokevirtual 70, 3)) ∧ (decode cX6_copyFrom 106 = .ok (.aload_n 0, 1)) ∧ (decode cX6_copyFrom 107 = .ok (.getfield 36, 3)) ∧ (decode cX6_copyFrom 110 = .ok (.aload_n 1, 1)) ∧ (decode cX6_copyFrom 111 = .ok (.getfield 36, 3)) ∧ (decode cX6_copyFrom 114 = .ok (.invokevirtual 70, 3)) := by decide +kernel
theorem dX6_copyFrom_95 : decode cX6_copyFrom 95 = .ok (.aload_n 0, 1) := dX6_copyFrom_95g.1
theorem dX6_copyFrom_96 : decode cX6_copyFrom 96 = .ok (.getfield 33, 3) := dX6_copyFrom_95g.2.1
theorem dX6_copyFrom_99 : decode cX6_copyFrom 99 = .ok (.aload_n 1, 1) := dX6_copyFrom_95g.2.2.1
theorem dX6_copyFrom_100 : decode cX6_copyFrom 100 = .ok (.getfield 33, 3) := dX6_copyFrom_95g.2.2.2.1
theorem dX6_copyFrom_103 : decode cX6_copyFrom 103 = .ok (.invokevirtual 70, 3) := dX6_copyFrom_95g.2.2.2.2.1
theorem dX6_copyFrom_106 : decode cX6_copyFrom 106 = .ok (.aload_n 0, 1) := dX6_copyFrom_95g.2.2.2.2.2.1
theorem dX6_copyFrom_107 : decode cX6_copyFrom 107 = .ok (.getfield 36, 3) := dX6_copyFrom_95g.2.2.2.2.2.2.1
theorem dX6_copyFrom_110 : decode cX6_copyFrom 110 = .ok (.aload_n 1, 1) := dX6_copyFrom_95g.2.2.2.2.2.2.2.1
theorem dX6_copyFrom_111 : decode cX6_copyFrom 111 = .ok (.getfield 36, 3) := dX6_copyFrom_95g.2.2.2.2.2.2.2.2.1
theorem dX6_copyFrom_114 : decode cX6_copyFrom 114 = .ok (.invokevirtual 70, 3) := dX6_copyFrom_95g.2.2.2.2.2.2.2.2.2
theorem dX6_copyFrom_117g : (decode cX6_copyFrom 117 = .ok (.aload_n 0, 1)) ∧ (decode cX6_copyFrom 118 = .ok (.getfield 39, 3)) ∧ (decode cX6_copyFrom 121 = .ok (.aload_n 1, 1)) ∧ (decode cX6_copyFrom 122 = .ok (.getfield 39, 3)) ∧ (decode cX6_copyFrom 125 = .ok (.invokevirtual 70, 3)) ∧ (decode cX6_copyFrom 128 = .ok (.aload_n 0, 1)) ∧ (decode cX6_copyFrom 129 = .ok (.getfield 42, 3)) ∧ (decode cX6_copyFrom 132 = .ok (.aload_n 1, 1)) ∧ (decode cX6_copyFrom 133 = .ok (.getfield 42, 3)) ∧ (decode cX6_copyFrom 136 = .ok (.invokevirtual 70, 3)) := by decide +kernel
theorem dX6_copyFrom_117 : decode cX6_copyFrom 117 = .ok (.aload_n 0, 1) := dX6_copyFrom_117g.1
theorem dX6_copyFrom_118 : decode cX6_copyFrom 118 = .ok (.getfield 39, 3) := dX6_copyFrom_117g.2.1
theorem dX6_copyFrom_121 : decode cX6_copyFrom 121 = .ok (.aload_n 1, 1) := dX6_copyFrom_117g.2.2.1
theorem dX6_copyFrom_122 : decode cX6_copyFrom 122 = .ok (.getfield 39, 3) := dX6_copyFrom_117g.2.2.2.1
theorem dX6_copyFrom_125 : decode cX6_copyFrom 125 = .ok (.invokevirtual 70, 3) := dX6_copyFrom_117g.2.2.2.2.1
theorem dX6_copyFrom_128 : decode cX6_copyFrom 128 = .ok (.aload_n 0, 1) := dX6_copyFrom_117g.2.2.2.2.2.1
theorem dX6_copyFrom_129 : decode cX6_copyFrom 129 = .ok (.getfield 42, 3) := dX6_copyFrom_117g.2.2.2.2.2.2.1
theorem dX6_copyFrom_132 : decode cX6_copyFrom 132 = .ok (.aload_n 1, 1) := dX6_copyFrom_117g.2.2.2.2.2.2.2.1
theorem dX6_copyFrom_133 : decode cX6_copyFrom 133 = .ok (.getfield 42, 3) := dX6_copyFrom_117g.2.2.2.2.2.2.2.2.1
theorem dX6_copyFrom_136 : decode cX6_copyFrom 136 = .ok (.invokevirtual 70, 3) := dX6_copyFrom_117g.2.2.2.2.2.2.2.2.2
theorem dX6_copyFrom_139g : (decode cX6_copyFrom 139 = .ok (.aload_n 0, 1)) ∧ (decode cX6_copyFrom 140 = .ok (.aload_n 1, 1)) ∧ (decode cX6_copyFrom 141 = .ok (.getfield 51, 3)) ∧ (decode cX6_copyFrom 144 = .ok (.putfield 51, 3)) ∧ (decode cX6_copyFrom 147 = .ok (.aload_n 0, 1)) ∧ (decode cX6_copyFrom 148 = .ok (.aload_n 1, 1)) ∧ (decode cX6_copyFrom 149 = .ok (.getfield 55, 3)) ∧ (decode cX6_copyFrom 152 = .ok (.putfield 55, 3)) ∧ (decode cX6_copyFrom 155 = .ok (.aload_n 0, 1)) ∧ (decode cX6_copyFrom 156 = .ok (.aload_n 1, 1)) := by decide +kernel
theorem dX6_copyFrom_139 : decode cX6_copyFrom 139 = .ok (.aload_n 0, 1) := dX6_copyFrom_139g.1
theorem dX6_copyFrom_140 : decode cX6_copyFrom 140 = .ok (.aload_n 1, 1) := dX6_copyFrom_139g.2.1
theorem dX6_copyFrom_141 : decode cX6_copyFrom 141 = .ok (.getfield 51, 3) := dX6_copyFrom_139g.2.2.1
theorem dX6_copyFrom_144 : decode cX6_copyFrom 144 = .ok (.putfield 51, 3) := dX6_copyFrom_139g.2.2.2.1
theorem dX6_copyFrom_147 : decode cX6_copyFrom 147 = .ok (.aload_n 0, 1) := dX6_copyFrom_139g.2.2.2.2.1
theorem dX6_copyFrom_148 : decode cX6_copyFrom 148 = .ok (.aload_n 1, 1) := dX6_copyFrom_139g.2.2.2.2.2.1
theorem dX6_copyFrom_149 : decode cX6_copyFrom 149 = .ok (.getfield 55, 3) := dX6_copyFrom_139g.2.2.2.2.2.2.1
theorem dX6_copyFrom_152 : decode cX6_copyFrom 152 = .ok (.putfield 55, 3) := dX6_copyFrom_139g.2.2.2.2.2.2.2.1
theorem dX6_copyFrom_155 : decode cX6_copyFrom 155 = .ok (.aload_n 0, 1) := dX6_copyFrom_139g.2.2.2.2.2.2.2.2.1
theorem dX6_copyFrom_156 : decode cX6_copyFrom 156 = .ok (.aload_n 1, 1) := dX6_copyFrom_139g.2.2.2.2.2.2.2.2.2
theorem dX6_copyFrom_157g : (decode cX6_copyFrom 157 = .ok (.getfield 58, 3)) ∧ (decode cX6_copyFrom 160 = .ok (.putfield 58, 3)) ∧ (decode cX6_copyFrom 163 = .ok (.aload_n 0, 1)) ∧ (decode cX6_copyFrom 164 = .ok (.aload_n 1, 1)) ∧ (decode cX6_copyFrom 165 = .ok (.getfield 61, 3)) ∧ (decode cX6_copyFrom 168 = .ok (.putfield 61, 3)) ∧ (decode cX6_copyFrom 171 = .ok (.return_, 1)) := by decide +kernel
theorem dX6_copyFrom_157 : decode cX6_copyFrom 157 = .ok (.getfield 58, 3) := dX6_copyFrom_157g.1
theorem dX6_copyFrom_160 : decode cX6_copyFrom 160 = .ok (.putfield 58, 3) := dX6_copyFrom_157g.2.1
theorem dX6_copyFrom_163 : decode cX6_copyFrom 163 = .ok (.aload_n 0, 1) := dX6_copyFrom_157g.2.2.1
theorem dX6_copyFrom_164 : decode cX6_copyFrom 164 = .ok (.aload_n 1, 1) := dX6_copyFrom_157g.2.2.2.1
theorem dX6_copyFrom_165 : decode cX6_copyFrom 165 = .ok (.getfield 61, 3) := dX6_copyFrom_157g.2.2.2.2.1
theorem dX6_copyFrom_168 : decode cX6_copyFrom 168 = .ok (.putfield 61, 3) := dX6_copyFrom_157g.2.2.2.2.2.1
theorem dX6_copyFrom_171 : decode cX6_copyFrom 171 = .ok (.return_, 1) := dX6_copyFrom_157g.2.2.2.2.2.2
set_option maxHeartbeats 4000000 in
set_option maxRecDepth 100000 in
theorem c_X6_copyFrom (l : Launch) (E : Nat → Nat) (D : va_G) (G : th_G) (h0 : Nat) (hG0 : G h0 = some (6, 0)) (p1 : Nat) (hp1 : G p1 = some (6, 0)) (t u : Nat) (e2 : E (1000 + 256 * h0) = t + 1) (e3 : E (1000 + 256 * p1) = u + 1) : Met l yX6_copyFrom (tb (.code yX6_copyFrom cX6_copyFrom 3 none)) (rm 2) (va_Pc [.ref h0, .ref p1] (th_P E D G)) (QV (eR E (1100 + 256 * t) (fun j => E (1100 + 256 * u + j))) D G) 0 0 (th_A G) := by
  refine Met.ofW (cc := cX6_copyFrom) (maxL := 3) (ret := none) (by decide) rfl ?_
  intro p e s m args below meth c s₁ B hml hv
  obtain ⟨hav, hI, hN, hK⟩ := hv
  have hx := B.exec
  have hb := B.bytes
  have hr := B.returns
  have hts := atoms_spec (ws := tb (.code yX6_copyFrom cX6_copyFrom 3 none)) B.pre
  have hown : s.vm.findClass RX6 = some m.cls := findClass_of_methodNamed B.named
  have hlocks := B.notSynchronized
  have hS : va_S (th_A G) s.heap s.heap [] := va_S.rf
  have hl := lv_entry ([.ref h0, .ref p1]) (n := 3) (Nat.le_of_ble_eq_true rfl)
  rw [show entryFrame m args 3 = entryFrame m ([.ref h0, .ref p1] : List Value).toArray 3 from by rw [hav], lg_entry_eq]
  generalize (lg_sl ([.ref h0, .ref p1]) ++ List.replicate (3 - (lg_sl ([.ref h0, .ref p1])).length) Slot.unset).toArray = ls at hl ⊢
  have hl : lv_has ls 3 [(0, .ref h0), (1, .ref p1)] := hl
  generalize hR : (headSpec (tb (.code yX6_copyFrom cX6_copyFrom 3 none)) (rm 2)).room = R
  have hR := hR.symm
  generalize hQ : MQ below (QV (eR E (1100 + 256 * t) (fun j => E (1100 + 256 * u + j))) D G) args s 0 0 (th_A G) = QF
  have hQ := hQ.symm
  have J_38 : ∀ (nn : Nat) (H : Heap) (locs : List Loc) (ls : Array Slot) (v6667 : Int32) (Ec : Nat → Nat), (Int.toNat (6 - v6667.toInt) = nn) → lv_has ls 3 [(2, .int v6667), (0, .ref h0), (1, .ref p1)] → ((0 : Int) ≤ v6667.toInt ∧ v6667.toInt ≤ 6) → (Ec = eR E (1100 + 256 * t) (fun j => E (1100 + 256 * u + j))) → th_I (okC Ec) D G [] H → va_S (th_A G) s.heap H locs → W p l e R s m args below meth c H locs 0 0 QF (F0 m 38 ls []) := by
    intro nn
    induction nn using Nat.strongRecOn with
    | ind nn ih_38 =>
      intro H locs ls v6667 Ec hm hl k6668 hEc hI hS
      have hK : va_K D vwCl (th_tys Ec) s := by rw [hEc, tys_eq (fun j hj => eR_out (by omega))]; exact hK
      have e2c : Ec (1000 + 256 * h0) = t + 1 := by rw [hEc, eR_out (by omega)]; exact e2
      have e3c : Ec (1000 + 256 * p1) = u + 1 := by rw [hEc, eR_out (by omega)]; exact e3
      refine lv_iload_n hx hb dX6_copyFrom_38 rfl (lv_at hl 0 rfl) ?_
      refine lv_bipush (v := 6) hx hb dX6_copyFrom_39 (by decide) ?_
      refine lv_icmp_ge (tgt := 62) hx hb dX6_copyFrom_41 (by decide) (fun c6669 => ?_) (fun c6669 => ?_)
      · skip
        have k6670 := iv_le (X := (6)) (Y := v6667.toInt) (by decide) rfl c6669
        refine lv_aload_n hx hb dX6_copyFrom_62 rfl (lv_at hl 1 rfl) ?_
        obtain ⟨a6671, a6673, a6675, a6677, a6679, a6681, a6683, a6685, a6687, a6689, w6691, w6694, w6695, w6696, hO, hq6672, hq6674, hq6676, hq6678, hq6680, hq6682, hq6684, hq6686, hq6688, hq6690, ⟨k6692, k6693⟩, k6697⟩ := op_6 hI hG0 List.not_mem_nil
        have hI := th_I.weak (a := h0) hI
        obtain rfl := eaU_q k6697.1 e2c
        refine th_get hx hb hts inT6 hown hK hO rfl 2 (by decide) (hts _ (tb_c wd_60)) rfl rfl dX6_copyFrom_63 ?_
        refine lv_aload_n hx hb dX6_copyFrom_66 rfl (lv_at hl 2 rfl) ?_
        have hI := th_I.close hI hG0 hO (ok_6 hq6672 hq6674 hq6676 hq6678 hq6680 hq6682 hq6684 hq6686 hq6688 hq6690 ⟨by omega, by omega⟩ k6697)
        obtain ⟨a6698, a6700, a6702, a6704, a6706, a6708, a6710, a6712, a6714, a6716, w6718, w6721, w6722, w6723, hO, hq6699, hq6701, hq6703, hq6705, hq6707, hq6709, hq6711, hq6713, hq6715, hq6717, ⟨k6719, k6720⟩, k6724⟩ := op_6 hI hp1 List.not_mem_nil
        have hI := th_I.weak (a := p1) hI
        obtain rfl := eaU_q k6724.1 e3c
        refine th_get hx hb hts inT6 hown hK hO rfl 2 (by decide) (hts _ (tb_c wd_60)) rfl rfl dX6_copyFrom_67 ?_
        have hI := th_I.close hI hp1 hO (ok_6 hq6699 hq6701 hq6703 hq6705 hq6707 hq6709 hq6711 hq6713 hq6715 hq6717 ⟨by omega, by omega⟩ k6724)
        refine th_cVv (As := [.ref a6702]) (rest := []) (n := 1) (d := 1) ⟨hx, hb, hml, hown, hts⟩ (c_X4_copyFrom l Ec D G a6675 8 hq6676 a6702 hq6703) wd_1207 wd_1208 wd_1209 wd_3 wd_1210 (by decide +kernel) ⟨by rw [hR]; exact Nat.le_of_ble_eq_true rfl, by rw [hR]; exact Nat.le_of_ble_eq_true rfl⟩ hI hN hK hS (rc_4 hI hq6676 List.not_mem_nil) rfl rfl hl.1 rfl (Nat.le_of_ble_eq_true rfl) dX6_copyFrom_70 ⟨Nat.zero_le _, Nat.zero_le _⟩ (fun H locs hI hS => ?_)
        refine lv_aload_n hx hb dX6_copyFrom_73 rfl (lv_at hl 1 rfl) ?_
        obtain ⟨a6726, a6728, a6730, a6732, a6734, a6736, a6738, a6740, a6742, a6744, w6746, w6749, w6750, w6751, hO, hq6727, hq6729, hq6731, hq6733, hq6735, hq6737, hq6739, hq6741, hq6743, hq6745, ⟨k6747, k6748⟩, k6752⟩ := op_6 hI hG0 List.not_mem_nil
        have hI := th_I.weak (a := h0) hI
        obtain rfl := eaU_q k6752.1 e2c
        refine th_get hx hb hts inT6 hown hK hO rfl 3 (by decide) (hts _ (tb_c wd_63)) rfl rfl dX6_copyFrom_74 ?_
        refine lv_aload_n hx hb dX6_copyFrom_77 rfl (lv_at hl 2 rfl) ?_
        have hI := th_I.close hI hG0 hO (ok_6 hq6727 hq6729 hq6731 hq6733 hq6735 hq6737 hq6739 hq6741 hq6743 hq6745 ⟨by omega, by omega⟩ k6752)
        obtain ⟨a6753, a6755, a6757, a6759, a6761, a6763, a6765, a6767, a6769, a6771, w6773, w6776, w6777, w6778, hO, hq6754, hq6756, hq6758, hq6760, hq6762, hq6764, hq6766, hq6768, hq6770, hq6772, ⟨k6774, k6775⟩, k6779⟩ := op_6 hI hp1 List.not_mem_nil
        have hI := th_I.weak (a := p1) hI
        obtain rfl := eaU_q k6779.1 e3c
        refine th_get hx hb hts inT6 hown hK hO rfl 3 (by decide) (hts _ (tb_c wd_63)) rfl rfl dX6_copyFrom_78 ?_
        have hI := th_I.close hI hp1 hO (ok_6 hq6754 hq6756 hq6758 hq6760 hq6762 hq6764 hq6766 hq6768 hq6770 hq6772 ⟨by omega, by omega⟩ k6779)
        refine th_cVv (As := [.ref a6759]) (rest := []) (n := 1) (d := 1) ⟨hx, hb, hml, hown, hts⟩ (c_X4_copyFrom l Ec D G a6732 6 hq6733 a6759 hq6760) wd_1207 wd_1208 wd_1209 wd_3 wd_1210 (by decide +kernel) ⟨by rw [hR]; exact Nat.le_of_ble_eq_true rfl, by rw [hR]; exact Nat.le_of_ble_eq_true rfl⟩ hI hN hK hS (rc_4 hI hq6733 List.not_mem_nil) rfl rfl hl.1 rfl (Nat.le_of_ble_eq_true rfl) dX6_copyFrom_81 ⟨Nat.zero_le _, Nat.zero_le _⟩ (fun H locs hI hS => ?_)
        refine lv_aload_n hx hb dX6_copyFrom_84 rfl (lv_at hl 1 rfl) ?_
        obtain ⟨a6781, a6783, a6785, a6787, a6789, a6791, a6793, a6795, a6797, a6799, w6801, w6804, w6805, w6806, hO, hq6782, hq6784, hq6786, hq6788, hq6790, hq6792, hq6794, hq6796, hq6798, hq6800, ⟨k6802, k6803⟩, k6807⟩ := op_6 hI hG0 List.not_mem_nil
        have hI := th_I.weak (a := h0) hI
        obtain rfl := eaU_q k6807.1 e2c
        refine th_get hx hb hts inT6 hown hK hO rfl 4 (by decide) (hts _ (tb_c wd_66)) rfl rfl dX6_copyFrom_85 ?_
        refine lv_aload_n hx hb dX6_copyFrom_88 rfl (lv_at hl 2 rfl) ?_
        have hI := th_I.close hI hG0 hO (ok_6 hq6782 hq6784 hq6786 hq6788 hq6790 hq6792 hq6794 hq6796 hq6798 hq6800 ⟨by omega, by omega⟩ k6807)
        obtain ⟨a6808, a6810, a6812, a6814, a6816, a6818, a6820, a6822, a6824, a6826, w6828, w6831, w6832, w6833, hO, hq6809, hq6811, hq6813, hq6815, hq6817, hq6819, hq6821, hq6823, hq6825, hq6827, ⟨k6829, k6830⟩, k6834⟩ := op_6 hI hp1 List.not_mem_nil
        have hI := th_I.weak (a := p1) hI
        obtain rfl := eaU_q k6834.1 e3c
        refine th_get hx hb hts inT6 hown hK hO rfl 4 (by decide) (hts _ (tb_c wd_66)) rfl rfl dX6_copyFrom_89 ?_
        have hI := th_I.close hI hp1 hO (ok_6 hq6809 hq6811 hq6813 hq6815 hq6817 hq6819 hq6821 hq6823 hq6825 hq6827 ⟨by omega, by omega⟩ k6834)
        refine th_cVv (As := [.ref a6816]) (rest := []) (n := 1) (d := 1) ⟨hx, hb, hml, hown, hts⟩ (c_X4_copyFrom l Ec D G a6789 6 hq6790 a6816 hq6817) wd_1207 wd_1208 wd_1209 wd_3 wd_1210 (by decide +kernel) ⟨by rw [hR]; exact Nat.le_of_ble_eq_true rfl, by rw [hR]; exact Nat.le_of_ble_eq_true rfl⟩ hI hN hK hS (rc_4 hI hq6790 List.not_mem_nil) rfl rfl hl.1 rfl (Nat.le_of_ble_eq_true rfl) dX6_copyFrom_92 ⟨Nat.zero_le _, Nat.zero_le _⟩ (fun H locs hI hS => ?_)
        refine lv_aload_n hx hb dX6_copyFrom_95 rfl (lv_at hl 1 rfl) ?_
        obtain ⟨a6836, a6838, a6840, a6842, a6844, a6846, a6848, a6850, a6852, a6854, w6856, w6859, w6860, w6861, hO, hq6837, hq6839, hq6841, hq6843, hq6845, hq6847, hq6849, hq6851, hq6853, hq6855, ⟨k6857, k6858⟩, k6862⟩ := op_6 hI hG0 List.not_mem_nil
        have hI := th_I.weak (a := h0) hI
        obtain rfl := eaU_q k6862.1 e2c
        refine th_get hx hb hts inT6 hown hK hO rfl 5 (by decide) (hts _ (tb_c wd_69)) rfl rfl dX6_copyFrom_96 ?_
        refine lv_aload_n hx hb dX6_copyFrom_99 rfl (lv_at hl 2 rfl) ?_
        have hI := th_I.close hI hG0 hO (ok_6 hq6837 hq6839 hq6841 hq6843 hq6845 hq6847 hq6849 hq6851 hq6853 hq6855 ⟨by omega, by omega⟩ k6862)
        obtain ⟨a6863, a6865, a6867, a6869, a6871, a6873, a6875, a6877, a6879, a6881, w6883, w6886, w6887, w6888, hO, hq6864, hq6866, hq6868, hq6870, hq6872, hq6874, hq6876, hq6878, hq6880, hq6882, ⟨k6884, k6885⟩, k6889⟩ := op_6 hI hp1 List.not_mem_nil
        have hI := th_I.weak (a := p1) hI
        obtain rfl := eaU_q k6889.1 e3c
        refine th_get hx hb hts inT6 hown hK hO rfl 5 (by decide) (hts _ (tb_c wd_69)) rfl rfl dX6_copyFrom_100 ?_
        have hI := th_I.close hI hp1 hO (ok_6 hq6864 hq6866 hq6868 hq6870 hq6872 hq6874 hq6876 hq6878 hq6880 hq6882 ⟨by omega, by omega⟩ k6889)
        refine th_cVv (As := [.ref a6873]) (rest := []) (n := 1) (d := 1) ⟨hx, hb, hml, hown, hts⟩ (c_X4_copyFrom l Ec D G a6846 16 hq6847 a6873 hq6874) wd_1207 wd_1208 wd_1209 wd_3 wd_1210 (by decide +kernel) ⟨by rw [hR]; exact Nat.le_of_ble_eq_true rfl, by rw [hR]; exact Nat.le_of_ble_eq_true rfl⟩ hI hN hK hS (rc_4 hI hq6847 List.not_mem_nil) rfl rfl hl.1 rfl (Nat.le_of_ble_eq_true rfl) dX6_copyFrom_103 ⟨Nat.zero_le _, Nat.zero_le _⟩ (fun H locs hI hS => ?_)
        refine lv_aload_n hx hb dX6_copyFrom_106 rfl (lv_at hl 1 rfl) ?_
        obtain ⟨a6891, a6893, a6895, a6897, a6899, a6901, a6903, a6905, a6907, a6909, w6911, w6914, w6915, w6916, hO, hq6892, hq6894, hq6896, hq6898, hq6900, hq6902, hq6904, hq6906, hq6908, hq6910, ⟨k6912, k6913⟩, k6917⟩ := op_6 hI hG0 List.not_mem_nil
        have hI := th_I.weak (a := h0) hI
        obtain rfl := eaU_q k6917.1 e2c
        refine th_get hx hb hts inT6 hown hK hO rfl 6 (by decide) (hts _ (tb_c wd_72)) rfl rfl dX6_copyFrom_107 ?_
        refine lv_aload_n hx hb dX6_copyFrom_110 rfl (lv_at hl 2 rfl) ?_
        have hI := th_I.close hI hG0 hO (ok_6 hq6892 hq6894 hq6896 hq6898 hq6900 hq6902 hq6904 hq6906 hq6908 hq6910 ⟨by omega, by omega⟩ k6917)
        obtain ⟨a6918, a6920, a6922, a6924, a6926, a6928, a6930, a6932, a6934, a6936, w6938, w6941, w6942, w6943, hO, hq6919, hq6921, hq6923, hq6925, hq6927, hq6929, hq6931, hq6933, hq6935, hq6937, ⟨k6939, k6940⟩, k6944⟩ := op_6 hI hp1 List.not_mem_nil
        have hI := th_I.weak (a := p1) hI
        obtain rfl := eaU_q k6944.1 e3c
        refine th_get hx hb hts inT6 hown hK hO rfl 6 (by decide) (hts _ (tb_c wd_72)) rfl rfl dX6_copyFrom_111 ?_
        have hI := th_I.close hI hp1 hO (ok_6 hq6919 hq6921 hq6923 hq6925 hq6927 hq6929 hq6931 hq6933 hq6935 hq6937 ⟨by omega, by omega⟩ k6944)
        refine th_cVv (As := [.ref a6930]) (rest := []) (n := 1) (d := 1) ⟨hx, hb, hml, hown, hts⟩ (c_X4_copyFrom l Ec D G a6903 10 hq6904 a6930 hq6931) wd_1207 wd_1208 wd_1209 wd_3 wd_1210 (by decide +kernel) ⟨by rw [hR]; exact Nat.le_of_ble_eq_true rfl, by rw [hR]; exact Nat.le_of_ble_eq_true rfl⟩ hI hN hK hS (rc_4 hI hq6904 List.not_mem_nil) rfl rfl hl.1 rfl (Nat.le_of_ble_eq_true rfl) dX6_copyFrom_114 ⟨Nat.zero_le _, Nat.zero_le _⟩ (fun H locs hI hS => ?_)
        refine lv_aload_n hx hb dX6_copyFrom_117 rfl (lv_at hl 1 rfl) ?_
        obtain ⟨a6946, a6948, a6950, a6952, a6954, a6956, a6958, a6960, a6962, a6964, w6966, w6969, w6970, w6971, hO, hq6947, hq6949, hq6951, hq6953, hq6955, hq6957, hq6959, hq6961, hq6963, hq6965, ⟨k6967, k6968⟩, k6972⟩ := op_6 hI hG0 List.not_mem_nil
        have hI := th_I.weak (a := h0) hI
        obtain rfl := eaU_q k6972.1 e2c
        refine th_get hx hb hts inT6 hown hK hO rfl 7 (by decide) (hts _ (tb_c wd_75)) rfl rfl dX6_copyFrom_118 ?_
        refine lv_aload_n hx hb dX6_copyFrom_121 rfl (lv_at hl 2 rfl) ?_
        have hI := th_I.close hI hG0 hO (ok_6 hq6947 hq6949 hq6951 hq6953 hq6955 hq6957 hq6959 hq6961 hq6963 hq6965 ⟨by omega, by omega⟩ k6972)
        obtain ⟨a6973, a6975, a6977, a6979, a6981, a6983, a6985, a6987, a6989, a6991, w6993, w6996, w6997, w6998, hO, hq6974, hq6976, hq6978, hq6980, hq6982, hq6984, hq6986, hq6988, hq6990, hq6992, ⟨k6994, k6995⟩, k6999⟩ := op_6 hI hp1 List.not_mem_nil
        have hI := th_I.weak (a := p1) hI
        obtain rfl := eaU_q k6999.1 e3c
        refine th_get hx hb hts inT6 hown hK hO rfl 7 (by decide) (hts _ (tb_c wd_75)) rfl rfl dX6_copyFrom_122 ?_
        have hI := th_I.close hI hp1 hO (ok_6 hq6974 hq6976 hq6978 hq6980 hq6982 hq6984 hq6986 hq6988 hq6990 hq6992 ⟨by omega, by omega⟩ k6999)
        refine th_cVv (As := [.ref a6987]) (rest := []) (n := 1) (d := 1) ⟨hx, hb, hml, hown, hts⟩ (c_X4_copyFrom l Ec D G a6960 6 hq6961 a6987 hq6988) wd_1207 wd_1208 wd_1209 wd_3 wd_1210 (by decide +kernel) ⟨by rw [hR]; exact Nat.le_of_ble_eq_true rfl, by rw [hR]; exact Nat.le_of_ble_eq_true rfl⟩ hI hN hK hS (rc_4 hI hq6961 List.not_mem_nil) rfl rfl hl.1 rfl (Nat.le_of_ble_eq_true rfl) dX6_copyFrom_125 ⟨Nat.zero_le _, Nat.zero_le _⟩ (fun H locs hI hS => ?_)
        refine lv_aload_n hx hb dX6_copyFrom_128 rfl (lv_at hl 1 rfl) ?_
        obtain ⟨a7001, a7003, a7005, a7007, a7009, a7011, a7013, a7015, a7017, a7019, w7021, w7024, w7025, w7026, hO, hq7002, hq7004, hq7006, hq7008, hq7010, hq7012, hq7014, hq7016, hq7018, hq7020, ⟨k7022, k7023⟩, k7027⟩ := op_6 hI hG0 List.not_mem_nil
        have hI := th_I.weak (a := h0) hI
        obtain rfl := eaU_q k7027.1 e2c
        refine th_get hx hb hts inT6 hown hK hO rfl 8 (by decide) (hts _ (tb_c wd_78)) rfl rfl dX6_copyFrom_129 ?_
        refine lv_aload_n hx hb dX6_copyFrom_132 rfl (lv_at hl 2 rfl) ?_
        have hI := th_I.close hI hG0 hO (ok_6 hq7002 hq7004 hq7006 hq7008 hq7010 hq7012 hq7014 hq7016 hq7018 hq7020 ⟨by omega, by omega⟩ k7027)
        obtain ⟨a7028, a7030, a7032, a7034, a7036, a7038, a7040, a7042, a7044, a7046, w7048, w7051, w7052, w7053, hO, hq7029, hq7031, hq7033, hq7035, hq7037, hq7039, hq7041, hq7043, hq7045, hq7047, ⟨k7049, k7050⟩, k7054⟩ := op_6 hI hp1 List.not_mem_nil
        have hI := th_I.weak (a := p1) hI
        obtain rfl := eaU_q k7054.1 e3c
        refine th_get hx hb hts inT6 hown hK hO rfl 8 (by decide) (hts _ (tb_c wd_78)) rfl rfl dX6_copyFrom_133 ?_
        have hI := th_I.close hI hp1 hO (ok_6 hq7029 hq7031 hq7033 hq7035 hq7037 hq7039 hq7041 hq7043 hq7045 hq7047 ⟨by omega, by omega⟩ k7054)
        refine th_cVv (As := [.ref a7044]) (rest := []) (n := 1) (d := 1) ⟨hx, hb, hml, hown, hts⟩ (c_X4_copyFrom l Ec D G a7017 6 hq7018 a7044 hq7045) wd_1207 wd_1208 wd_1209 wd_3 wd_1210 (by decide +kernel) ⟨by rw [hR]; exact Nat.le_of_ble_eq_true rfl, by rw [hR]; exact Nat.le_of_ble_eq_true rfl⟩ hI hN hK hS (rc_4 hI hq7018 List.not_mem_nil) rfl rfl hl.1 rfl (Nat.le_of_ble_eq_true rfl) dX6_copyFrom_136 ⟨Nat.zero_le _, Nat.zero_le _⟩ (fun H locs hI hS => ?_)
        refine lv_aload_n hx hb dX6_copyFrom_139 rfl (lv_at hl 1 rfl) ?_
        refine lv_aload_n hx hb dX6_copyFrom_140 rfl (lv_at hl 2 rfl) ?_
        obtain ⟨a7056, a7058, a7060, a7062, a7064, a7066, a7068, a7070, a7072, a7074, w7076, w7079, w7080, w7081, hO, hq7057, hq7059, hq7061, hq7063, hq7065, hq7067, hq7069, hq7071, hq7073, hq7075, ⟨k7077, k7078⟩, k7082⟩ := op_6 hI hp1 List.not_mem_nil
        have hI := th_I.weak (a := p1) hI
        obtain rfl := eaU_q k7082.1 e3c
        refine th_get hx hb hts inT6 hown hK hO rfl 10 (by decide) (hts _ (tb_c wd_82)) rfl rfl dX6_copyFrom_141 ?_
        have hI := th_I.close hI hp1 hO (ok_6 hq7057 hq7059 hq7061 hq7063 hq7065 hq7067 hq7069 hq7071 hq7073 hq7075 ⟨by omega, by omega⟩ k7082)
        obtain ⟨a7083, a7085, a7087, a7089, a7091, a7093, a7095, a7097, a7099, a7101, w7103, w7106, w7107, w7108, hO, hq7084, hq7086, hq7088, hq7090, hq7092, hq7094, hq7096, hq7098, hq7100, hq7102, ⟨k7104, k7105⟩, k7109⟩ := op_6 hI hG0 List.not_mem_nil
        have hI := th_I.weak (a := h0) hI
        obtain rfl := eaU_q k7109.1 e2c
        refine th_put (ty := .int) hx hb hts inT6 tyX6 tyX6_ok nmX6 hown hK hO hS ⟨_, hG0⟩ rfl 10 (by decide) (hts _ (tb_c wd_82)) rfl rfl (by decide +kernel) rfl rfl (Nat.le_of_ble_eq_true rfl) dX6_copyFrom_144 (fun H locs hO oq hS => ?_)
        have hI := th_I.moved hI oq
        have hO : va_at D vwCl (h0, .inr (6, [.ref a7083, .ref t, .ref a7087, .ref a7089, .ref a7091, .ref a7093, .ref a7095, .ref a7097, .ref a7099, .ref a7101, .int w7076, .int w7106, .int w7107, .int w7108])) H := hO
        refine lv_aload_n hx hb dX6_copyFrom_147 rfl (lv_at hl 1 rfl) ?_
        refine lv_aload_n hx hb dX6_copyFrom_148 rfl (lv_at hl 2 rfl) ?_
        have hI := th_I.close hI hG0 hO (ok_6 hq7084 hq7086 hq7088 hq7090 hq7092 hq7094 hq7096 hq7098 hq7100 hq7102 ⟨by omega, by omega⟩ k7109)
        obtain ⟨a7110, a7112, a7114, a7116, a7118, a7120, a7122, a7124, a7126, a7128, w7130, w7133, w7134, w7135, hO, hq7111, hq7113, hq7115, hq7117, hq7119, hq7121, hq7123, hq7125, hq7127, hq7129, ⟨k7131, k7132⟩, k7136⟩ := op_6 hI hp1 List.not_mem_nil
        have hI := th_I.weak (a := p1) hI
        obtain rfl := eaU_q k7136.1 e3c
        refine th_get hx hb hts inT6 hown hK hO rfl 11 (by decide) (hts _ (tb_c wd_84)) rfl rfl dX6_copyFrom_149 ?_
        have hI := th_I.close hI hp1 hO (ok_6 hq7111 hq7113 hq7115 hq7117 hq7119 hq7121 hq7123 hq7125 hq7127 hq7129 ⟨by omega, by omega⟩ k7136)
        obtain ⟨a7137, a7139, a7141, a7143, a7145, a7147, a7149, a7151, a7153, a7155, w7157, w7160, w7161, w7162, hO, hq7138, hq7140, hq7142, hq7144, hq7146, hq7148, hq7150, hq7152, hq7154, hq7156, ⟨k7158, k7159⟩, k7163⟩ := op_6 hI hG0 List.not_mem_nil
        have hI := th_I.weak (a := h0) hI
        obtain rfl := eaU_q k7163.1 e2c
        refine th_put (ty := .int) hx hb hts inT6 tyX6 tyX6_ok nmX6 hown hK hO hS ⟨_, hG0⟩ rfl 11 (by decide) (hts _ (tb_c wd_84)) rfl rfl (by decide +kernel) rfl rfl (Nat.le_of_ble_eq_true rfl) dX6_copyFrom_152 (fun H locs hO oq hS => ?_)
        have hI := th_I.moved hI oq
        have hO : va_at D vwCl (h0, .inr (6, [.ref a7137, .ref t, .ref a7141, .ref a7143, .ref a7145, .ref a7147, .ref a7149, .ref a7151, .ref a7153, .ref a7155, .int w7157, .int w7133, .int w7161, .int w7162])) H := hO
        refine lv_aload_n hx hb dX6_copyFrom_155 rfl (lv_at hl 1 rfl) ?_
        refine lv_aload_n hx hb dX6_copyFrom_156 rfl (lv_at hl 2 rfl) ?_
        have hI := th_I.close hI hG0 hO (ok_6 hq7138 hq7140 hq7142 hq7144 hq7146 hq7148 hq7150 hq7152 hq7154 hq7156 ⟨by omega, by omega⟩ k7163)
        obtain ⟨a7164, a7166, a7168, a7170, a7172, a7174, a7176, a7178, a7180, a7182, w7184, w7187, w7188, w7189, hO, hq7165, hq7167, hq7169, hq7171, hq7173, hq7175, hq7177, hq7179, hq7181, hq7183, ⟨k7185, k7186⟩, k7190⟩ := op_6 hI hp1 List.not_mem_nil
        have hI := th_I.weak (a := p1) hI
        obtain rfl := eaU_q k7190.1 e3c
        refine th_get hx hb hts inT6 hown hK hO rfl 12 (by decide) (hts _ (tb_c wd_86)) rfl rfl dX6_copyFrom_157 ?_
        have hI := th_I.close hI hp1 hO (ok_6 hq7165 hq7167 hq7169 hq7171 hq7173 hq7175 hq7177 hq7179 hq7181 hq7183 ⟨by omega, by omega⟩ k7190)
        obtain ⟨a7191, a7193, a7195, a7197, a7199, a7201, a7203, a7205, a7207, a7209, w7211, w7214, w7215, w7216, hO, hq7192, hq7194, hq7196, hq7198, hq7200, hq7202, hq7204, hq7206, hq7208, hq7210, ⟨k7212, k7213⟩, k7217⟩ := op_6 hI hG0 List.not_mem_nil
        have hI := th_I.weak (a := h0) hI
        obtain rfl := eaU_q k7217.1 e2c
        refine th_put (ty := .int) hx hb hts inT6 tyX6 tyX6_ok nmX6 hown hK hO hS ⟨_, hG0⟩ rfl 12 (by decide) (hts _ (tb_c wd_86)) rfl rfl (by decide +kernel) rfl rfl (Nat.le_of_ble_eq_true rfl) dX6_copyFrom_160 (fun H locs hO oq hS => ?_)
        have hI := th_I.moved hI oq
        have hO : va_at D vwCl (h0, .inr (6, [.ref a7191, .ref t, .ref a7195, .ref a7197, .ref a7199, .ref a7201, .ref a7203, .ref a7205, .ref a7207, .ref a7209, .int w7211, .int w7214, .int w7188, .int w7216])) H := hO
        refine lv_aload_n hx hb dX6_copyFrom_163 rfl (lv_at hl 1 rfl) ?_
        refine lv_aload_n hx hb dX6_copyFrom_164 rfl (lv_at hl 2 rfl) ?_
        have hI := th_I.close hI hG0 hO (ok_6 hq7192 hq7194 hq7196 hq7198 hq7200 hq7202 hq7204 hq7206 hq7208 hq7210 ⟨by omega, by omega⟩ k7217)
        obtain ⟨a7218, a7220, a7222, a7224, a7226, a7228, a7230, a7232, a7234, a7236, w7238, w7241, w7242, w7243, hO, hq7219, hq7221, hq7223, hq7225, hq7227, hq7229, hq7231, hq7233, hq7235, hq7237, ⟨k7239, k7240⟩, k7244⟩ := op_6 hI hp1 List.not_mem_nil
        have hI := th_I.weak (a := p1) hI
        obtain rfl := eaU_q k7244.1 e3c
        refine th_get hx hb hts inT6 hown hK hO rfl 13 (by decide) (hts _ (tb_c wd_90)) rfl rfl dX6_copyFrom_165 ?_
        have hI := th_I.close hI hp1 hO (ok_6 hq7219 hq7221 hq7223 hq7225 hq7227 hq7229 hq7231 hq7233 hq7235 hq7237 ⟨by omega, by omega⟩ k7244)
        obtain ⟨a7245, a7247, a7249, a7251, a7253, a7255, a7257, a7259, a7261, a7263, w7265, w7268, w7269, w7270, hO, hq7246, hq7248, hq7250, hq7252, hq7254, hq7256, hq7258, hq7260, hq7262, hq7264, ⟨k7266, k7267⟩, k7271⟩ := op_6 hI hG0 List.not_mem_nil
        have hI := th_I.weak (a := h0) hI
        obtain rfl := eaU_q k7271.1 e2c
        refine th_put (ty := .int) hx hb hts inT6 tyX6 tyX6_ok nmX6 hown hK hO hS ⟨_, hG0⟩ rfl 13 (by decide) (hts _ (tb_c wd_90)) rfl rfl (by decide +kernel) rfl rfl (Nat.le_of_ble_eq_true rfl) dX6_copyFrom_168 (fun H locs hO oq hS => ?_)
        have hI := th_I.moved hI oq
        have hO : va_at D vwCl (h0, .inr (6, [.ref a7245, .ref t, .ref a7249, .ref a7251, .ref a7253, .ref a7255, .ref a7257, .ref a7259, .ref a7261, .ref a7263, .int w7265, .int w7268, .int w7269, .int w7243])) H := hO
        have hI := th_I.close hI hG0 hO (ok_6 hq7246 hq7248 hq7250 hq7252 hq7254 hq7256 hq7258 hq7260 hq7262 hq7264 ⟨by omega, by omega⟩ k7271)
        have hEt : eR E (1100 + 256 * t) (fun j => E (1100 + 256 * u + j)) = Ec := hEc.symm
        rw [← hEt] at hI hK
        rw [hQ]
        exact W.vret hx hb hr (fun t ht hW => ⟨⟨(), rfl, trivial, by rw [ht]; exact hI, hN.warm hW, va_K.moved hW.alike hK⟩, hS.F ht⟩) hS.2.2 dX6_copyFrom_171
      · skip
        have k7272 := iv_nle (X := (6)) (Y := v6667.toInt) (by decide) rfl c6669
        refine lv_aload_n hx hb dX6_copyFrom_44 rfl (lv_at hl 1 rfl) ?_
        obtain ⟨a7273, a7275, a7277, a7279, a7281, a7283, a7285, a7287, a7289, a7291, w7293, w7296, w7297, w7298, hO, hq7274, hq7276, hq7278, hq7280, hq7282, hq7284, hq7286, hq7288, hq7290, hq7292, ⟨k7294, k7295⟩, k7299⟩ := op_6 hI hG0 List.not_mem_nil
        have hI := th_I.weak (a := h0) hI
        obtain rfl := eaU_q k7299.1 e2c
        refine th_get hx hb hts inT6 hown hK hO rfl 9 (by decide) (hts _ (tb_c wd_81)) rfl rfl dX6_copyFrom_45 ?_
        refine lv_iload_n hx hb dX6_copyFrom_48 rfl (lv_at hl 0 rfl) ?_
        refine lv_aload_n hx hb dX6_copyFrom_49 rfl (lv_at hl 2 rfl) ?_
        have hI := th_I.close hI hG0 hO (ok_6 hq7274 hq7276 hq7278 hq7280 hq7282 hq7284 hq7286 hq7288 hq7290 hq7292 ⟨by omega, by omega⟩ k7299)
        obtain ⟨a7300, a7302, a7304, a7306, a7308, a7310, a7312, a7314, a7316, a7318, w7320, w7323, w7324, w7325, hO, hq7301, hq7303, hq7305, hq7307, hq7309, hq7311, hq7313, hq7315, hq7317, hq7319, ⟨k7321, k7322⟩, k7326⟩ := op_6 hI hp1 List.not_mem_nil
        have hI := th_I.weak (a := p1) hI
        obtain rfl := eaU_q k7326.1 e3c
        refine th_get hx hb hts inT6 hown hK hO rfl 9 (by decide) (hts _ (tb_c wd_81)) rfl rfl dX6_copyFrom_50 ?_
        refine lv_iload_n hx hb dX6_copyFrom_53 rfl (lv_at hl 0 rfl) ?_
        obtain ⟨g7328, hA7327, hg7329⟩ := op_2 hI hq7319 (th_ne hp1 hq7319 (show (6 : Nat) ≠ 2 by decide))
        refine va_aldq hx hb hK (th_one hA7327) 0 4 rfl rfl (iv_in (X := v6667.toInt) rfl (by omega) (by omega)) dX6_copyFrom_54 ?_
        obtain ⟨r7330, e7331⟩ : ∃ r, r = g7328 v6667.toNatClampNeg := ⟨_, rfl⟩
        rw [← e7331]
        obtain _ | a7332 := r7330
        · skip
          obtain ⟨_, hA7335, hg7336⟩ := op_2 hI hq7292 (th_ne hp1 hq7292 (show (6 : Nat) ≠ 2 by decide))
          refine th_aastN hx hb hK hA7335 4 rfl hS ⟨_, hq7292⟩ (iv_in (X := v6667.toInt) rfl (by omega) (by omega)) dX6_copyFrom_55 (fun H locs hA7335 oq hS => ?_)
          have hI := th_I.put hI hq7292 hA7335 (ok_2 (th_upN hg7336)) oq
          have hO := hO.kept (oq _ (fun z => th_ne hp1 hq7292 (show (6 : Nat) ≠ 2 by decide) (List.mem_singleton.mpr z.symm)))
          obtain ⟨v7337, e7338⟩ : ∃ y : Int32, y = v6667 + (1) := ⟨_, rfl⟩
          have tv7337 : v7337.toInt = v6667.toInt + (1) := iv_add rfl (by decide) e7338 (by omega) (by omega)
          refine lv_iinc (v := v7337) (lv' := [(2, .int v7337), (0, .ref h0), (1, .ref p1)]) hx hb dX6_copyFrom_56 hl (k := 0) rfl (by rw [e7338]; rfl) (by decide) rfl (fun ls hl => ?_)
          refine lv_goto (tgt := 38) hx hb dX6_copyFrom_59 (by decide) ?_
          have hI := th_I.close hI hp1 hO (ok_6 hq7301 hq7303 hq7305 hq7307 hq7309 hq7311 hq7313 hq7315 hq7317 hq7319 ⟨by omega, by omega⟩ k7326)
          exact ih_38 _ (by omega) H locs ls v7337 Ec rfl (lv_sub hl [0, 1, 2] rfl) ⟨by omega, by omega⟩ (hEc) hI hS
        · skip
          obtain ⟨m7334, hq7333⟩ := hg7329 _ _ (th_cl (X := v6667.toInt) rfl (by omega) (by omega)) e7331.symm
          obtain ⟨_, hA7339, hg7340⟩ := op_2 hI hq7292 (th_ne hp1 hq7292 (show (6 : Nat) ≠ 2 by decide))
          obtain ⟨_, hV7341⟩ := rc_5 hI hq7333 (th_ne hp1 hq7333 (show (6 : Nat) ≠ 5 by decide))
          refine th_aast hx hb hK hA7339 4 rfl hV7341 rfl hS ⟨_, hq7292⟩ (iv_in (X := v6667.toInt) rfl (by omega) (by omega)) dX6_copyFrom_55 (fun H locs hA7339 oq hS => ?_)
          have hI := th_I.put hI hq7292 hA7339 (ok_2 (th_upSL hg7340 hq7333)) oq
          have hO := hO.kept (oq _ (fun z => th_ne hp1 hq7292 (show (6 : Nat) ≠ 2 by decide) (List.mem_singleton.mpr z.symm)))
          obtain ⟨v7342, e7343⟩ : ∃ y : Int32, y = v6667 + (1) := ⟨_, rfl⟩
          have tv7342 : v7342.toInt = v6667.toInt + (1) := iv_add rfl (by decide) e7343 (by omega) (by omega)
          refine lv_iinc (v := v7342) (lv' := [(2, .int v7342), (0, .ref h0), (1, .ref p1)]) hx hb dX6_copyFrom_56 hl (k := 0) rfl (by rw [e7343]; rfl) (by decide) rfl (fun ls hl => ?_)
          refine lv_goto (tgt := 38) hx hb dX6_copyFrom_59 (by decide) ?_
          have hI := th_I.close hI hp1 hO (ok_6 hq7301 hq7303 hq7305 hq7307 hq7309 hq7311 hq7313 hq7315 hq7317 hq7319 ⟨by omega, by omega⟩ k7326)
          exact ih_38 _ (by omega) H locs ls v7342 Ec rfl (lv_sub hl [0, 1, 2] rfl) ⟨by omega, by omega⟩ (hEc) hI hS
  refine lv_aload_n hx hb dX6_copyFrom_0 rfl (lv_at hl 1 rfl) ?_
  obtain ⟨a7344, a7346, a7348, a7350, a7352, a7354, a7356, a7358, a7360, a7362, w7364, w7367, w7368, w7369, hO, hq7345, hq7347, hq7349, hq7351, hq7353, hq7355, hq7357, hq7359, hq7361, hq7363, ⟨k7365, k7366⟩, k7370⟩ := op_6 hI hp1 List.not_mem_nil
  have hI := th_I.weak (a := p1) hI
  obtain rfl := eaU_q k7370.1 e3
  refine th_get hx hb hts inT6 hown hK hO rfl 0 (by decide) (hts _ (tb_c wd_58)) rfl rfl dX6_copyFrom_1 ?_
  refine lv_iconst (v := 0) hx hb dX6_copyFrom_4 (by decide) ?_
  refine lv_aload_n hx hb dX6_copyFrom_5 rfl (lv_at hl 0 rfl) ?_
  have hI := th_I.close hI hp1 hO (ok_6 hq7345 hq7347 hq7349 hq7351 hq7353 hq7355 hq7357 hq7359 hq7361 hq7363 ⟨by omega, by omega⟩ k7370)
  obtain ⟨a7371, a7373, a7375, a7377, a7379, a7381, a7383, a7385, a7387, a7389, w7391, w7394, w7395, w7396, hO, hq7372, hq7374, hq7376, hq7378, hq7380, hq7382, hq7384, hq7386, hq7388, hq7390, ⟨k7392, k7393⟩, k7397⟩ := op_6 hI hG0 List.not_mem_nil
  have hI := th_I.weak (a := h0) hI
  obtain rfl := eaU_q k7397.1 e2
  refine th_get hx hb hts inT6 hown hK hO rfl 0 (by decide) (hts _ (tb_c wd_58)) rfl rfl dX6_copyFrom_6 ?_
  refine lv_iconst (v := 0) hx hb dX6_copyFrom_9 (by decide) ?_
  refine lv_aload_n hx hb dX6_copyFrom_10 rfl (lv_at hl 0 rfl) ?_
  refine th_get hx hb hts inT6 hown hK hO rfl 0 (by decide) (hts _ (tb_c wd_58)) rfl rfl dX6_copyFrom_11 ?_
  obtain ⟨_, hA7398⟩ := op_0 hI hq7372 (th_ne hG0 hq7372 (show (6 : Nat) ≠ 0 by decide))
  refine va_alen hx hb hK (th_one hA7398) 0 0 rfl (v := 10) rfl (show Int32.ofNat 10 = (10 : Int32) from by decide) dX6_copyFrom_14 ?_
  obtain ⟨_, hA7399⟩ := op_0 hI hq7345 (th_ne hG0 hq7345 (show (6 : Nat) ≠ 0 by decide))
  obtain ⟨_, hA7400⟩ := op_0 hI hq7372 (th_ne hG0 hq7372 (show (6 : Nat) ≠ 0 by decide))
  have k7401 : (10 : Int32).toInt = 10 := by decide
  have k7402 : (0 : Int32).toInt = 0 := by decide
  have k7403 : (0 : Int32).toInt = 0 := by decide
  refine th_copyi hx hb (hml.trans hl.1.symm) hown (hts _ (tb_c wd_1206)) (hts _ (tb_c wd_505)) (hts _ (tb_c wd_504)) (hts _ (tb_c wd_14)) hK hA7399 hA7400 0 rfl hS ⟨_, hq7372⟩ (fun z => by have := iv_lt (X := (0)) (Y := 0) (by decide) (by decide) z; omega) (fun z => by have := iv_lt (X := (0)) (Y := 0) (by decide) (by decide) z; omega) (fun z => by have := iv_lt (X := (10)) (Y := 0) (by decide) (by decide) z; omega) (by omega) (by omega) (by rw [hR]; exact Nat.le_of_ble_eq_true rfl) (by rw [hR]; exact Nat.le_of_ble_eq_true rfl) dX6_copyFrom_15 (fun H locs _ hA7400 oq hS => ?_)
  have hI := th_I.put hI hq7372 hA7400 ok_0 oq
  have hO := hO.kept (oq _ (fun z => th_ne hG0 hq7372 (show (6 : Nat) ≠ 0 by decide) (List.mem_singleton.mpr z.symm)))
  refine lv_aload_n hx hb dX6_copyFrom_18 rfl (lv_at hl 1 rfl) ?_
  have hI := th_I.close hI hG0 hO (ok_6 hq7372 hq7374 hq7376 hq7378 hq7380 hq7382 hq7384 hq7386 hq7388 hq7390 ⟨by omega, by omega⟩ k7397)
  obtain ⟨a7404, a7406, a7408, a7410, a7412, a7414, a7416, a7418, a7420, a7422, w7424, w7427, w7428, w7429, hO, hq7405, hq7407, hq7409, hq7411, hq7413, hq7415, hq7417, hq7419, hq7421, hq7423, ⟨k7425, k7426⟩, k7430⟩ := op_6 hI hp1 List.not_mem_nil
  have hI := th_I.weak (a := p1) hI
  obtain rfl := eaU_q k7430.1 e3
  refine th_get hx hb hts inT6 hown hK hO rfl 1 (by decide) (hts _ (tb_c wd_59)) rfl rfl dX6_copyFrom_19 ?_
  refine lv_iconst (v := 0) hx hb dX6_copyFrom_22 (by decide) ?_
  refine lv_aload_n hx hb dX6_copyFrom_23 rfl (lv_at hl 0 rfl) ?_
  have hI := th_I.close hI hp1 hO (ok_6 hq7405 hq7407 hq7409 hq7411 hq7413 hq7415 hq7417 hq7419 hq7421 hq7423 ⟨by omega, by omega⟩ k7430)
  obtain ⟨a7431, a7433, a7435, a7437, a7439, a7441, a7443, a7445, a7447, a7449, w7451, w7454, w7455, w7456, hO, hq7432, hq7434, hq7436, hq7438, hq7440, hq7442, hq7444, hq7446, hq7448, hq7450, ⟨k7452, k7453⟩, k7457⟩ := op_6 hI hG0 List.not_mem_nil
  have hI := th_I.weak (a := h0) hI
  obtain rfl := eaU_q k7457.1 e2
  refine th_get hx hb hts inT6 hown hK hO rfl 1 (by decide) (hts _ (tb_c wd_59)) rfl rfl dX6_copyFrom_24 ?_
  refine lv_iconst (v := 0) hx hb dX6_copyFrom_27 (by decide) ?_
  refine lv_aload_n hx hb dX6_copyFrom_28 rfl (lv_at hl 0 rfl) ?_
  refine th_get hx hb hts inT6 hown hK hO rfl 1 (by decide) (hts _ (tb_c wd_59)) rfl rfl dX6_copyFrom_29 ?_
  obtain ⟨_, hA7458, _⟩ := op_16 hI hq7434 (th_ne hG0 hq7434 (show (6 : Nat) ≠ 16 by decide))
  refine va_alen hx hb hK (th_one hA7458) 0 0 rfl (v := 96) rfl (show Int32.ofNat 96 = (96 : Int32) from by decide) dX6_copyFrom_32 ?_
  have hI := th_I.close hI hG0 hO (ok_6 hq7432 hq7434 hq7436 hq7438 hq7440 hq7442 hq7444 hq7446 hq7448 hq7450 ⟨by omega, by omega⟩ k7457)
  obtain ⟨_, hA7459, hc7461⟩ := op_16 hI hq7407 List.not_mem_nil
  obtain ⟨_, hA7460, hc7462⟩ := op_16 hI hq7434 List.not_mem_nil
  refine th_copyiX hx hb (hml.trans hl.1.symm) hown (hts _ (tb_c wd_1206)) (hts _ (tb_c wd_505)) (hts _ (tb_c wd_504)) (hts _ (tb_c wd_14)) hK hA7459 hA7460 0 rfl hS ⟨_, hq7434⟩ (by decide) (by decide) (by decide) (by decide) (by decide) (by rw [hR]; exact Nat.le_of_ble_eq_true rfl) (by rw [hR]; exact Nat.le_of_ble_eq_true rfl) dX6_copyFrom_33 (fun H locs hA7460 oq hS => ?_)
  obtain ⟨Eu7463, hEu7463⟩ : ∃ x : Nat → Nat, x = eR E (1100 + 256 * t) (fun j => E (1100 + 256 * u + j)) := ⟨_, rfl⟩
  have hI : th_I (okC Eu7463) D G [] H := by rw [hEu7463]; exact ea_putR hI hq7434 hA7460 (s16_copy hc7461) oq
  have hK : va_K D vwCl (th_tys Eu7463) s := by rw [hEu7463, tys_eq (fun j hj => eR_out (by omega))]; exact hK
  refine lv_iconst (v := 0) hx hb dX6_copyFrom_36 (by decide) ?_
  refine lv_istore_n (lv' := [(2, .int 0), (0, .ref h0), (1, .ref p1)]) hx hb dX6_copyFrom_37 rfl hl (by decide) rfl (fun ls hl => ?_)
  have zl : (0 : Int32).toInt = 0 := by decide
  exact J_38 _ H locs ls 0 Eu7463 rfl (lv_sub hl [0, 1, 2] rfl) ⟨by decide, by decide⟩ (hEu7463) hI hS
