theorem wp_88 : Cond.selects RX12 yX12_orders0 yX12_orders0 ∈ TB := tv 88 (by decide +kernel) (by decide +kernel)
theorem wp_89 : Cond.selects RX12 yX12_beginsAt yX12_beginsAt ∈ TB := tv 89 (by decide +kernel) (by decide +kernel)
theorem wd_1237 : (Cond.fieldLink RX12 (23 : Nat) "NineRiverModel" "images" "[I") ∈ TB := tw 1237 (by decide +kernel) (by decide +kernel)
theorem wd_1238 : (Cond.fieldLink RX12 (26 : Nat) "NineRiverModel" "hasImage" "[Z") ∈ TB := tw 1238 (by decide +kernel) (by decide +kernel)
theorem wd_1268 : (Cond.fieldLink RX12 (76 : Nat) "NineRiverModel" "row0" "[I") ∈ TB := tw 1268 (by decide +kernel) (by decide +kernel)
theorem wd_1269 : (Cond.fieldLink RX12 (79 : Nat) "NineRiverModel" "begun" "[I") ∈ TB := tw 1269 (by decide +kernel) (by decide +kernel)
theorem wd_1270 : (Cond.fieldLink RX12 (82 : Nat) "NineRiverModel" "firstRow" "[I") ∈ TB := tw 1270 (by decide +kernel) (by decide +kernel)
theorem wd_1271 : (Cond.fieldLink RX12 (85 : Nat) "NineRiverModel" "firstBegun" "[I") ∈ TB := tw 1271 (by decide +kernel) (by decide +kernel)
theorem wd_1273 : (Cond.fieldLink RX12 (357 : Nat) "NineRiverModel" "doneBy" "I") ∈ TB := tw 1273 (by decide +kernel) (by decide +kernel)
theorem wd_1274 : (Cond.fieldLink RX12 (354 : Nat) "NineRiverModel" "doneMany" "I") ∈ TB := tw 1274 (by decide +kernel) (by decide +kernel)
theorem wd_1276 : (Cond.fieldLink RX12 (94 : Nat) "NineRiverModel" "began" "[I") ∈ TB := tw 1276 (by decide +kernel) (by decide +kernel)
theorem wd_1785 : (Cond.methodLink RX12 (366 : Nat) yX12_orders0) ∈ TB := tw 1785 (by decide +kernel) (by decide +kernel)
theorem wd_1787 : (Jvm.Cond.instanceMethod yX12_orders0) ∈ TB := tw 1787 (by decide +kernel) (by decide +kernel)
theorem wd_1788 : (Cond.code yX12_orders0 cX12_orders0 7 (Option.none : Option Jvm.ClassFile.FieldType)) ∈ TB := tw 1788 (by decide +kernel) (by decide +kernel)
theorem wd_1789 : (Cond.methodLink RX12 (360 : Nat) yX12_isIn) ∈ TB := tw 1789 (by decide +kernel) (by decide +kernel)
theorem wd_1790 : (Jvm.Cond.static yX12_isIn) ∈ TB := tw 1790 (by decide +kernel) (by decide +kernel)
theorem wd_1791 : (Cond.code yX12_isIn cX12_isIn 2 (Option.some Jvm.ClassFile.FieldType.boolean)) ∈ TB := tw 1791 (by decide +kernel) (by decide +kernel)
theorem wd_1792 : (Cond.methodLink RX12 (363 : Nat) yX12_beginsAt) ∈ TB := tw 1792 (by decide +kernel) (by decide +kernel)
theorem wd_1794 : (Jvm.Cond.instanceMethod yX12_beginsAt) ∈ TB := tw 1794 (by decide +kernel) (by decide +kernel)
theorem wd_1795 : (Cond.code yX12_beginsAt cX12_beginsAt 7 (Option.some Jvm.ClassFile.FieldType.int)) ∈ TB := tw 1795 (by decide +kernel) (by decide +kernel)
theorem dX12_image_0g : (decode cX12_image 0 = .ok (.iload_n 1, 1)) ∧ (decode cX12_image 1 = .ok (.iconst 0, 1)) ∧ (decode cX12_image 2 = .ok (.iconst 1, 1)) ∧ (decode cX12_image 3 = .ok (.invokestatic 103, 3)) ∧ (decode cX12_image 6 = .ok (.ifCond .ne 9, 3)) ∧ (decode cX12_image 9 = .ok (.aload_n 0, 1)) ∧ (decode cX12_image 10 = .ok (.iconst (-1), 1)) ∧ (decode cX12_image 11 = .ok (.invokevirtual 107, 3)) ∧ (decode cX12_image 14 = .ok (.ireturn, 1)) ∧ (decode cX12_image 15 = .ok (.iconst 0, 1)) := by decide +kernel
theorem dX12_image_0 : decode cX12_image 0 = .ok (.iload_n 1, 1) := dX12_image_0g.1
theorem dX12_image_1 : decode cX12_image 1 = .ok (.iconst 0, 1) := dX12_image_0g.2.1
theorem dX12_image_2 : decode cX12_image 2 = .ok (.iconst 1, 1) := dX12_image_0g.2.2.1
theorem dX12_image_3 : decode cX12_image 3 = .ok (.invokestatic 103, 3) := dX12_image_0g.2.2.2.1
theorem dX12_image_6 : decode cX12_image 6 = .ok (.ifCond .ne 9, 3) := dX12_image_0g.2.2.2.2.1
theorem dX12_image_9 : decode cX12_image 9 = .ok (.aload_n 0, 1) := dX12_image_0g.2.2.2.2.2.1
theorem dX12_image_10 : decode cX12_image 10 = .ok (.iconst (-1), 1) := dX12_image_0g.2.2.2.2.2.2.1
theorem dX12_image_11 : decode cX12_image 11 = .ok (.invokevirtual 107, 3) := dX12_image_0g.2.2.2.2.2.2.2.1
theorem dX12_image_14 : decode cX12_image 14 = .ok (.ireturn, 1) := dX12_image_0g.2.2.2.2.2.2.2.2.1
theorem dX12_image_15 : decode cX12_image 15 = .ok (.iconst 0, 1) := dX12_image_0g.2.2.2.2.2.2.2.2.2
theorem dX12_image_16g : (decode cX12_image 16 = .ok (.istore_n 2, 1)) ∧ (decode cX12_image 17 = .ok (.iload_n 2, 1)) ∧ (decode cX12_image 18 = .ok (.sipush 5123, 3)) ∧ (decode cX12_image 21 = .ok (.if_icmp .ge 27, 3)) ∧ (decode cX12_image 24 = .ok (.aload_n 0, 1)) ∧ (decode cX12_image 25 = .ok (.getfield 23, 3)) ∧ (decode cX12_image 28 = .ok (.sipush 5123, 3)) ∧ (decode cX12_image 31 = .ok (.iload_n 1, 1)) ∧ (decode cX12_image 32 = .ok (.imul, 1)) ∧ (decode cX12_image 33 = .ok (.iload_n 2, 1)) := by decide +kernel
theorem dX12_image_16 : decode cX12_image 16 = .ok (.istore_n 2, 1) := dX12_image_16g.1
theorem dX12_image_17 : decode cX12_image 17 = .ok (.iload_n 2, 1) := dX12_image_16g.2.1
theorem dX12_image_18 : decode cX12_image 18 = .ok (.sipush 5123, 3) := dX12_image_16g.2.2.1
theorem dX12_image_21 : decode cX12_image 21 = .ok (.if_icmp .ge 27, 3) := dX12_image_16g.2.2.2.1
theorem dX12_image_24 : decode cX12_image 24 = .ok (.aload_n 0, 1) := dX12_image_16g.2.2.2.2.1
theorem dX12_image_25 : decode cX12_image 25 = .ok (.getfield 23, 3) := dX12_image_16g.2.2.2.2.2.1
theorem dX12_image_28 : decode cX12_image 28 = .ok (.sipush 5123, 3) := dX12_image_16g.2.2.2.2.2.2.1
theorem dX12_image_31 : decode cX12_image 31 = .ok (.iload_n 1, 1) := dX12_image_16g.2.2.2.2.2.2.2.1
theorem dX12_image_32 : decode cX12_image 32 = .ok (.imul, 1) := dX12_image_16g.2.2.2.2.2.2.2.2.1
theorem dX12_image_33 : decode cX12_image 33 = .ok (.iload_n 2, 1) := dX12_image_16g.2.2.2.2.2.2.2.2.2
theorem dX12_image_34g : (decode cX12_image 34 = .ok (.iadd, 1)) ∧ (decode cX12_image 35 = .ok (.aload_n 0, 1)) ∧ (decode cX12_image 36 = .ok (.getfield 20, 3)) ∧ (decode cX12_image 39 = .ok (.iload_n 2, 1)) ∧ (decode cX12_image 40 = .ok (.iaload, 1)) ∧ (decode cX12_image 41 = .ok (.iastore, 1)) ∧ (decode cX12_image 42 = .ok (.iinc 2 1, 3)) ∧ (decode cX12_image 45 = .ok (.goto (-28), 3)) ∧ (decode cX12_image 48 = .ok (.aload_n 0, 1)) ∧ (decode cX12_image 49 = .ok (.getfield 26, 3)) := by decide +kernel
theorem dX12_image_34 : decode cX12_image 34 = .ok (.iadd, 1) := dX12_image_34g.1
theorem dX12_image_35 : decode cX12_image 35 = .ok (.aload_n 0, 1) := dX12_image_34g.2.1
theorem dX12_image_36 : decode cX12_image 36 = .ok (.getfield 20, 3) := dX12_image_34g.2.2.1
theorem dX12_image_39 : decode cX12_image 39 = .ok (.iload_n 2, 1) := dX12_image_34g.2.2.2.1
theorem dX12_image_40 : decode cX12_image 40 = .ok (.iaload, 1) := dX12_image_34g.2.2.2.2.1
theorem dX12_image_41 : decode cX12_image 41 = .ok (.iastore, 1) := dX12_image_34g.2.2.2.2.2.1
theorem dX12_image_42 : decode cX12_image 42 = .ok (.iinc 2 1, 3) := dX12_image_34g.2.2.2.2.2.2.1
theorem dX12_image_45 : decode cX12_image 45 = .ok (.goto (-28), 3) := dX12_image_34g.2.2.2.2.2.2.2.1
theorem dX12_image_48 : decode cX12_image 48 = .ok (.aload_n 0, 1) := dX12_image_34g.2.2.2.2.2.2.2.2.1
theorem dX12_image_49 : decode cX12_image 49 = .ok (.getfield 26, 3) := dX12_image_34g.2.2.2.2.2.2.2.2.2
theorem dX12_image_52g : (decode cX12_image 52 = .ok (.iload_n 1, 1)) ∧ (decode cX12_image 53 = .ok (.iconst 1, 1)) ∧ (decode cX12_image 54 = .ok (.bastore, 1)) ∧ (decode cX12_image 55 = .ok (.aload_n 0, 1)) ∧ (decode cX12_image 56 = .ok (.iconst 0, 1)) ∧ (decode cX12_image 57 = .ok (.invokevirtual 111, 3)) ∧ (decode cX12_image 60 = .ok (.ireturn, 1)) := by decide +kernel
theorem dX12_image_52 : decode cX12_image 52 = .ok (.iload_n 1, 1) := dX12_image_52g.1
theorem dX12_image_53 : decode cX12_image 53 = .ok (.iconst 1, 1) := dX12_image_52g.2.1
theorem dX12_image_54 : decode cX12_image 54 = .ok (.bastore, 1) := dX12_image_52g.2.2.1
theorem dX12_image_55 : decode cX12_image 55 = .ok (.aload_n 0, 1) := dX12_image_52g.2.2.2.1
theorem dX12_image_56 : decode cX12_image 56 = .ok (.iconst 0, 1) := dX12_image_52g.2.2.2.2.1
theorem dX12_image_57 : decode cX12_image 57 = .ok (.invokevirtual 111, 3) := dX12_image_52g.2.2.2.2.2.1
theorem dX12_image_60 : decode cX12_image 60 = .ok (.ireturn, 1) := dX12_image_52g.2.2.2.2.2.2
set_option maxHeartbeats 4000000 in
set_option maxRecDepth 100000 in
theorem c_X12_image (l : Launch) (Eo : Nat → Nat) (D : va_G) (G : th_G) (h0 : Nat) (hG0 : G h0 = some (10, 0)) (x1 : Int32) (hU2 : UQ G 2) (hU11 : UQ G 11) : Met l yX12_image (tb (.code yX12_image cX12_image 3 (some .int))) (rm 1) (va_Pc [.ref h0, .int x1] (PX Eo D G (fun H => True))) (QXi (mI Eo x1) D G (fun r H => ((r : Int32) = -1 ∧ ¬ rg x1 0 1) ∨ ((r : Int32) = 0 ∧ rg x1 0 1))) 0 0 (th_A G) := by
  refine Met.ofW (cc := cX12_image) (maxL := 3) (ret := (some .int)) (by decide) rfl ?_
  intro p e s m args below meth c s₁ B hml hv
  obtain ⟨hav, ⟨hI, hN, hK⟩, hX⟩ := hv
  have hx := B.exec
  have hb := B.bytes
  have hr := B.returns
  have hts := atoms_spec (ws := tb (.code yX12_image cX12_image 3 (some .int))) B.pre
  have hown : s.vm.findClass RX12 = some m.cls := findClass_of_methodNamed B.named
  have hlocks := B.notSynchronized
  have hS : va_S (th_A G) s.heap s.heap [] := va_S.rf
  have hl := lv_entry ([.ref h0, .int x1]) (n := 3) (Nat.le_of_ble_eq_true rfl)
  rw [show entryFrame m args 3 = entryFrame m ([.ref h0, .int x1] : List Value).toArray 3 from by rw [hav], lg_entry_eq]
  generalize (lg_sl ([.ref h0, .int x1]) ++ List.replicate (3 - (lg_sl ([.ref h0, .int x1])).length) Slot.unset).toArray = ls at hl ⊢
  obtain ⟨E, hEe⟩ : ∃ x : Nat → Nat, x = mI Eo x1 := ⟨_, rfl⟩
  have hl : lv_has ls 3 [(0, .ref h0), (1, .int x1)] := hl
  generalize hR : (headSpec (tb (.code yX12_image cX12_image 3 (some .int))) (rm 1)).room = R
  have hR := hR.symm
  generalize hQ : MQ below (QXi (mI Eo x1) D G (fun r H => ((r : Int32) = -1 ∧ ¬ rg x1 0 1) ∨ ((r : Int32) = 0 ∧ rg x1 0 1))) args s 0 0 (th_A G) = QF
  have hQ := hQ.symm
  have J_17 : ∀ (nn : Nat) (H : Heap) (locs : List Loc) (ls : Array Slot) (v960 : Int32) (qr : Nat) (gg : Nat → Int32) (ff : Nat → Int32) (FF : Nat → Int32) (kk : Nat) (ii : Nat), (Int.toNat (5123 - v960.toInt) = nn) → lv_has ls 3 [(2, .int v960), (0, .ref h0), (1, .int x1)] → ((0 : Int) ≤ v960.toInt ∧ v960.toInt ≤ 5123) → ((0 : Int) ≤ x1.toInt ∧ x1.toInt ≤ 1) → ga Eo D G h0 3 (1, 5123) ff H → (G qr = some (2, 10246)) → (fr D h0 4 qr H) → (va_at D vwCl (qr, .inl (Eo 0, 10246, .inl FF)) H) → (iOk (Eo 11) (Eo 12) gg) → (kOk (Eo 10) ff) → ((kk : Int) = x1.toInt) → (v960.toInt = (ii : Int)) → (II gg ff FF kk ii) → th_I (okM Eo) D G [qr] H → va_S (th_A G) s.heap H locs → W p l e R s m args below meth c H locs 0 0 QF (F0 m 17 ls []) := by
    intro nn
    induction nn using Nat.strongRecOn with
    | ind nn ih_17 =>
      intro H locs ls v960 qr gg ff FF kk ii hm hl k961 k962 hga_3 hqr hfr hAr hgi hkf hkk hii hII hI hS
      obtain ⟨a963, hf964, hq965, hA966⟩ := hga_3
      refine lv_iload_n hx hb dX12_image_17 rfl (lv_at hl 0 rfl) ?_
      refine lv_sipush (v := 5123) hx hb dX12_image_18 (by decide) ?_
      refine lv_icmp_ge (tgt := 48) hx hb dX12_image_21 (by decide) (fun c967 => ?_) (fun c967 => ?_)
      · skip
        have k968 := iv_le (X := (5123)) (Y := v960.toInt) (by decide) rfl c967
        obtain rfl : ii = 5123 := by omega
        obtain ⟨Em, hEm⟩ : ∃ x : Nat → Nat, x = eu Eo (11 + kk) (Eo 10) := ⟨_, rfl⟩
        have hI : th_I (okM Em) D G [] H := by rw [hEm]; exact em_close hI hqr hU2 (fun _ _ _ => okM_e11 (by omega)) hAr (ok_m2T (by omega) (II.done hII (by omega) hgi hkf))
        have hK : va_K D vwCl (th_tys Em) s := by rw [hEm, tys_eu (by omega)]; exact hK
        refine lv_aload_n hx hb dX12_image_48 rfl (lv_at hl 1 rfl) ?_
        refine gmA hx hb hts inT12 hown hK hI List.not_mem_nil hG0 5 (by decide) (hts _ (tb_c wd_1238)) rfl rfl dX12_image_49 (fun a969 hq970 hf971 => ?_)
        refine lv_iload_n hx hb dX12_image_52 rfl (lv_at hl 2 rfl) ?_
        refine lv_iconst (v := 1) hx hb dX12_image_53 (by decide) ?_
        obtain ⟨F972, hA973, hP974⟩ := om_11 hI hq970 List.not_mem_nil
        refine th_zast hx hb hK hA973 2 rfl hS ⟨_, hq970⟩ (iv_in (X := x1.toInt) rfl (by omega) (by omega)) dX12_image_54 (fun H locs hA975 oq hS => ?_)
        have hEq : eu Em (13 + kk) 1 = E := by rw [hEe, hEm]; exact (mI_t (by omega) hkk).symm
        have hI : th_I (okM E) D G [] H := by rw [← hEq]; exact em_put hI hq970 hU11 (fun _ _ _ => okM_e13 (by omega)) hA975 (ok_m11T (by omega) (by omega) (by decide) hP974) oq
        have hK : va_K D vwCl (th_tys E) s := by rw [← hEq, tys_eu (by omega)]; exact hK
        refine lv_aload_n hx hb dX12_image_55 rfl (lv_at hl 1 rfl) ?_
        refine lv_iconst (v := 0) hx hb dX12_image_56 (by decide) ?_
        refine mx_i (As := [.int 0]) (rest := []) (n := 1) (d := 0) ⟨hx, hb, hml, hown, hts⟩ (c_X12_good l E D G h0 hG0 0) wd_1402 wd_1404 wp_41 wd_13 wd_1405 (by decide +kernel) ⟨by rw [hR]; exact Nat.le_of_ble_eq_true rfl, by rw [hR]; exact Nat.le_of_ble_eq_true rfl⟩ hI hN hK hS hG0 (trivial) rfl hl.1 rfl (Nat.le_of_ble_eq_true rfl) dX12_image_57 ⟨Nat.zero_le _, Nat.zero_le _⟩ (fun r976 H locs hI hp hS => ?_)
        obtain rfl := hp.symm
        have hpost : ((0 : Int32) = -1 ∧ ¬ rg x1 0 1) ∨ ((0 : Int32) = 0 ∧ rg x1 0 1) := by first | exact Or.inl ⟨rfl, by simp only [rg]; omega⟩ | exact Or.inr ⟨rfl, by simp only [rg]; omega⟩
        subst hEe
        rw [hQ]
        exact W.iret (v := 0) hx hb hr (fun t ht hW => ⟨⟨0, 0, rfl, rfl, ⟨by rw [ht]; exact hI, hN.warm hW, va_K.moved hW.alike hK⟩, by first | (rw [ht]; exact hpost) | exact hpost⟩, hS.F ht⟩) hS.2.2 dX12_image_60
      · skip
        have k977 := iv_nle (X := (5123)) (Y := v960.toInt) (by decide) rfl c967
        refine lv_aload_n hx hb dX12_image_24 rfl (lv_at hl 1 rfl) ?_
        refine gmA hx hb hts inT12 hown hK hI (m_nin hG0 hqr (by first | decide | (dsimp only; decide))) hG0 4 (by decide) (hts _ (tb_c wd_1237)) rfl rfl dX12_image_25 (fun a978 hq979 hf980 => ?_)
        obtain rfl := fr.uniq (by decide) hfr hf980
        refine lv_sipush (v := 5123) hx hb dX12_image_28 (by decide) ?_
        refine lv_iload_n hx hb dX12_image_31 rfl (lv_at hl 2 rfl) ?_
        refine lv_imul hx hb dX12_image_32 ?_
        refine lv_topi (fun v981 e982 => ?_)
        have tv981 : v981.toInt = (5123) * x1.toInt := iv_mul (by decide) rfl e982 (by omega) (by omega)
        refine lv_iload_n hx hb dX12_image_33 rfl (lv_at hl 0 rfl) ?_
        refine lv_iadd hx hb dX12_image_34 ?_
        refine lv_topi (fun v983 e984 => ?_)
        have tv983 : v983.toInt = v981.toInt + v960.toInt := iv_add rfl rfl e984 (by omega) (by omega)
        refine lv_aload_n hx hb dX12_image_35 rfl (lv_at hl 1 rfl) ?_
        refine gmA hx hb hts inT12 hown hK hI (m_nin hG0 hqr (by first | decide | (dsimp only; decide))) hG0 3 (by decide) (hts _ (tb_c wd_1236)) rfl rfl dX12_image_36 (fun a985 hq986 hf987 => ?_)
        obtain rfl := fr.uniq (by decide) hf964 hf987
        refine lv_iload_n hx hb dX12_image_39 rfl (lv_at hl 0 rfl) ?_
        refine th_iald hx hb hK hA966 0 rfl (iv_in (X := v960.toInt) rfl (by omega) (by omega)) dX12_image_40 (fun v988 e989 => ?_)
        refine th_iast hx hb hK hAr 0 rfl hS ⟨_, hqr⟩ (iv_in (X := v983.toInt) rfl (by omega) (by omega)) dX12_image_41 (fun H locs hA990 oq hS => ?_)
        have hI := th_I.moved hI oq
        have hf964 := fr.arr hG0 hqr (by decide) oq hf964
        have hfr := fr.arr hG0 hqr (by decide) oq hfr
        have hA966 := va_at.kept hA966 (oq _ (m_ne hq965 hqr (by first | decide | (dsimp only; decide))))
        have e991 : v988 = (upd FF (v983 : Int32).toNatClampNeg v988) (v983 : Int32).toNatClampNeg := rd_us
        obtain ⟨v992, e993⟩ : ∃ y : Int32, y = v960 + (1) := ⟨_, rfl⟩
        have tv992 : v992.toInt = v960.toInt + (1) := iv_add rfl (by decide) e993 (by omega) (by omega)
        refine lv_iinc (v := v992) (lv' := [(2, .int v992), (0, .ref h0), (1, .int x1)]) hx hb dX12_image_42 hl (k := 0) rfl (by rw [e993]; rfl) (by decide) rfl (fun ls hl => ?_)
        refine lv_goto (tgt := 17) hx hb dX12_image_45 (by decide) ?_
        exact ih_17 _ (by omega) H locs ls v992 qr gg ff (upd FF (v983 : Int32).toNatClampNeg v988) kk (ii + 1) rfl (lv_sub hl [0, 1, 2] rfl) ⟨by omega, by omega⟩ ⟨by omega, by omega⟩ ⟨a963, hf964, hq965, hA966⟩ (hqr) (hfr) (hA990) (hgi) (hkf) (hkk) (by first | omega | decide) (II.step hII (by omega) e989 (by omega)) hI hS
  refine lv_iload_n hx hb dX12_image_0 rfl (lv_at hl 1 rfl) ?_
  refine lv_iconst (v := 0) hx hb dX12_image_1 (by decide) ?_
  refine lv_iconst (v := 1) hx hb dX12_image_2 (by decide) ?_
  refine th_cSs (As := [.int x1, .int 0, .int 1]) (rest := []) (n := 3) (d := 0) ⟨hx, hb, hml, hown, hts⟩ (c_X12_lies l s.heap x1 0 1) wd_1395 wd_1396 wd_13 wd_1397 (by decide +kernel) ⟨by rw [hR]; exact Nat.le_of_ble_eq_true rfl, by rw [hR]; exact Nat.le_of_ble_eq_true rfl⟩ hN hS rfl hl.1 rfl (Nat.le_of_ble_eq_true rfl) dX12_image_3 ⟨Nat.zero_le _, Nat.zero_le _⟩ (fun r994 locs hp hS => ?_)
  rcases hp with ⟨rfl, hp⟩ | ⟨rfl, hp⟩
  · skip
    try simp only [rg, not_and, Int.not_le] at hp
    have hp995 := hp
    try rw [show (0 : Int32).toInt = 0 from by decide] at hp995
    try rw [show (1 : Int32).toInt = 1 from by decide] at hp995
    refine lv_if_ne (tgt := 15) hx hb dX12_image_6 (by decide) (fun _ => ?_) (fun c => absurd c (by decide))
    refine lv_iconst (v := 0) hx hb dX12_image_15 (by decide) ?_
    refine lv_istore_n (lv' := [(2, .int 0), (0, .ref h0), (1, .int x1)]) hx hb dX12_image_16 rfl hl (by decide) rfl (fun ls hl => ?_)
    obtain ⟨a996, hq997, hf998⟩ := fr_of hI hG0 4 (by decide) (kd := (2, 10246)) rfl
    obtain ⟨F999, hA1000, hP1001⟩ := om_2 hI hq997 List.not_mem_nil
    obtain ⟨a1002, hq1003, hf1004⟩ := fr_of hI hG0 3 (by decide) (kd := (1, 5123)) rfl
    obtain ⟨F1005, hA1006, hP1007⟩ := om_1 hI hq1003 List.not_mem_nil
    have hI := th_I.weak (a := a996) hI
    obtain ⟨kk, hkk⟩ : ∃ kk : Nat, (kk : Int) = x1.toInt := ⟨x1.toInt.toNat, by omega⟩
    have zl : (0 : Int32).toInt = 0 := by decide
    exact J_17 _ s.heap locs ls 0 a996 F999 F1005 F999 kk 0 rfl (lv_sub hl [0, 1, 2] rfl) ⟨by decide, by decide⟩ ⟨by omega, by omega⟩ ⟨a1002, hf1004, hq1003, hA1006⟩ (hq997) (hf998) (hA1000) (hP1001) (hP1007) (hkk) (by first | omega | decide) (II.init) hI hS
  · skip
    try simp only [rg, not_and, Int.not_le] at hp
    have hp1008 := hp
    try rw [show (0 : Int32).toInt = 0 from by decide] at hp1008
    try rw [show (1 : Int32).toInt = 1 from by decide] at hp1008
    refine lv_if_ne (tgt := 15) hx hb dX12_image_6 (by decide) (fun c => absurd c (by decide)) (fun _ => ?_)
    refine lv_aload_n hx hb dX12_image_9 rfl (lv_at hl 0 rfl) ?_
    refine lv_iconst (v := (-1)) hx hb dX12_image_10 (by decide) ?_
    refine mx_i (As := [.int (-1)]) (rest := []) (n := 1) (d := 0) ⟨hx, hb, hml, hown, hts⟩ (c_X12_refuses l Eo D G h0 hG0 (-1) ⟨by decide, by decide⟩) wd_1398 wd_1400 wp_40 wd_13 wd_1401 (by decide +kernel) ⟨by rw [hR]; exact Nat.le_of_ble_eq_true rfl, by rw [hR]; exact Nat.le_of_ble_eq_true rfl⟩ hI hN hK hS hG0 (trivial) rfl hl.1 rfl (Nat.le_of_ble_eq_true rfl) dX12_image_11 ⟨Nat.zero_le _, Nat.zero_le _⟩ (fun r1009 H locs hI hp hS => ?_)
    obtain rfl := hp.symm
    have hEq : mI Eo x1 = Eo := mI_f (by (try simp only [rg]); omega)
    have hI : th_I (okM (mI Eo x1)) D G [] H := by rw [hEq]; exact hI
    have hK : va_K D vwCl (th_tys (mI Eo x1)) s := by rw [hEq]; exact hK
    have hpost : (((-1) : Int32) = -1 ∧ ¬ rg x1 0 1) ∨ (((-1) : Int32) = 0 ∧ rg x1 0 1) := by first | exact Or.inl ⟨rfl, by simp only [rg]; omega⟩ | exact Or.inr ⟨rfl, by simp only [rg]; omega⟩
    rw [hQ]
    exact W.iret (v := (-1)) hx hb hr (fun t ht hW => ⟨⟨(-1), (-1), rfl, rfl, ⟨by rw [ht]; exact hI, hN.warm hW, va_K.moved hW.alike hK⟩, by first | (rw [ht]; exact hpost) | exact hpost⟩, hS.F ht⟩) hS.2.2 dX12_image_14
theorem dX12_back_0g : (decode cX12_back 0 = .ok (.iload_n 1, 1)) ∧ (decode cX12_back 1 = .ok (.iconst 0, 1)) ∧ (decode cX12_back 2 = .ok (.iconst 1, 1)) ∧ (decode cX12_back 3 = .ok (.invokestatic 103, 3)) ∧ (decode cX12_back 6 = .ok (.ifCond .ne 9, 3)) ∧ (decode cX12_back 9 = .ok (.aload_n 0, 1)) ∧ (decode cX12_back 10 = .ok (.iconst (-1), 1)) ∧ (decode cX12_back 11 = .ok (.invokevirtual 107, 3)) ∧ (decode cX12_back 14 = .ok (.ireturn, 1)) ∧ (decode cX12_back 15 = .ok (.aload_n 0, 1)) := by decide +kernel
theorem dX12_back_0 : decode cX12_back 0 = .ok (.iload_n 1, 1) := dX12_back_0g.1
theorem dX12_back_1 : decode cX12_back 1 = .ok (.iconst 0, 1) := dX12_back_0g.2.1
theorem dX12_back_2 : decode cX12_back 2 = .ok (.iconst 1, 1) := dX12_back_0g.2.2.1
theorem dX12_back_3 : decode cX12_back 3 = .ok (.invokestatic 103, 3) := dX12_back_0g.2.2.2.1
theorem dX12_back_6 : decode cX12_back 6 = .ok (.ifCond .ne 9, 3) := dX12_back_0g.2.2.2.2.1
theorem dX12_back_9 : decode cX12_back 9 = .ok (.aload_n 0, 1) := dX12_back_0g.2.2.2.2.2.1
theorem dX12_back_10 : decode cX12_back 10 = .ok (.iconst (-1), 1) := dX12_back_0g.2.2.2.2.2.2.1
theorem dX12_back_11 : decode cX12_back 11 = .ok (.invokevirtual 107, 3) := dX12_back_0g.2.2.2.2.2.2.2.1
theorem dX12_back_14 : decode cX12_back 14 = .ok (.ireturn, 1) := dX12_back_0g.2.2.2.2.2.2.2.2.1
theorem dX12_back_15 : decode cX12_back 15 = .ok (.aload_n 0, 1) := dX12_back_0g.2.2.2.2.2.2.2.2.2
theorem dX12_back_16g : (decode cX12_back 16 = .ok (.getfield 26, 3)) ∧ (decode cX12_back 19 = .ok (.iload_n 1, 1)) ∧ (decode cX12_back 20 = .ok (.baload, 1)) ∧ (decode cX12_back 21 = .ok (.ifCond .ne 10, 3)) ∧ (decode cX12_back 24 = .ok (.aload_n 0, 1)) ∧ (decode cX12_back 25 = .ok (.bipush (-2), 2)) ∧ (decode cX12_back 27 = .ok (.invokevirtual 107, 3)) ∧ (decode cX12_back 30 = .ok (.ireturn, 1)) ∧ (decode cX12_back 31 = .ok (.iconst 0, 1)) ∧ (decode cX12_back 32 = .ok (.istore_n 2, 1)) := by decide +kernel
theorem dX12_back_16 : decode cX12_back 16 = .ok (.getfield 26, 3) := dX12_back_16g.1
theorem dX12_back_19 : decode cX12_back 19 = .ok (.iload_n 1, 1) := dX12_back_16g.2.1
theorem dX12_back_20 : decode cX12_back 20 = .ok (.baload, 1) := dX12_back_16g.2.2.1
theorem dX12_back_21 : decode cX12_back 21 = .ok (.ifCond .ne 10, 3) := dX12_back_16g.2.2.2.1
theorem dX12_back_24 : decode cX12_back 24 = .ok (.aload_n 0, 1) := dX12_back_16g.2.2.2.2.1
theorem dX12_back_25 : decode cX12_back 25 = .ok (.bipush (-2), 2) := dX12_back_16g.2.2.2.2.2.1
theorem dX12_back_27 : decode cX12_back 27 = .ok (.invokevirtual 107, 3) := dX12_back_16g.2.2.2.2.2.2.1
theorem dX12_back_30 : decode cX12_back 30 = .ok (.ireturn, 1) := dX12_back_16g.2.2.2.2.2.2.2.1
theorem dX12_back_31 : decode cX12_back 31 = .ok (.iconst 0, 1) := dX12_back_16g.2.2.2.2.2.2.2.2.1
theorem dX12_back_32 : decode cX12_back 32 = .ok (.istore_n 2, 1) := dX12_back_16g.2.2.2.2.2.2.2.2.2
theorem dX12_back_33g : (decode cX12_back 33 = .ok (.iload_n 2, 1)) ∧ (decode cX12_back 34 = .ok (.sipush 5123, 3)) ∧ (decode cX12_back 37 = .ok (.if_icmp .ge 27, 3)) ∧ (decode cX12_back 40 = .ok (.aload_n 0, 1)) ∧ (decode cX12_back 41 = .ok (.getfield 20, 3)) ∧ (decode cX12_back 44 = .ok (.iload_n 2, 1)) ∧ (decode cX12_back 45 = .ok (.aload_n 0, 1)) ∧ (decode cX12_back 46 = .ok (.getfield 23, 3)) ∧ (decode cX12_back 49 = .ok (.sipush 5123, 3)) ∧ (decode cX12_back 52 = .ok (.iload_n 1, 1)) := by decide +kernel
theorem dX12_back_33 : decode cX12_back 33 = .ok (.iload_n 2, 1) := dX12_back_33g.1
theorem dX12_back_34 : decode cX12_back 34 = .ok (.sipush 5123, 3) := dX12_back_33g.2.1
theorem dX12_back_37 : decode cX12_back 37 = .ok (.if_icmp .ge 27, 3) := dX12_back_33g.2.2.1
theorem dX12_back_40 : decode cX12_back 40 = .ok (.aload_n 0, 1) := dX12_back_33g.2.2.2.1
theorem dX12_back_41 : decode cX12_back 41 = .ok (.getfield 20, 3) := dX12_back_33g.2.2.2.2.1
theorem dX12_back_44 : decode cX12_back 44 = .ok (.iload_n 2, 1) := dX12_back_33g.2.2.2.2.2.1
theorem dX12_back_45 : decode cX12_back 45 = .ok (.aload_n 0, 1) := dX12_back_33g.2.2.2.2.2.2.1
theorem dX12_back_46 : decode cX12_back 46 = .ok (.getfield 23, 3) := dX12_back_33g.2.2.2.2.2.2.2.1
theorem dX12_back_49 : decode cX12_back 49 = .ok (.sipush 5123, 3) := dX12_back_33g.2.2.2.2.2.2.2.2.1
theorem dX12_back_52 : decode cX12_back 52 = .ok (.iload_n 1, 1) := dX12_back_33g.2.2.2.2.2.2.2.2.2
theorem dX12_back_53g : (decode cX12_back 53 = .ok (.imul, 1)) ∧ (decode cX12_back 54 = .ok (.iload_n 2, 1)) ∧ (decode cX12_back 55 = .ok (.iadd, 1)) ∧ (decode cX12_back 56 = .ok (.iaload, 1)) ∧ (decode cX12_back 57 = .ok (.iastore, 1)) ∧ (decode cX12_back 58 = .ok (.iinc 2 1, 3)) ∧ (decode cX12_back 61 = .ok (.goto (-28), 3)) ∧ (decode cX12_back 64 = .ok (.aload_n 0, 1)) ∧ (decode cX12_back 65 = .ok (.iconst 0, 1)) ∧ (decode cX12_back 66 = .ok (.invokevirtual 111, 3)) := by decide +kernel
theorem dX12_back_53 : decode cX12_back 53 = .ok (.imul, 1) := dX12_back_53g.1
theorem dX12_back_54 : decode cX12_back 54 = .ok (.iload_n 2, 1) := dX12_back_53g.2.1
theorem dX12_back_55 : decode cX12_back 55 = .ok (.iadd, 1) := dX12_back_53g.2.2.1
theorem dX12_back_56 : decode cX12_back 56 = .ok (.iaload, 1) := dX12_back_53g.2.2.2.1
theorem dX12_back_57 : decode cX12_back 57 = .ok (.iastore, 1) := dX12_back_53g.2.2.2.2.1
theorem dX12_back_58 : decode cX12_back 58 = .ok (.iinc 2 1, 3) := dX12_back_53g.2.2.2.2.2.1
theorem dX12_back_61 : decode cX12_back 61 = .ok (.goto (-28), 3) := dX12_back_53g.2.2.2.2.2.2.1
theorem dX12_back_64 : decode cX12_back 64 = .ok (.aload_n 0, 1) := dX12_back_53g.2.2.2.2.2.2.2.1
theorem dX12_back_65 : decode cX12_back 65 = .ok (.iconst 0, 1) := dX12_back_53g.2.2.2.2.2.2.2.2.1
theorem dX12_back_66 : decode cX12_back 66 = .ok (.invokevirtual 111, 3) := dX12_back_53g.2.2.2.2.2.2.2.2.2
theorem dX12_back_69 : decode cX12_back 69 = .ok (.ireturn, 1) := by decide +kernel
set_option maxHeartbeats 4000000 in
set_option maxRecDepth 100000 in
theorem c_X12_back (l : Launch) (Eo : Nat → Nat) (D : va_G) (G : th_G) (h0 : Nat) (hG0 : G h0 = some (10, 0)) (x1 : Int32) (hU1 : UQ G 1) : Met l yX12_back (tb (.code yX12_back cX12_back 3 (some .int))) (rm 1) (va_Pc [.ref h0, .int x1] (PX Eo D G (fun H => True))) (QXi (eu Eo 10 (gBm Eo x1)) D G (fun r H => True)) 0 0 (th_A G) := by
  refine Met.ofW (cc := cX12_back) (maxL := 3) (ret := (some .int)) (by decide) rfl ?_
  intro p e s m args below meth c s₁ B hml hv
  obtain ⟨hav, ⟨hI, hN, hK⟩, hX⟩ := hv
  have hx := B.exec
  have hb := B.bytes
  have hr := B.returns
  have hts := atoms_spec (ws := tb (.code yX12_back cX12_back 3 (some .int))) B.pre
  have hown : s.vm.findClass RX12 = some m.cls := findClass_of_methodNamed B.named
  have hlocks := B.notSynchronized
  have hS : va_S (th_A G) s.heap s.heap [] := va_S.rf
  have hl := lv_entry ([.ref h0, .int x1]) (n := 3) (Nat.le_of_ble_eq_true rfl)
  rw [show entryFrame m args 3 = entryFrame m ([.ref h0, .int x1] : List Value).toArray 3 from by rw [hav], lg_entry_eq]
  generalize (lg_sl ([.ref h0, .int x1]) ++ List.replicate (3 - (lg_sl ([.ref h0, .int x1])).length) Slot.unset).toArray = ls at hl ⊢
  obtain ⟨E, hEe⟩ : ∃ x : Nat → Nat, x = eu Eo 10 (gBm Eo x1) := ⟨_, rfl⟩
  have hl : lv_has ls 3 [(0, .ref h0), (1, .int x1)] := hl
  generalize hR : (headSpec (tb (.code yX12_back cX12_back 3 (some .int))) (rm 1)).room = R
  have hR := hR.symm
  generalize hQ : MQ below (QXi (eu Eo 10 (gBm Eo x1)) D G (fun r H => True)) args s 0 0 (th_A G) = QF
  have hQ := hQ.symm
  have J_33 : ∀ (nn : Nat) (H : Heap) (locs : List Loc) (ls : Array Slot) (v1406 : Int32) (qr : Nat) (gg : Nat → Int32) (FF : Nat → Int32) (kk : Nat) (ii : Nat), (Int.toNat (5123 - v1406.toInt) = nn) → lv_has ls 3 [(2, .int v1406), (0, .ref h0), (1, .int x1)] → ((0 : Int) ≤ v1406.toInt ∧ v1406.toInt ≤ 5123) → ((0 : Int) ≤ x1.toInt ∧ x1.toInt ≤ 1) → ga Eo D G h0 4 (2, 10246) gg H → (G qr = some (1, 5123)) → (fr D h0 3 qr H) → (va_at D vwCl (qr, .inl (Eo 0, 5123, .inl FF)) H) → (iOk (Eo 11) (Eo 12) gg) → ((kk : Int) = x1.toInt) → (v1406.toInt = (ii : Int)) → (BI gg FF kk ii) → (((x1.toInt = 0 ∧ Eo 13 ≠ 0) ∨ (x1.toInt = 1 ∧ Eo 14 ≠ 0))) → th_I (okM Eo) D G [qr] H → va_S (th_A G) s.heap H locs → W p l e R s m args below meth c H locs 0 0 QF (F0 m 33 ls []) := by
    intro nn
    induction nn using Nat.strongRecOn with
    | ind nn ih_33 =>
      intro H locs ls v1406 qr gg FF kk ii hm hl k1407 k1408 hga_4 hqr hfr hAr hgi hkk hii hBI hHI hI hS
      obtain ⟨a1409, hf1410, hq1411, hA1412⟩ := hga_4
      refine lv_iload_n hx hb dX12_back_33 rfl (lv_at hl 0 rfl) ?_
      refine lv_sipush (v := 5123) hx hb dX12_back_34 (by decide) ?_
      refine lv_icmp_ge (tgt := 64) hx hb dX12_back_37 (by decide) (fun c1413 => ?_) (fun c1413 => ?_)
      · skip
        have k1414 := iv_le (X := (5123)) (Y := v1406.toInt) (by decide) rfl c1413
        obtain rfl : ii = 5123 := by omega
        have hEq : eu Eo 10 (if kk = 0 then Eo 11 else Eo 12) = E := (congrArg (fun z => eu Eo 10 z) (show (if kk = 0 then Eo 11 else Eo 12) = gBm Eo x1 from by rcases (show kk = 0 ∨ kk = 1 by omega) with e | e <;> subst e <;> unfold gBm <;> first | (rw [if_pos rfl, if_pos (by omega)]) | (rw [if_neg (by omega), if_neg (by omega), if_pos (by omega)]))).trans hEe.symm
        have hI : th_I (okM E) D G [] H := by rw [← hEq]; exact em_close hI hqr hU1 (fun _ _ _ => okM_e10 rfl) hAr (ok_m1T (BI.done hBI (by omega) hgi))
        have hK : va_K D vwCl (th_tys E) s := by rw [← hEq, tys_eu (by omega)]; exact hK
        have hE10 : E 10 = (if kk = 0 then Eo 11 else Eo 12) := by rw [← hEq, eu_at]
        refine lv_aload_n hx hb dX12_back_64 rfl (lv_at hl 1 rfl) ?_
        refine lv_iconst (v := 0) hx hb dX12_back_65 (by decide) ?_
        refine mx_i (As := [.int 0]) (rest := []) (n := 1) (d := 0) ⟨hx, hb, hml, hown, hts⟩ (c_X12_good l E D G h0 hG0 0) wd_1402 wd_1404 wp_41 wd_13 wd_1405 (by decide +kernel) ⟨by rw [hR]; exact Nat.le_of_ble_eq_true rfl, by rw [hR]; exact Nat.le_of_ble_eq_true rfl⟩ hI hN hK hS hG0 (trivial) rfl hl.1 rfl (Nat.le_of_ble_eq_true rfl) dX12_back_66 ⟨Nat.zero_le _, Nat.zero_le _⟩ (fun r1415 H locs hI hp hS => ?_)
        obtain rfl := hp.symm
        have hE10 : E 10 = gBm Eo x1 := by rw [hEe]; exact eu_at
        try rw [gD_t (by omega)] at hE10
        try rw [gI_t (by simp only [rg]; omega)] at hE10
        have hpost : True := trivial
        subst hEe
        rw [hQ]
        exact W.iret (v := 0) hx hb hr (fun t ht hW => ⟨⟨0, 0, rfl, rfl, ⟨by rw [ht]; exact hI, hN.warm hW, va_K.moved hW.alike hK⟩, by first | (rw [ht]; exact hpost) | exact hpost⟩, hS.F ht⟩) hS.2.2 dX12_back_69
      · skip
        have k1416 := iv_nle (X := (5123)) (Y := v1406.toInt) (by decide) rfl c1413
        refine lv_aload_n hx hb dX12_back_40 rfl (lv_at hl 1 rfl) ?_
        refine gmA hx hb hts inT12 hown hK hI (m_nin hG0 hqr (by first | decide | (dsimp only; decide))) hG0 3 (by decide) (hts _ (tb_c wd_1236)) rfl rfl dX12_back_41 (fun a1417 hq1418 hf1419 => ?_)
        obtain rfl := fr.uniq (by decide) hfr hf1419
        refine lv_iload_n hx hb dX12_back_44 rfl (lv_at hl 0 rfl) ?_
        refine lv_aload_n hx hb dX12_back_45 rfl (lv_at hl 1 rfl) ?_
        refine gmA hx hb hts inT12 hown hK hI (m_nin hG0 hqr (by first | decide | (dsimp only; decide))) hG0 4 (by decide) (hts _ (tb_c wd_1237)) rfl rfl dX12_back_46 (fun a1420 hq1421 hf1422 => ?_)
        obtain rfl := fr.uniq (by decide) hf1410 hf1422
        refine lv_sipush (v := 5123) hx hb dX12_back_49 (by decide) ?_
        refine lv_iload_n hx hb dX12_back_52 rfl (lv_at hl 2 rfl) ?_
        refine lv_imul hx hb dX12_back_53 ?_
        refine lv_topi (fun v1423 e1424 => ?_)
        have tv1423 : v1423.toInt = (5123) * x1.toInt := iv_mul (by decide) rfl e1424 (by omega) (by omega)
        refine lv_iload_n hx hb dX12_back_54 rfl (lv_at hl 0 rfl) ?_
        refine lv_iadd hx hb dX12_back_55 ?_
        refine lv_topi (fun v1425 e1426 => ?_)
        have tv1425 : v1425.toInt = v1423.toInt + v1406.toInt := iv_add rfl rfl e1426 (by omega) (by omega)
        refine th_iald hx hb hK hA1412 0 rfl (iv_in (X := v1425.toInt) rfl (by omega) (by omega)) dX12_back_56 (fun v1427 e1428 => ?_)
        refine th_iast hx hb hK hAr 0 rfl hS ⟨_, hqr⟩ (iv_in (X := v1406.toInt) rfl (by omega) (by omega)) dX12_back_57 (fun H locs hA1429 oq hS => ?_)
        have hI := th_I.moved hI oq
        have hf1410 := fr.arr hG0 hqr (by decide) oq hf1410
        have hfr := fr.arr hG0 hqr (by decide) oq hfr
        have hA1412 := va_at.kept hA1412 (oq _ (m_ne hq1411 hqr (by first | decide | (dsimp only; decide))))
        have e1430 : v1427 = (upd FF (v1406 : Int32).toNatClampNeg v1427) (v1406 : Int32).toNatClampNeg := rd_us
        obtain ⟨v1431, e1432⟩ : ∃ y : Int32, y = v1406 + (1) := ⟨_, rfl⟩
        have tv1431 : v1431.toInt = v1406.toInt + (1) := iv_add rfl (by decide) e1432 (by omega) (by omega)
        refine lv_iinc (v := v1431) (lv' := [(2, .int v1431), (0, .ref h0), (1, .int x1)]) hx hb dX12_back_58 hl (k := 0) rfl (by rw [e1432]; rfl) (by decide) rfl (fun ls hl => ?_)
        refine lv_goto (tgt := 33) hx hb dX12_back_61 (by decide) ?_
        exact ih_33 _ (by omega) H locs ls v1431 qr gg (upd FF (v1406 : Int32).toNatClampNeg v1427) kk (ii + 1) rfl (lv_sub hl [0, 1, 2] rfl) ⟨by omega, by omega⟩ ⟨by omega, by omega⟩ ⟨a1409, hf1410, hq1411, hA1412⟩ (hqr) (hfr) (hA1429) (hgi) (hkk) (by first | omega | decide) (BI.step hBI (by omega) e1428 (by omega)) (hHI) hI hS
  refine lv_iload_n hx hb dX12_back_0 rfl (lv_at hl 1 rfl) ?_
  refine lv_iconst (v := 0) hx hb dX12_back_1 (by decide) ?_
  refine lv_iconst (v := 1) hx hb dX12_back_2 (by decide) ?_
  refine th_cSs (As := [.int x1, .int 0, .int 1]) (rest := []) (n := 3) (d := 0) ⟨hx, hb, hml, hown, hts⟩ (c_X12_lies l s.heap x1 0 1) wd_1395 wd_1396 wd_13 wd_1397 (by decide +kernel) ⟨by rw [hR]; exact Nat.le_of_ble_eq_true rfl, by rw [hR]; exact Nat.le_of_ble_eq_true rfl⟩ hN hS rfl hl.1 rfl (Nat.le_of_ble_eq_true rfl) dX12_back_3 ⟨Nat.zero_le _, Nat.zero_le _⟩ (fun r1433 locs hp hS => ?_)
  rcases hp with ⟨rfl, hp⟩ | ⟨rfl, hp⟩
  · skip
    try simp only [rg, not_and, Int.not_le] at hp
    have hp1434 := hp
    try rw [show (0 : Int32).toInt = 0 from by decide] at hp1434
    try rw [show (1 : Int32).toInt = 1 from by decide] at hp1434
    refine lv_if_ne (tgt := 15) hx hb dX12_back_6 (by decide) (fun _ => ?_) (fun c => absurd c (by decide))
    refine lv_aload_n hx hb dX12_back_15 rfl (lv_at hl 0 rfl) ?_
    refine gmA hx hb hts inT12 hown hK hI List.not_mem_nil hG0 5 (by decide) (hts _ (tb_c wd_1238)) rfl rfl dX12_back_16 (fun a1435 hq1436 hf1437 => ?_)
    refine lv_iload_n hx hb dX12_back_19 rfl (lv_at hl 1 rfl) ?_
    obtain ⟨F1438, hA1439, hP1440⟩ := om_11 hI hq1436 List.not_mem_nil
    refine va_zald hx hb hK (th_one hA1439) 0 2 rfl rfl (iv_in (X := x1.toInt) rfl (by omega) (by omega)) dX12_back_20 ?_
    refine lv_topi (fun v1441 e1442 => ?_)
    have k1443 := ea_zget hP1440 e1442 (by omega) (by omega)
    have k1444 := iv_lo v1441
    have k1445 := iv_hi v1441
    refine lv_if_ne (tgt := 31) hx hb dX12_back_21 (by decide) (fun c1446 => ?_) (fun c1446 => ?_)
    · skip
      have k1447 := iv_ne (X := v1441.toInt) (Y := (0)) rfl (by decide) c1446
      refine lv_iconst (v := 0) hx hb dX12_back_31 (by decide) ?_
      refine lv_istore_n (lv' := [(2, .int 0), (0, .ref h0), (1, .int x1)]) hx hb dX12_back_32 rfl hl (by decide) rfl (fun ls hl => ?_)
      obtain ⟨a1448, hq1449, hf1450⟩ := fr_of hI hG0 3 (by decide) (kd := (1, 5123)) rfl
      obtain ⟨F1451, hA1452, hP1453⟩ := om_1 hI hq1449 List.not_mem_nil
      obtain ⟨a1454, hq1455, hf1456⟩ := fr_of hI hG0 4 (by decide) (kd := (2, 10246)) rfl
      obtain ⟨F1457, hA1458, hP1459⟩ := om_2 hI hq1455 List.not_mem_nil
      have hI := th_I.weak (a := a1448) hI
      obtain ⟨kk, hkk⟩ : ∃ kk : Nat, (kk : Int) = x1.toInt := ⟨x1.toInt.toNat, by omega⟩
      have zl : (0 : Int32).toInt = 0 := by decide
      exact J_33 _ s.heap locs ls 0 a1448 F1457 F1451 kk 0 rfl (lv_sub hl [0, 1, 2] rfl) ⟨by decide, by decide⟩ ⟨by omega, by omega⟩ ⟨a1454, hf1456, hq1455, hA1458⟩ (hq1449) (hf1450) (hA1452) (hP1459) (hkk) (by first | omega | decide) (BI.init) (by omega) hI hS
    · skip
      have k1460 := iv_eq (X := v1441.toInt) (Y := (0)) rfl (by decide) c1446
      refine lv_aload_n hx hb dX12_back_24 rfl (lv_at hl 0 rfl) ?_
      refine lv_bipush (v := (-2)) hx hb dX12_back_25 (by decide) ?_
      refine mx_i (As := [.int (-2)]) (rest := []) (n := 1) (d := 0) ⟨hx, hb, hml, hown, hts⟩ (c_X12_refuses l Eo D G h0 hG0 (-2) ⟨by decide, by decide⟩) wd_1398 wd_1400 wp_40 wd_13 wd_1401 (by decide +kernel) ⟨by rw [hR]; exact Nat.le_of_ble_eq_true rfl, by rw [hR]; exact Nat.le_of_ble_eq_true rfl⟩ hI hN hK hS hG0 (trivial) rfl hl.1 rfl (Nat.le_of_ble_eq_true rfl) dX12_back_27 ⟨Nat.zero_le _, Nat.zero_le _⟩ (fun r1461 H locs hI hp hS => ?_)
      obtain rfl := hp.symm
      have hEq : eu Eo 10 (gBm Eo x1) = Eo := eu_id (by unfold gBm; rw [if_neg (by omega), if_neg (by omega)])
      have hI : th_I (okM (eu Eo 10 (gBm Eo x1))) D G [] H := by rw [hEq]; exact hI
      have hK : va_K D vwCl (th_tys (eu Eo 10 (gBm Eo x1))) s := by rw [hEq]; exact hK
      have hpost : True := trivial
      rw [hQ]
      exact W.iret (v := (-2)) hx hb hr (fun t ht hW => ⟨⟨(-2), (-2), rfl, rfl, ⟨by rw [ht]; exact hI, hN.warm hW, va_K.moved hW.alike hK⟩, by first | (rw [ht]; exact hpost) | exact hpost⟩, hS.F ht⟩) hS.2.2 dX12_back_30
  · skip
    try simp only [rg, not_and, Int.not_le] at hp
    have hp1462 := hp
    try rw [show (0 : Int32).toInt = 0 from by decide] at hp1462
    try rw [show (1 : Int32).toInt = 1 from by decide] at hp1462
    refine lv_if_ne (tgt := 15) hx hb dX12_back_6 (by decide) (fun c => absurd c (by decide)) (fun _ => ?_)
    refine lv_aload_n hx hb dX12_back_9 rfl (lv_at hl 0 rfl) ?_
    refine lv_iconst (v := (-1)) hx hb dX12_back_10 (by decide) ?_
    refine mx_i (As := [.int (-1)]) (rest := []) (n := 1) (d := 0) ⟨hx, hb, hml, hown, hts⟩ (c_X12_refuses l Eo D G h0 hG0 (-1) ⟨by decide, by decide⟩) wd_1398 wd_1400 wp_40 wd_13 wd_1401 (by decide +kernel) ⟨by rw [hR]; exact Nat.le_of_ble_eq_true rfl, by rw [hR]; exact Nat.le_of_ble_eq_true rfl⟩ hI hN hK hS hG0 (trivial) rfl hl.1 rfl (Nat.le_of_ble_eq_true rfl) dX12_back_11 ⟨Nat.zero_le _, Nat.zero_le _⟩ (fun r1463 H locs hI hp hS => ?_)
    obtain rfl := hp.symm
    have hEq : eu Eo 10 (gBm Eo x1) = Eo := eu_id (by unfold gBm; rw [if_neg (by omega), if_neg (by omega)])
    have hI : th_I (okM (eu Eo 10 (gBm Eo x1))) D G [] H := by rw [hEq]; exact hI
    have hK : va_K D vwCl (th_tys (eu Eo 10 (gBm Eo x1))) s := by rw [hEq]; exact hK
    have hpost : True := trivial
    rw [hQ]
    exact W.iret (v := (-1)) hx hb hr (fun t ht hW => ⟨⟨(-1), (-1), rfl, rfl, ⟨by rw [ht]; exact hI, hN.warm hW, va_K.moved hW.alike hK⟩, by first | (rw [ht]; exact hpost) | exact hpost⟩, hS.F ht⟩) hS.2.2 dX12_back_14
theorem dX12_orders0_0g : (decode cX12_orders0 0 = .ok (.aload_n 0, 1)) ∧ (decode cX12_orders0 1 = .ok (.getfield 20, 3)) ∧ (decode cX12_orders0 4 = .ok (.sipush 313, 3)) ∧ (decode cX12_orders0 7 = .ok (.iaload, 1)) ∧ (decode cX12_orders0 8 = .ok (.istore 4, 2)) ∧ (decode cX12_orders0 10 = .ok (.iload_n 1, 1)) ∧ (decode cX12_orders0 11 = .ok (.iload 4, 2)) ∧ (decode cX12_orders0 13 = .ok (.if_icmp .ne 99, 3)) ∧ (decode cX12_orders0 16 = .ok (.aload_n 0, 1)) ∧ (decode cX12_orders0 17 = .ok (.getfield 354, 3)) := by decide +kernel
theorem dX12_orders0_0 : decode cX12_orders0 0 = .ok (.aload_n 0, 1) := dX12_orders0_0g.1
theorem dX12_orders0_1 : decode cX12_orders0 1 = .ok (.getfield 20, 3) := dX12_orders0_0g.2.1
theorem dX12_orders0_4 : decode cX12_orders0 4 = .ok (.sipush 313, 3) := dX12_orders0_0g.2.2.1
theorem dX12_orders0_7 : decode cX12_orders0 7 = .ok (.iaload, 1) := dX12_orders0_0g.2.2.2.1
theorem dX12_orders0_8 : decode cX12_orders0 8 = .ok (.istore 4, 2) := dX12_orders0_0g.2.2.2.2.1
theorem dX12_orders0_10 : decode cX12_orders0 10 = .ok (.iload_n 1, 1) := dX12_orders0_0g.2.2.2.2.2.1
theorem dX12_orders0_11 : decode cX12_orders0 11 = .ok (.iload 4, 2) := dX12_orders0_0g.2.2.2.2.2.2.1
theorem dX12_orders0_13 : decode cX12_orders0 13 = .ok (.if_icmp .ne 99, 3) := dX12_orders0_0g.2.2.2.2.2.2.2.1
theorem dX12_orders0_16 : decode cX12_orders0 16 = .ok (.aload_n 0, 1) := dX12_orders0_0g.2.2.2.2.2.2.2.2.1
theorem dX12_orders0_17 : decode cX12_orders0 17 = .ok (.getfield 354, 3) := dX12_orders0_0g.2.2.2.2.2.2.2.2.2
theorem dX12_orders0_20g : (decode cX12_orders0 20 = .ok (.ifCond .le 12, 3)) ∧ (decode cX12_orders0 23 = .ok (.iload_n 3, 1)) ∧ (decode cX12_orders0 24 = .ok (.aload_n 0, 1)) ∧ (decode cX12_orders0 25 = .ok (.getfield 357, 3)) ∧ (decode cX12_orders0 28 = .ok (.if_icmp .le 4, 3)) ∧ (decode cX12_orders0 31 = .ok (.return_, 1)) ∧ (decode cX12_orders0 32 = .ok (.aload_n 0, 1)) ∧ (decode cX12_orders0 33 = .ok (.getfield 354, 3)) ∧ (decode cX12_orders0 36 = .ok (.ifCond .eq 11, 3)) ∧ (decode cX12_orders0 39 = .ok (.iload_n 3, 1)) := by decide +kernel
theorem dX12_orders0_20 : decode cX12_orders0 20 = .ok (.ifCond .le 12, 3) := dX12_orders0_20g.1
theorem dX12_orders0_23 : decode cX12_orders0 23 = .ok (.iload_n 3, 1) := dX12_orders0_20g.2.1
theorem dX12_orders0_24 : decode cX12_orders0 24 = .ok (.aload_n 0, 1) := dX12_orders0_20g.2.2.1
theorem dX12_orders0_25 : decode cX12_orders0 25 = .ok (.getfield 357, 3) := dX12_orders0_20g.2.2.2.1
theorem dX12_orders0_28 : decode cX12_orders0 28 = .ok (.if_icmp .le 4, 3) := dX12_orders0_20g.2.2.2.2.1
theorem dX12_orders0_31 : decode cX12_orders0 31 = .ok (.return_, 1) := dX12_orders0_20g.2.2.2.2.2.1
theorem dX12_orders0_32 : decode cX12_orders0 32 = .ok (.aload_n 0, 1) := dX12_orders0_20g.2.2.2.2.2.2.1
theorem dX12_orders0_33 : decode cX12_orders0 33 = .ok (.getfield 354, 3) := dX12_orders0_20g.2.2.2.2.2.2.2.1
theorem dX12_orders0_36 : decode cX12_orders0 36 = .ok (.ifCond .eq 11, 3) := dX12_orders0_20g.2.2.2.2.2.2.2.2.1
theorem dX12_orders0_39 : decode cX12_orders0 39 = .ok (.iload_n 3, 1) := dX12_orders0_20g.2.2.2.2.2.2.2.2.2
theorem dX12_orders0_40g : (decode cX12_orders0 40 = .ok (.aload_n 0, 1)) ∧ (decode cX12_orders0 41 = .ok (.getfield 357, 3)) ∧ (decode cX12_orders0 44 = .ok (.if_icmp .ge 57, 3)) ∧ (decode cX12_orders0 47 = .ok (.aload_n 0, 1)) ∧ (decode cX12_orders0 48 = .ok (.iload_n 3, 1)) ∧ (decode cX12_orders0 49 = .ok (.putfield 357, 3)) ∧ (decode cX12_orders0 52 = .ok (.aload_n 0, 1)) ∧ (decode cX12_orders0 53 = .ok (.iconst 0, 1)) ∧ (decode cX12_orders0 54 = .ok (.putfield 354, 3)) ∧ (decode cX12_orders0 57 = .ok (.iconst 0, 1)) := by decide +kernel
theorem dX12_orders0_40 : decode cX12_orders0 40 = .ok (.aload_n 0, 1) := dX12_orders0_40g.1
theorem dX12_orders0_41 : decode cX12_orders0 41 = .ok (.getfield 357, 3) := dX12_orders0_40g.2.1
theorem dX12_orders0_44 : decode cX12_orders0 44 = .ok (.if_icmp .ge 57, 3) := dX12_orders0_40g.2.2.1
theorem dX12_orders0_47 : decode cX12_orders0 47 = .ok (.aload_n 0, 1) := dX12_orders0_40g.2.2.2.1
theorem dX12_orders0_48 : decode cX12_orders0 48 = .ok (.iload_n 3, 1) := dX12_orders0_40g.2.2.2.2.1
theorem dX12_orders0_49 : decode cX12_orders0 49 = .ok (.putfield 357, 3) := dX12_orders0_40g.2.2.2.2.2.1
theorem dX12_orders0_52 : decode cX12_orders0 52 = .ok (.aload_n 0, 1) := dX12_orders0_40g.2.2.2.2.2.2.1
theorem dX12_orders0_53 : decode cX12_orders0 53 = .ok (.iconst 0, 1) := dX12_orders0_40g.2.2.2.2.2.2.2.1
theorem dX12_orders0_54 : decode cX12_orders0 54 = .ok (.putfield 354, 3) := dX12_orders0_40g.2.2.2.2.2.2.2.2.1
theorem dX12_orders0_57 : decode cX12_orders0 57 = .ok (.iconst 0, 1) := dX12_orders0_40g.2.2.2.2.2.2.2.2.2
theorem dX12_orders0_58g : (decode cX12_orders0 58 = .ok (.istore 5, 2)) ∧ (decode cX12_orders0 60 = .ok (.iload 5, 2)) ∧ (decode cX12_orders0 62 = .ok (.iload 4, 2)) ∧ (decode cX12_orders0 64 = .ok (.if_icmp .ge 37, 3)) ∧ (decode cX12_orders0 67 = .ok (.aload_n 0, 1)) ∧ (decode cX12_orders0 68 = .ok (.getfield 82, 3)) ∧ (decode cX12_orders0 71 = .ok (.iload 5, 2)) ∧ (decode cX12_orders0 73 = .ok (.aload_n 0, 1)) ∧ (decode cX12_orders0 74 = .ok (.getfield 76, 3)) ∧ (decode cX12_orders0 77 = .ok (.iload 5, 2)) := by decide +kernel
theorem dX12_orders0_58 : decode cX12_orders0 58 = .ok (.istore 5, 2) := dX12_orders0_58g.1
theorem dX12_orders0_60 : decode cX12_orders0 60 = .ok (.iload 5, 2) := dX12_orders0_58g.2.1
theorem dX12_orders0_62 : decode cX12_orders0 62 = .ok (.iload 4, 2) := dX12_orders0_58g.2.2.1
theorem dX12_orders0_64 : decode cX12_orders0 64 = .ok (.if_icmp .ge 37, 3) := dX12_orders0_58g.2.2.2.1
theorem dX12_orders0_67 : decode cX12_orders0 67 = .ok (.aload_n 0, 1) := dX12_orders0_58g.2.2.2.2.1
theorem dX12_orders0_68 : decode cX12_orders0 68 = .ok (.getfield 82, 3) := dX12_orders0_58g.2.2.2.2.2.1
theorem dX12_orders0_71 : decode cX12_orders0 71 = .ok (.iload 5, 2) := dX12_orders0_58g.2.2.2.2.2.2.1
theorem dX12_orders0_73 : decode cX12_orders0 73 = .ok (.aload_n 0, 1) := dX12_orders0_58g.2.2.2.2.2.2.2.1
theorem dX12_orders0_74 : decode cX12_orders0 74 = .ok (.getfield 76, 3) := dX12_orders0_58g.2.2.2.2.2.2.2.2.1
theorem dX12_orders0_77 : decode cX12_orders0 77 = .ok (.iload 5, 2) := dX12_orders0_58g.2.2.2.2.2.2.2.2.2
theorem dX12_orders0_79g : (decode cX12_orders0 79 = .ok (.iaload, 1)) ∧ (decode cX12_orders0 80 = .ok (.iastore, 1)) ∧ (decode cX12_orders0 81 = .ok (.aload_n 0, 1)) ∧ (decode cX12_orders0 82 = .ok (.getfield 85, 3)) ∧ (decode cX12_orders0 85 = .ok (.iload 5, 2)) ∧ (decode cX12_orders0 87 = .ok (.aload_n 0, 1)) ∧ (decode cX12_orders0 88 = .ok (.getfield 79, 3)) ∧ (decode cX12_orders0 91 = .ok (.iload 5, 2)) ∧ (decode cX12_orders0 93 = .ok (.iaload, 1)) ∧ (decode cX12_orders0 94 = .ok (.iastore, 1)) := by decide +kernel
theorem dX12_orders0_79 : decode cX12_orders0 79 = .ok (.iaload, 1) := dX12_orders0_79g.1
theorem dX12_orders0_80 : decode cX12_orders0 80 = .ok (.iastore, 1) := dX12_orders0_79g.2.1
theorem dX12_orders0_81 : decode cX12_orders0 81 = .ok (.aload_n 0, 1) := dX12_orders0_79g.2.2.1
theorem dX12_orders0_82 : decode cX12_orders0 82 = .ok (.getfield 85, 3) := dX12_orders0_79g.2.2.2.1
theorem dX12_orders0_85 : decode cX12_orders0 85 = .ok (.iload 5, 2) := dX12_orders0_79g.2.2.2.2.1
theorem dX12_orders0_87 : decode cX12_orders0 87 = .ok (.aload_n 0, 1) := dX12_orders0_79g.2.2.2.2.2.1
theorem dX12_orders0_88 : decode cX12_orders0 88 = .ok (.getfield 79, 3) := dX12_orders0_79g.2.2.2.2.2.2.1
theorem dX12_orders0_91 : decode cX12_orders0 91 = .ok (.iload 5, 2) := dX12_orders0_79g.2.2.2.2.2.2.2.1
theorem dX12_orders0_93 : decode cX12_orders0 93 = .ok (.iaload, 1) := dX12_orders0_79g.2.2.2.2.2.2.2.2.1
theorem dX12_orders0_94 : decode cX12_orders0 94 = .ok (.iastore, 1) := dX12_orders0_79g.2.2.2.2.2.2.2.2.2
theorem dX12_orders0_95g : (decode cX12_orders0 95 = .ok (.iinc 5 1, 3)) ∧ (decode cX12_orders0 98 = .ok (.goto (-38), 3)) ∧ (decode cX12_orders0 101 = .ok (.aload_n 0, 1)) ∧ (decode cX12_orders0 102 = .ok (.dup, 1)) ∧ (decode cX12_orders0 103 = .ok (.getfield 354, 3)) ∧ (decode cX12_orders0 106 = .ok (.iconst 1, 1)) ∧ (decode cX12_orders0 107 = .ok (.iadd, 1)) ∧ (decode cX12_orders0 108 = .ok (.putfield 354, 3)) ∧ (decode cX12_orders0 111 = .ok (.return_, 1)) ∧ (decode cX12_orders0 112 = .ok (.iconst 0, 1)) := by decide +kernel
theorem dX12_orders0_95 : decode cX12_orders0 95 = .ok (.iinc 5 1, 3) := dX12_orders0_95g.1
theorem dX12_orders0_98 : decode cX12_orders0 98 = .ok (.goto (-38), 3) := dX12_orders0_95g.2.1
theorem dX12_orders0_101 : decode cX12_orders0 101 = .ok (.aload_n 0, 1) := dX12_orders0_95g.2.2.1
theorem dX12_orders0_102 : decode cX12_orders0 102 = .ok (.dup, 1) := dX12_orders0_95g.2.2.2.1
theorem dX12_orders0_103 : decode cX12_orders0 103 = .ok (.getfield 354, 3) := dX12_orders0_95g.2.2.2.2.1
theorem dX12_orders0_106 : decode cX12_orders0 106 = .ok (.iconst 1, 1) := dX12_orders0_95g.2.2.2.2.2.1
theorem dX12_orders0_107 : decode cX12_orders0 107 = .ok (.iadd, 1) := dX12_orders0_95g.2.2.2.2.2.2.1
theorem dX12_orders0_108 : decode cX12_orders0 108 = .ok (.putfield 354, 3) := dX12_orders0_95g.2.2.2.2.2.2.2.1
theorem dX12_orders0_111 : decode cX12_orders0 111 = .ok (.return_, 1) := dX12_orders0_95g.2.2.2.2.2.2.2.2.1
theorem dX12_orders0_112 : decode cX12_orders0 112 = .ok (.iconst 0, 1) := dX12_orders0_95g.2.2.2.2.2.2.2.2.2
theorem dX12_orders0_113g : (decode cX12_orders0 113 = .ok (.istore 5, 2)) ∧ (decode cX12_orders0 115 = .ok (.iload 5, 2)) ∧ (decode cX12_orders0 117 = .ok (.iload 4, 2)) ∧ (decode cX12_orders0 119 = .ok (.if_icmp .ge 86, 3)) ∧ (decode cX12_orders0 122 = .ok (.iload_n 2, 1)) ∧ (decode cX12_orders0 123 = .ok (.iload 5, 2)) ∧ (decode cX12_orders0 125 = .ok (.invokestatic 360, 3)) ∧ (decode cX12_orders0 128 = .ok (.ifCond .eq 6, 3)) ∧ (decode cX12_orders0 131 = .ok (.goto 68, 3)) ∧ (decode cX12_orders0 134 = .ok (.aload_n 0, 1)) := by decide +kernel
theorem dX12_orders0_113 : decode cX12_orders0 113 = .ok (.istore 5, 2) := dX12_orders0_113g.1
theorem dX12_orders0_115 : decode cX12_orders0 115 = .ok (.iload 5, 2) := dX12_orders0_113g.2.1
theorem dX12_orders0_117 : decode cX12_orders0 117 = .ok (.iload 4, 2) := dX12_orders0_113g.2.2.1
theorem dX12_orders0_119 : decode cX12_orders0 119 = .ok (.if_icmp .ge 86, 3) := dX12_orders0_113g.2.2.2.1
theorem dX12_orders0_122 : decode cX12_orders0 122 = .ok (.iload_n 2, 1) := dX12_orders0_113g.2.2.2.2.1
theorem dX12_orders0_123 : decode cX12_orders0 123 = .ok (.iload 5, 2) := dX12_orders0_113g.2.2.2.2.2.1
theorem dX12_orders0_125 : decode cX12_orders0 125 = .ok (.invokestatic 360, 3) := dX12_orders0_113g.2.2.2.2.2.2.1
theorem dX12_orders0_128 : decode cX12_orders0 128 = .ok (.ifCond .eq 6, 3) := dX12_orders0_113g.2.2.2.2.2.2.2.1
theorem dX12_orders0_131 : decode cX12_orders0 131 = .ok (.goto 68, 3) := dX12_orders0_113g.2.2.2.2.2.2.2.2.1
theorem dX12_orders0_134 : decode cX12_orders0 134 = .ok (.aload_n 0, 1) := dX12_orders0_113g.2.2.2.2.2.2.2.2.2
theorem dX12_orders0_135g : (decode cX12_orders0 135 = .ok (.iload 5, 2)) ∧ (decode cX12_orders0 137 = .ok (.iload_n 3, 1)) ∧ (decode cX12_orders0 138 = .ok (.invokevirtual 363, 3)) ∧ (decode cX12_orders0 141 = .ok (.istore 6, 2)) ∧ (decode cX12_orders0 143 = .ok (.iload 6, 2)) ∧ (decode cX12_orders0 145 = .ok (.iconst (-1), 1)) ∧ (decode cX12_orders0 146 = .ok (.if_icmp .ne 6, 3)) ∧ (decode cX12_orders0 149 = .ok (.goto 50, 3)) ∧ (decode cX12_orders0 152 = .ok (.aload_n 0, 1)) ∧ (decode cX12_orders0 153 = .ok (.getfield 76, 3)) := by decide +kernel
theorem dX12_orders0_135 : decode cX12_orders0 135 = .ok (.iload 5, 2) := dX12_orders0_135g.1
theorem dX12_orders0_137 : decode cX12_orders0 137 = .ok (.iload_n 3, 1) := dX12_orders0_135g.2.1
theorem dX12_orders0_138 : decode cX12_orders0 138 = .ok (.invokevirtual 363, 3) := dX12_orders0_135g.2.2.1
theorem dX12_orders0_141 : decode cX12_orders0 141 = .ok (.istore 6, 2) := dX12_orders0_135g.2.2.2.1
theorem dX12_orders0_143 : decode cX12_orders0 143 = .ok (.iload 6, 2) := dX12_orders0_135g.2.2.2.2.1
theorem dX12_orders0_145 : decode cX12_orders0 145 = .ok (.iconst (-1), 1) := dX12_orders0_135g.2.2.2.2.2.1
theorem dX12_orders0_146 : decode cX12_orders0 146 = .ok (.if_icmp .ne 6, 3) := dX12_orders0_135g.2.2.2.2.2.2.1
theorem dX12_orders0_149 : decode cX12_orders0 149 = .ok (.goto 50, 3) := dX12_orders0_135g.2.2.2.2.2.2.2.1
theorem dX12_orders0_152 : decode cX12_orders0 152 = .ok (.aload_n 0, 1) := dX12_orders0_135g.2.2.2.2.2.2.2.2.1
theorem dX12_orders0_153 : decode cX12_orders0 153 = .ok (.getfield 76, 3) := dX12_orders0_135g.2.2.2.2.2.2.2.2.2
theorem dX12_orders0_156g : (decode cX12_orders0 156 = .ok (.iload_n 1, 1)) ∧ (decode cX12_orders0 157 = .ok (.iload 5, 2)) ∧ (decode cX12_orders0 159 = .ok (.iastore, 1)) ∧ (decode cX12_orders0 160 = .ok (.aload_n 0, 1)) ∧ (decode cX12_orders0 161 = .ok (.getfield 79, 3)) ∧ (decode cX12_orders0 164 = .ok (.iload_n 1, 1)) ∧ (decode cX12_orders0 165 = .ok (.iload 6, 2)) ∧ (decode cX12_orders0 167 = .ok (.iastore, 1)) ∧ (decode cX12_orders0 168 = .ok (.aload_n 0, 1)) ∧ (decode cX12_orders0 169 = .ok (.iload_n 1, 1)) := by decide +kernel
theorem dX12_orders0_156 : decode cX12_orders0 156 = .ok (.iload_n 1, 1) := dX12_orders0_156g.1
theorem dX12_orders0_157 : decode cX12_orders0 157 = .ok (.iload 5, 2) := dX12_orders0_156g.2.1
theorem dX12_orders0_159 : decode cX12_orders0 159 = .ok (.iastore, 1) := dX12_orders0_156g.2.2.1
theorem dX12_orders0_160 : decode cX12_orders0 160 = .ok (.aload_n 0, 1) := dX12_orders0_156g.2.2.2.1
theorem dX12_orders0_161 : decode cX12_orders0 161 = .ok (.getfield 79, 3) := dX12_orders0_156g.2.2.2.2.1
theorem dX12_orders0_164 : decode cX12_orders0 164 = .ok (.iload_n 1, 1) := dX12_orders0_156g.2.2.2.2.2.1
theorem dX12_orders0_165 : decode cX12_orders0 165 = .ok (.iload 6, 2) := dX12_orders0_156g.2.2.2.2.2.2.1
theorem dX12_orders0_167 : decode cX12_orders0 167 = .ok (.iastore, 1) := dX12_orders0_156g.2.2.2.2.2.2.2.1
theorem dX12_orders0_168 : decode cX12_orders0 168 = .ok (.aload_n 0, 1) := dX12_orders0_156g.2.2.2.2.2.2.2.2.1
theorem dX12_orders0_169 : decode cX12_orders0 169 = .ok (.iload_n 1, 1) := dX12_orders0_156g.2.2.2.2.2.2.2.2.2
theorem dX12_orders0_170g : (decode cX12_orders0 170 = .ok (.iconst 1, 1)) ∧ (decode cX12_orders0 171 = .ok (.iadd, 1)) ∧ (decode cX12_orders0 172 = .ok (.iload_n 2, 1)) ∧ (decode cX12_orders0 173 = .ok (.iconst 1, 1)) ∧ (decode cX12_orders0 174 = .ok (.iload 5, 2)) ∧ (decode cX12_orders0 176 = .ok (.ishl, 1)) ∧ (decode cX12_orders0 177 = .ok (.ior, 1)) ∧ (decode cX12_orders0 178 = .ok (.iload 6, 2)) ∧ (decode cX12_orders0 180 = .ok (.aload_n 0, 1)) ∧ (decode cX12_orders0 181 = .ok (.getfield 20, 3)) := by decide +kernel
theorem dX12_orders0_170 : decode cX12_orders0 170 = .ok (.iconst 1, 1) := dX12_orders0_170g.1
theorem dX12_orders0_171 : decode cX12_orders0 171 = .ok (.iadd, 1) := dX12_orders0_170g.2.1
theorem dX12_orders0_172 : decode cX12_orders0 172 = .ok (.iload_n 2, 1) := dX12_orders0_170g.2.2.1
theorem dX12_orders0_173 : decode cX12_orders0 173 = .ok (.iconst 1, 1) := dX12_orders0_170g.2.2.2.1
theorem dX12_orders0_174 : decode cX12_orders0 174 = .ok (.iload 5, 2) := dX12_orders0_170g.2.2.2.2.1
theorem dX12_orders0_176 : decode cX12_orders0 176 = .ok (.ishl, 1) := dX12_orders0_170g.2.2.2.2.2.1
theorem dX12_orders0_177 : decode cX12_orders0 177 = .ok (.ior, 1) := dX12_orders0_170g.2.2.2.2.2.2.1
theorem dX12_orders0_178 : decode cX12_orders0 178 = .ok (.iload 6, 2) := dX12_orders0_170g.2.2.2.2.2.2.2.1
theorem dX12_orders0_180 : decode cX12_orders0 180 = .ok (.aload_n 0, 1) := dX12_orders0_170g.2.2.2.2.2.2.2.2.1
theorem dX12_orders0_181 : decode cX12_orders0 181 = .ok (.getfield 20, 3) := dX12_orders0_170g.2.2.2.2.2.2.2.2.2
theorem dX12_orders0_184g : (decode cX12_orders0 184 = .ok (.sipush 264, 3)) ∧ (decode cX12_orders0 187 = .ok (.iconst 3, 1)) ∧ (decode cX12_orders0 188 = .ok (.iload 5, 2)) ∧ (decode cX12_orders0 190 = .ok (.imul, 1)) ∧ (decode cX12_orders0 191 = .ok (.iadd, 1)) ∧ (decode cX12_orders0 192 = .ok (.iconst 1, 1)) ∧ (decode cX12_orders0 193 = .ok (.iadd, 1)) ∧ (decode cX12_orders0 194 = .ok (.iaload, 1)) ∧ (decode cX12_orders0 195 = .ok (.iadd, 1)) ∧ (decode cX12_orders0 196 = .ok (.invokevirtual 366, 3)) := by decide +kernel
theorem dX12_orders0_184 : decode cX12_orders0 184 = .ok (.sipush 264, 3) := dX12_orders0_184g.1
theorem dX12_orders0_187 : decode cX12_orders0 187 = .ok (.iconst 3, 1) := dX12_orders0_184g.2.1
theorem dX12_orders0_188 : decode cX12_orders0 188 = .ok (.iload 5, 2) := dX12_orders0_184g.2.2.1
theorem dX12_orders0_190 : decode cX12_orders0 190 = .ok (.imul, 1) := dX12_orders0_184g.2.2.2.1
theorem dX12_orders0_191 : decode cX12_orders0 191 = .ok (.iadd, 1) := dX12_orders0_184g.2.2.2.2.1
theorem dX12_orders0_192 : decode cX12_orders0 192 = .ok (.iconst 1, 1) := dX12_orders0_184g.2.2.2.2.2.1
theorem dX12_orders0_193 : decode cX12_orders0 193 = .ok (.iadd, 1) := dX12_orders0_184g.2.2.2.2.2.2.1
theorem dX12_orders0_194 : decode cX12_orders0 194 = .ok (.iaload, 1) := dX12_orders0_184g.2.2.2.2.2.2.2.1
theorem dX12_orders0_195 : decode cX12_orders0 195 = .ok (.iadd, 1) := dX12_orders0_184g.2.2.2.2.2.2.2.2.1
theorem dX12_orders0_196 : decode cX12_orders0 196 = .ok (.invokevirtual 366, 3) := dX12_orders0_184g.2.2.2.2.2.2.2.2.2
theorem dX12_orders0_199g : (decode cX12_orders0 199 = .ok (.iinc 5 1, 3)) ∧ (decode cX12_orders0 202 = .ok (.goto (-87), 3)) ∧ (decode cX12_orders0 205 = .ok (.return_, 1)) := by decide +kernel
theorem dX12_orders0_199 : decode cX12_orders0 199 = .ok (.iinc 5 1, 3) := dX12_orders0_199g.1
theorem dX12_orders0_202 : decode cX12_orders0 202 = .ok (.goto (-87), 3) := dX12_orders0_199g.2.1
theorem dX12_orders0_205 : decode cX12_orders0 205 = .ok (.return_, 1) := dX12_orders0_199g.2.2
set_option maxHeartbeats 4000000 in
set_option maxRecDepth 100000 in
theorem c_X12_orders0 (l : Launch) (E : Nat → Nat) (D : va_G) (G : th_G) (k : Nat) : ∀ (h0 : Nat) (hG0 : G h0 = some (10, 0)) (x1 : Int32) (x2 : Int32) (x3 : Int32) (ff : Nat → Int32) (hkf : kOk (E 10) ff) (hx1 : 0 ≤ x1.toInt ∧ x1.toInt ≤ (ff 313).toInt) (hk : (ff 313).toInt - x1.toInt ≤ (k : Int)), Met l yX12_orders0 (tb (.code yX12_orders0 cX12_orders0 7 none)) (rm (1 + k)) (va_Pc [.ref h0, .int x1, .int x2, .int x3] (PX E D G (fun H => ga E D G h0 3 (1, 5123) ff H))) (QXv E D G (fun H => ga E D G h0 3 (1, 5123) ff H)) 0 0 (th_A G) := by
  induction k using Nat.strongRecOn with
  | ind k ih =>
  intro h0 hG0 x1 x2 x3 ff hkf hx1 hk
  refine Met.ofW (cc := cX12_orders0) (maxL := 7) (ret := none) (by decide) rfl ?_
  intro p e s m args below meth c s₁ B hml hv
  obtain ⟨hav, ⟨hI, hN, hK⟩, hX⟩ := hv
  have hx := B.exec
  have hb := B.bytes
  have hr := B.returns
  have hts := atoms_spec (ws := tb (.code yX12_orders0 cX12_orders0 7 none)) B.pre
  have hown : s.vm.findClass RX12 = some m.cls := findClass_of_methodNamed B.named
  have hlocks := B.notSynchronized
  have hS : va_S (th_A G) s.heap s.heap [] := va_S.rf
  have hl := lv_entry ([.ref h0, .int x1, .int x2, .int x3]) (n := 7) (Nat.le_of_ble_eq_true rfl)
  rw [show entryFrame m args 7 = entryFrame m ([.ref h0, .int x1, .int x2, .int x3] : List Value).toArray 7 from by rw [hav], lg_entry_eq]
  generalize (lg_sl ([.ref h0, .int x1, .int x2, .int x3]) ++ List.replicate (7 - (lg_sl ([.ref h0, .int x1, .int x2, .int x3])).length) Slot.unset).toArray = ls at hl ⊢
  have hl : lv_has ls 7 [(0, .ref h0), (1, .int x1), (2, .int x2), (3, .int x3)] := hl
  generalize hR : (headSpec (tb (.code yX12_orders0 cX12_orders0 7 none)) (rm (1 + k))).room = R
  have hR := hR.symm
  generalize hQ : MQ below (QXv E D G (fun H => ga E D G h0 3 (1, 5123) ff H)) args s 0 0 (th_A G) = QF
  have hQ := hQ.symm
  obtain ⟨q_3, hf_3, hq_3, hA_3⟩ := hX
  have hn6 := kg_m313 (hkf.1 313 (by omega)) (by omega) (by omega) (by omega)
  have J_115 : ∀ (nn : Nat) (H : Heap) (locs : List Loc) (ls : Array Slot) (v2346 : Int32) (v2347 : Int32) , (Int.toNat (6 - v2346.toInt) = nn) → lv_has ls 7 [(5, .int v2346), (4, .int v2347), (0, .ref h0), (1, .int x1), (2, .int x2), (3, .int x3)] → ((0 : Int) ≤ v2346.toInt ∧ v2346.toInt ≤ 6) → ((0 : Int) ≤ v2347.toInt ∧ v2347.toInt ≤ 6) → ((0 : Int) ≤ x1.toInt ∧ x1.toInt ≤ 6) → (v2347.toInt = (ff 313).toInt) → (x1.toInt < v2347.toInt) → ga E D G h0 3 (1, 5123) ff H → th_I (okM E) D G [] H → va_S (th_A G) s.heap H locs → W p l e R s m args below meth c H locs 0 0 QF (F0 m 115 ls []) := by
    intro nn
    induction nn using Nat.strongRecOn with
    | ind nn ih_115 =>
      intro H locs ls v2346 v2347  hm hl k2348 k2349 k2350 k2351 k2352 hga_3 hI hS
      obtain ⟨a2353, hf2354, hq2355, hA2356⟩ := hga_3
      refine lv_iload hx hb dX12_orders0_115 (lv_at hl 0 rfl) ?_
      refine lv_iload hx hb dX12_orders0_117 (lv_at hl 1 rfl) ?_
      refine lv_icmp_ge (tgt := 205) hx hb dX12_orders0_119 (by decide) (fun c2357 => ?_) (fun c2357 => ?_)
      · skip
        have k2358 := iv_le (X := v2347.toInt) (Y := v2346.toInt) rfl rfl c2357
        have hpost : ga E D G h0 3 (1, 5123) ff H := ⟨a2353, hf2354, hq2355, hA2356⟩
        rw [hQ]
        exact W.vret hx hb hr (fun t ht hW => ⟨⟨(), rfl, trivial, ⟨by rw [ht]; exact hI, hN.warm hW, va_K.moved hW.alike hK⟩, by first | (rw [ht]; exact hpost) | exact hpost⟩, hS.F ht⟩) hS.2.2 dX12_orders0_205
      · skip
        have k2359 := iv_nle (X := v2347.toInt) (Y := v2346.toInt) rfl rfl c2357
        refine lv_iload_n hx hb dX12_orders0_122 rfl (lv_at hl 4 rfl) ?_
        refine lv_iload hx hb dX12_orders0_123 (lv_at hl 0 rfl) ?_
        refine th_cSs (As := [.int x2, .int v2346]) (rest := []) (n := 2) (d := 0) ⟨hx, hb, hml, hown, hts⟩ (c_X12_isIn l H x2 v2346) wd_1789 wd_1790 wd_13 wd_1791 (by decide +kernel) ⟨by rw [hR]; show 0 + 1 ≤ 1 + k; omega, by rw [hR]; show 8 + (2 + 11) + 40 * (0) ≤ 40 * (1 + k); omega⟩ hN hS rfl hl.1 rfl (Nat.le_of_ble_eq_true rfl) dX12_orders0_125 ⟨Nat.zero_le _, Nat.zero_le _⟩ (fun r2360 locs hp hS => ?_)
        have hp2361 := hp
        refine lv_if_eq (tgt := 134) hx hb dX12_orders0_128 (by decide) (fun c2362 => ?_) (fun c2362 => ?_)
        · skip
          have k2363 := iv_eq (X := r2360.toInt) (Y := (0)) rfl (by decide) c2362
          refine lv_aload_n hx hb dX12_orders0_134 rfl (lv_at hl 2 rfl) ?_
          refine lv_iload hx hb dX12_orders0_135 (lv_at hl 0 rfl) ?_
          refine lv_iload_n hx hb dX12_orders0_137 rfl (lv_at hl 5 rfl) ?_
          refine mr_i (As := [.int v2346, .int x3]) (rest := []) (n := 2) (d := 0) ⟨hx, hb, hml, hown, hts⟩ (c_X12_beginsAt l E D G H h0 hG0 v2346 x3 ⟨by omega, by omega⟩) wd_1792 wd_1794 wp_89 wd_13 wd_1795 (by decide +kernel) ⟨by rw [hR]; show 0 + 1 ≤ 1 + k; omega, by rw [hR]; show 8 + (7 + 11) + 40 * (0) ≤ 40 * (1 + k); omega⟩ hI hN hK hS hG0 rfl hl.1 rfl (Nat.le_of_ble_eq_true rfl) dX12_orders0_138 ⟨Nat.zero_le _, Nat.zero_le _⟩ (fun r2364 locs hp hS => ?_)
          refine lv_istore (lv' := [(6, .int r2364), (5, .int v2346), (4, .int v2347), (0, .ref h0), (1, .int x1), (2, .int x2), (3, .int x3)]) hx hb dX12_orders0_141 hl (by decide) rfl (fun ls hl => ?_)
          refine lv_iload hx hb dX12_orders0_143 (lv_at hl 0 rfl) ?_
          refine lv_iconst (v := (-1)) hx hb dX12_orders0_145 (by decide) ?_
          have k2365 := iv_lo r2364
          have k2366 := iv_hi r2364
          refine lv_icmp_ne (tgt := 152) hx hb dX12_orders0_146 (by decide) (fun c2367 => ?_) (fun c2367 => ?_)
          · skip
            have k2368 := iv_ne (X := r2364.toInt) (Y := (-1)) rfl (by decide) c2367
            refine lv_aload_n hx hb dX12_orders0_152 rfl (lv_at hl 3 rfl) ?_
            refine gmA hx hb hts inT12 hown hK hI List.not_mem_nil hG0 35 (by decide) (hts _ (tb_c wd_1268)) rfl rfl dX12_orders0_153 (fun a2369 hq2370 hf2371 => ?_)
            refine lv_iload_n hx hb dX12_orders0_156 rfl (lv_at hl 4 rfl) ?_
            refine lv_iload hx hb dX12_orders0_157 (lv_at hl 1 rfl) ?_
            obtain ⟨F2372, hA2373⟩ := om_0 hI hq2370 List.not_mem_nil
            refine th_iast hx hb hK hA2373 0 rfl hS ⟨_, hq2370⟩ (iv_in (X := x1.toInt) rfl (by omega) (by omega)) dX12_orders0_159 (fun H locs hA2374 oq hS => ?_)
            have hI := th_I.put hI hq2370 hA2374 ok_m0 oq
            have hf2354 := fr.arr hG0 hq2370 (by decide) oq hf2354
            have hf2371 := fr.arr hG0 hq2370 (by decide) oq hf2371
            have hA2356 := va_at.kept hA2356 (oq _ (m_ne hq2355 hq2370 (by first | decide | (dsimp only; decide))))
            have e2375 : v2346 = (upd F2372 (x1 : Int32).toNatClampNeg v2346) (x1 : Int32).toNatClampNeg := rd_us
            refine lv_aload_n hx hb dX12_orders0_160 rfl (lv_at hl 3 rfl) ?_
            refine gmA hx hb hts inT12 hown hK hI List.not_mem_nil hG0 36 (by decide) (hts _ (tb_c wd_1269)) rfl rfl dX12_orders0_161 (fun a2376 hq2377 hf2378 => ?_)
            refine lv_iload_n hx hb dX12_orders0_164 rfl (lv_at hl 4 rfl) ?_
            refine lv_iload hx hb dX12_orders0_165 (lv_at hl 0 rfl) ?_
            obtain ⟨F2379, hA2380⟩ := om_0 hI hq2377 List.not_mem_nil
            refine th_iast hx hb hK hA2380 0 rfl hS ⟨_, hq2377⟩ (iv_in (X := x1.toInt) rfl (by omega) (by omega)) dX12_orders0_167 (fun H locs hA2381 oq hS => ?_)
            have hI := th_I.put hI hq2377 hA2381 ok_m0 oq
            have hf2354 := fr.arr hG0 hq2377 (by decide) oq hf2354
            have hf2371 := fr.arr hG0 hq2377 (by decide) oq hf2371
            have hf2378 := fr.arr hG0 hq2377 (by decide) oq hf2378
            have hA2356 := va_at.kept hA2356 (oq _ (m_ne hq2355 hq2377 (by first | decide | (dsimp only; decide))))
            have e2382 : r2364 = (upd F2379 (x1 : Int32).toNatClampNeg r2364) (x1 : Int32).toNatClampNeg := rd_us
            refine lv_aload_n hx hb dX12_orders0_168 rfl (lv_at hl 3 rfl) ?_
            refine lv_iload_n hx hb dX12_orders0_169 rfl (lv_at hl 4 rfl) ?_
            refine lv_iconst (v := 1) hx hb dX12_orders0_170 (by decide) ?_
            refine lv_iadd hx hb dX12_orders0_171 ?_
            refine lv_topi (fun v2383 e2384 => ?_)
            have tv2383 : v2383.toInt = x1.toInt + (1) := iv_add rfl (by decide) e2384 (by omega) (by omega)
            refine lv_iload_n hx hb dX12_orders0_172 rfl (lv_at hl 5 rfl) ?_
            refine lv_iconst (v := 1) hx hb dX12_orders0_173 (by decide) ?_
            refine lv_iload hx hb dX12_orders0_174 (lv_at hl 1 rfl) ?_
            refine lv_ishl hx hb dX12_orders0_176 ?_
            refine lv_topi (fun v2385 e2386 => ?_)
            have tv2385 := iv_1sh (X := v2346.toInt) rfl e2386 (by omega) (by omega)
            refine lv_ior hx hb dX12_orders0_177 ?_
            refine lv_topi (fun v2387 e2388 => ?_)
            refine lv_iload hx hb dX12_orders0_178 (lv_at hl 0 rfl) ?_
            refine lv_aload_n hx hb dX12_orders0_180 rfl (lv_at hl 3 rfl) ?_
            refine gmA hx hb hts inT12 hown hK hI List.not_mem_nil hG0 3 (by decide) (hts _ (tb_c wd_1236)) rfl rfl dX12_orders0_181 (fun a2389 hq2390 hf2391 => ?_)
            obtain rfl := fr.uniq (by decide) hf2354 hf2391
            refine lv_sipush (v := 264) hx hb dX12_orders0_184 (by decide) ?_
            refine lv_iconst (v := 3) hx hb dX12_orders0_187 (by decide) ?_
            refine lv_iload hx hb dX12_orders0_188 (lv_at hl 1 rfl) ?_
            refine lv_imul hx hb dX12_orders0_190 ?_
            refine lv_topi (fun v2392 e2393 => ?_)
            have tv2392 : v2392.toInt = (3) * v2346.toInt := iv_mul (by decide) rfl e2393 (by omega) (by omega)
            refine lv_iadd hx hb dX12_orders0_191 ?_
            refine lv_topi (fun v2394 e2395 => ?_)
            have tv2394 : v2394.toInt = (264) + v2392.toInt := iv_add (by decide) rfl e2395 (by omega) (by omega)
            refine lv_iconst (v := 1) hx hb dX12_orders0_192 (by decide) ?_
            refine lv_iadd hx hb dX12_orders0_193 ?_
            refine lv_topi (fun v2396 e2397 => ?_)
            have tv2396 : v2396.toInt = v2394.toInt + (1) := iv_add rfl (by decide) e2397 (by omega) (by omega)
            refine th_iald hx hb hK hA2356 0 rfl (iv_in (X := v2396.toInt) rfl (by omega) (by omega)) dX12_orders0_194 (fun v2398 e2399 => ?_)
            refine lv_iadd hx hb dX12_orders0_195 ?_
            refine lv_topi (fun v2400 e2401 => ?_)
            try have tv2400 : v2400.toInt = r2364.toInt + v2398.toInt := iv_add rfl rfl e2401 (by omega) (by omega)
            refine mx_v (As := [.int v2383, .int v2387, .int v2400]) (rest := []) (n := 3) (d := (1 + (k - 1))) ⟨hx, hb, hml, hown, hts⟩ (ih (k - 1) (by omega) h0 hG0 v2383 v2387 v2400 ff hkf ⟨by omega, by omega⟩ (by omega)) wd_1785 wd_1787 wp_88 wd_13 wd_1788 (by decide +kernel) ⟨by rw [hR]; show (1 + (k - 1)) + 1 ≤ 1 + k; omega, by rw [hR]; show 8 + (7 + 11) + 40 * ((1 + (k - 1))) ≤ 40 * (1 + k); omega⟩ hI hN hK hS hG0 (⟨a2353, hf2354, hq2355, hA2356⟩) rfl hl.1 rfl (Nat.le_of_ble_eq_true rfl) dX12_orders0_196 ⟨Nat.zero_le _, Nat.zero_le _⟩ (fun H locs hI hp hS => ?_)
            obtain ⟨a2403, hf2404, hq2405, hA2406⟩ := hp
            obtain ⟨v2407, e2408⟩ : ∃ y : Int32, y = v2346 + (1) := ⟨_, rfl⟩
            have tv2407 : v2407.toInt = v2346.toInt + (1) := iv_add rfl (by decide) e2408 (by omega) (by omega)
            refine lv_iinc (v := v2407) (lv' := [(5, .int v2407), (6, .int r2364), (4, .int v2347), (0, .ref h0), (1, .int x1), (2, .int x2), (3, .int x3)]) hx hb dX12_orders0_199 hl (k := 1) rfl (by rw [e2408]; rfl) (by decide) rfl (fun ls hl => ?_)
            refine lv_goto (tgt := 115) hx hb dX12_orders0_202 (by decide) ?_
            exact ih_115 _ (by omega) H locs ls v2407 v2347  rfl (lv_sub hl [0, 2, 3, 4, 5, 6] rfl) ⟨by omega, by omega⟩ ⟨by omega, by omega⟩ ⟨by omega, by omega⟩ (by omega) (by omega) ⟨a2403, hf2404, hq2405, hA2406⟩ hI hS
          · skip
            have k2409 := iv_eq (X := r2364.toInt) (Y := (-1)) rfl (by decide) c2367
            refine lv_goto (tgt := 199) hx hb dX12_orders0_149 (by decide) ?_
            obtain ⟨v2410, e2411⟩ : ∃ y : Int32, y = v2346 + (1) := ⟨_, rfl⟩
            have tv2410 : v2410.toInt = v2346.toInt + (1) := iv_add rfl (by decide) e2411 (by omega) (by omega)
            refine lv_iinc (v := v2410) (lv' := [(5, .int v2410), (6, .int r2364), (4, .int v2347), (0, .ref h0), (1, .int x1), (2, .int x2), (3, .int x3)]) hx hb dX12_orders0_199 hl (k := 1) rfl (by rw [e2411]; rfl) (by decide) rfl (fun ls hl => ?_)
            refine lv_goto (tgt := 115) hx hb dX12_orders0_202 (by decide) ?_
            exact ih_115 _ (by omega) H locs ls v2410 v2347  rfl (lv_sub hl [0, 2, 3, 4, 5, 6] rfl) ⟨by omega, by omega⟩ ⟨by omega, by omega⟩ ⟨by omega, by omega⟩ (by omega) (by omega) ⟨a2353, hf2354, hq2355, hA2356⟩ hI hS
        · skip
          have k2412 := iv_ne (X := r2360.toInt) (Y := (0)) rfl (by decide) c2362
          refine lv_goto (tgt := 199) hx hb dX12_orders0_131 (by decide) ?_
          obtain ⟨v2413, e2414⟩ : ∃ y : Int32, y = v2346 + (1) := ⟨_, rfl⟩
          have tv2413 : v2413.toInt = v2346.toInt + (1) := iv_add rfl (by decide) e2414 (by omega) (by omega)
          refine lv_iinc (v := v2413) (lv' := [(5, .int v2413), (4, .int v2347), (0, .ref h0), (1, .int x1), (2, .int x2), (3, .int x3)]) hx hb dX12_orders0_199 hl (k := 0) rfl (by rw [e2414]; rfl) (by decide) rfl (fun ls hl => ?_)
          refine lv_goto (tgt := 115) hx hb dX12_orders0_202 (by decide) ?_
          exact ih_115 _ (by omega) H locs ls v2413 v2347  rfl (lv_sub hl [0, 1, 2, 3, 4, 5] rfl) ⟨by omega, by omega⟩ ⟨by omega, by omega⟩ ⟨by omega, by omega⟩ (by omega) (by omega) ⟨a2353, hf2354, hq2355, hA2356⟩ hI hS
  have J_101 : ∀ (H : Heap) (locs : List Loc) (ls : Array Slot) (v2415 : Int32) , lv_has ls 7 [(4, .int v2415), (0, .ref h0), (1, .int x1), (2, .int x2), (3, .int x3)] → ((0 : Int) ≤ v2415.toInt ∧ v2415.toInt ≤ 6) → ((0 : Int) ≤ x1.toInt ∧ x1.toInt ≤ 6) → (v2415.toInt = (ff 313).toInt) → ga E D G h0 3 (1, 5123) ff H → th_I (okM E) D G [] H → va_S (th_A G) s.heap H locs → W p l e R s m args below meth c H locs 0 0 QF (F0 m 101 ls []) := by
    intro H locs ls v2415  hl k2416 k2417 k2418 hga_3 hI hS
    obtain ⟨a2419, hf2420, hq2421, hA2422⟩ := hga_3
    refine lv_aload_n hx hb dX12_orders0_101 rfl (lv_at hl 1 rfl) ?_
    refine lv_dup hx hb dX12_orders0_102 rfl ?_
    refine gmI hx hb hts inT12 hown hK hI List.not_mem_nil hG0 41 (by decide) (hts _ (tb_c wd_1274)) rfl rfl dX12_orders0_103 (fun w2423 hg2424 k2425 k2426 => ?_)
    refine lv_iconst (v := 1) hx hb dX12_orders0_106 (by decide) ?_
    refine lv_iadd hx hb dX12_orders0_107 ?_
    refine lv_topi (fun v2427 e2428 => ?_)
    try have tv2427 : v2427.toInt = w2423.toInt + (1) := iv_add rfl (by decide) e2428 (by omega) (by omega)
    have k2429 := iv_lo v2427
    have k2430 := iv_hi v2427
    refine pmI (ty := .int) hx hb hts inT12 hown hK hI List.not_mem_nil hG0 hS ⟨_, hG0⟩ 41 (by decide) (hts _ (tb_c wd_1274)) rfl rfl (by decide +kernel) rfl rfl rfl (by omega) (by omega) dX12_orders0_108 (fun H locs hI hgP hS => ?_)
    have hg2431 := hgP.2.1
    have hf2420 := hgP.2.2.2 3 _ (by decide) (by decide) hf2420
    have hA2422 := va_at.kept hA2422 (hgP.1 _ (m_ne hq2421 hG0 (by first | decide | (dsimp only; decide))))
    have hpost : ga E D G h0 3 (1, 5123) ff H := ⟨a2419, hf2420, hq2421, hA2422⟩
    rw [hQ]
    exact W.vret hx hb hr (fun t ht hW => ⟨⟨(), rfl, trivial, ⟨by rw [ht]; exact hI, hN.warm hW, va_K.moved hW.alike hK⟩, by first | (rw [ht]; exact hpost) | exact hpost⟩, hS.F ht⟩) hS.2.2 dX12_orders0_111
  have J_60 : ∀ (nn : Nat) (H : Heap) (locs : List Loc) (ls : Array Slot) (v2432 : Int32) (v2433 : Int32) , (Int.toNat (6 - v2432.toInt) = nn) → lv_has ls 7 [(5, .int v2432), (4, .int v2433), (0, .ref h0), (1, .int x1), (2, .int x2), (3, .int x3)] → ((0 : Int) ≤ v2432.toInt ∧ v2432.toInt ≤ 6) → ((0 : Int) ≤ v2433.toInt ∧ v2433.toInt ≤ 6) → ((0 : Int) ≤ x1.toInt ∧ x1.toInt ≤ 6) → (v2433.toInt = (ff 313).toInt) → ga E D G h0 3 (1, 5123) ff H → th_I (okM E) D G [] H → va_S (th_A G) s.heap H locs → W p l e R s m args below meth c H locs 0 0 QF (F0 m 60 ls []) := by
    intro nn
    induction nn using Nat.strongRecOn with
    | ind nn ih_60 =>
      intro H locs ls v2432 v2433  hm hl k2434 k2435 k2436 k2437 hga_3 hI hS
      obtain ⟨a2438, hf2439, hq2440, hA2441⟩ := hga_3
      refine lv_iload hx hb dX12_orders0_60 (lv_at hl 0 rfl) ?_
      refine lv_iload hx hb dX12_orders0_62 (lv_at hl 1 rfl) ?_
      refine lv_icmp_ge (tgt := 101) hx hb dX12_orders0_64 (by decide) (fun c2442 => ?_) (fun c2442 => ?_)
      · skip
        have k2443 := iv_le (X := v2433.toInt) (Y := v2432.toInt) rfl rfl c2442
        exact J_101 H locs ls v2433  (lv_sub hl [1, 2, 3, 4, 5] rfl) ⟨by omega, by omega⟩ ⟨by omega, by omega⟩ (by omega) ⟨a2438, hf2439, hq2440, hA2441⟩ hI hS
      · skip
        have k2444 := iv_nle (X := v2433.toInt) (Y := v2432.toInt) rfl rfl c2442
        refine lv_aload_n hx hb dX12_orders0_67 rfl (lv_at hl 2 rfl) ?_
        refine gmA hx hb hts inT12 hown hK hI List.not_mem_nil hG0 37 (by decide) (hts _ (tb_c wd_1270)) rfl rfl dX12_orders0_68 (fun a2445 hq2446 hf2447 => ?_)
        refine lv_iload hx hb dX12_orders0_71 (lv_at hl 0 rfl) ?_
        refine lv_aload_n hx hb dX12_orders0_73 rfl (lv_at hl 2 rfl) ?_
        refine gmA hx hb hts inT12 hown hK hI List.not_mem_nil hG0 35 (by decide) (hts _ (tb_c wd_1268)) rfl rfl dX12_orders0_74 (fun a2448 hq2449 hf2450 => ?_)
        refine lv_iload hx hb dX12_orders0_77 (lv_at hl 0 rfl) ?_
        obtain ⟨F2451, hA2452⟩ := om_0 hI hq2449 List.not_mem_nil
        refine th_iald hx hb hK hA2452 0 rfl (iv_in (X := v2432.toInt) rfl (by omega) (by omega)) dX12_orders0_79 (fun v2453 e2454 => ?_)
        obtain ⟨F2455, hA2456⟩ := om_0 hI hq2446 List.not_mem_nil
        refine th_iast hx hb hK hA2456 0 rfl hS ⟨_, hq2446⟩ (iv_in (X := v2432.toInt) rfl (by omega) (by omega)) dX12_orders0_80 (fun H locs hA2457 oq hS => ?_)
        have hI := th_I.put hI hq2446 hA2457 ok_m0 oq
        have hf2439 := fr.arr hG0 hq2446 (by decide) oq hf2439
        have hf2447 := fr.arr hG0 hq2446 (by decide) oq hf2447
        have hf2450 := fr.arr hG0 hq2446 (by decide) oq hf2450
        have hA2441 := va_at.kept hA2441 (oq _ (m_ne hq2440 hq2446 (by first | decide | (dsimp only; decide))))
        have e2458 : v2453 = (upd F2455 (v2432 : Int32).toNatClampNeg v2453) (v2432 : Int32).toNatClampNeg := rd_us
        refine lv_aload_n hx hb dX12_orders0_81 rfl (lv_at hl 2 rfl) ?_
        refine gmA hx hb hts inT12 hown hK hI List.not_mem_nil hG0 38 (by decide) (hts _ (tb_c wd_1271)) rfl rfl dX12_orders0_82 (fun a2459 hq2460 hf2461 => ?_)
        refine lv_iload hx hb dX12_orders0_85 (lv_at hl 0 rfl) ?_
        refine lv_aload_n hx hb dX12_orders0_87 rfl (lv_at hl 2 rfl) ?_
        refine gmA hx hb hts inT12 hown hK hI List.not_mem_nil hG0 36 (by decide) (hts _ (tb_c wd_1269)) rfl rfl dX12_orders0_88 (fun a2462 hq2463 hf2464 => ?_)
        refine lv_iload hx hb dX12_orders0_91 (lv_at hl 0 rfl) ?_
        obtain ⟨F2465, hA2466⟩ := om_0 hI hq2463 List.not_mem_nil
        refine th_iald hx hb hK hA2466 0 rfl (iv_in (X := v2432.toInt) rfl (by omega) (by omega)) dX12_orders0_93 (fun v2467 e2468 => ?_)
        obtain ⟨F2469, hA2470⟩ := om_0 hI hq2460 List.not_mem_nil
        refine th_iast hx hb hK hA2470 0 rfl hS ⟨_, hq2460⟩ (iv_in (X := v2432.toInt) rfl (by omega) (by omega)) dX12_orders0_94 (fun H locs hA2471 oq hS => ?_)
        have hI := th_I.put hI hq2460 hA2471 ok_m0 oq
        have hf2439 := fr.arr hG0 hq2460 (by decide) oq hf2439
        have hf2447 := fr.arr hG0 hq2460 (by decide) oq hf2447
        have hf2450 := fr.arr hG0 hq2460 (by decide) oq hf2450
        have hf2461 := fr.arr hG0 hq2460 (by decide) oq hf2461
        have hf2464 := fr.arr hG0 hq2460 (by decide) oq hf2464
        have hA2441 := va_at.kept hA2441 (oq _ (m_ne hq2440 hq2460 (by first | decide | (dsimp only; decide))))
        have e2472 : v2467 = (upd F2469 (v2432 : Int32).toNatClampNeg v2467) (v2432 : Int32).toNatClampNeg := rd_us
        obtain ⟨v2473, e2474⟩ : ∃ y : Int32, y = v2432 + (1) := ⟨_, rfl⟩
        have tv2473 : v2473.toInt = v2432.toInt + (1) := iv_add rfl (by decide) e2474 (by omega) (by omega)
        refine lv_iinc (v := v2473) (lv' := [(5, .int v2473), (4, .int v2433), (0, .ref h0), (1, .int x1), (2, .int x2), (3, .int x3)]) hx hb dX12_orders0_95 hl (k := 0) rfl (by rw [e2474]; rfl) (by decide) rfl (fun ls hl => ?_)
        refine lv_goto (tgt := 60) hx hb dX12_orders0_98 (by decide) ?_
        exact ih_60 _ (by omega) H locs ls v2473 v2433  rfl (lv_sub hl [0, 1, 2, 3, 4, 5] rfl) ⟨by omega, by omega⟩ ⟨by omega, by omega⟩ ⟨by omega, by omega⟩ (by omega) ⟨a2438, hf2439, hq2440, hA2441⟩ hI hS
  have J_47 : ∀ (H : Heap) (locs : List Loc) (ls : Array Slot) (v2475 : Int32) , lv_has ls 7 [(4, .int v2475), (0, .ref h0), (1, .int x1), (2, .int x2), (3, .int x3)] → ((0 : Int) ≤ v2475.toInt ∧ v2475.toInt ≤ 6) → ((0 : Int) ≤ x1.toInt ∧ x1.toInt ≤ 6) → (v2475.toInt = (ff 313).toInt) → ga E D G h0 3 (1, 5123) ff H → th_I (okM E) D G [] H → va_S (th_A G) s.heap H locs → W p l e R s m args below meth c H locs 0 0 QF (F0 m 47 ls []) := by
    intro H locs ls v2475  hl k2476 k2477 k2478 hga_3 hI hS
    obtain ⟨a2479, hf2480, hq2481, hA2482⟩ := hga_3
    refine lv_aload_n hx hb dX12_orders0_47 rfl (lv_at hl 1 rfl) ?_
    refine lv_iload_n hx hb dX12_orders0_48 rfl (lv_at hl 4 rfl) ?_
    have k2483 := iv_lo x3
    have k2484 := iv_hi x3
    refine pmI (ty := .int) hx hb hts inT12 hown hK hI List.not_mem_nil hG0 hS ⟨_, hG0⟩ 40 (by decide) (hts _ (tb_c wd_1273)) rfl rfl (by decide +kernel) rfl rfl rfl (by omega) (by omega) dX12_orders0_49 (fun H locs hI hgP hS => ?_)
    have hg2485 := hgP.2.1
    have hf2480 := hgP.2.2.2 3 _ (by decide) (by decide) hf2480
    have hA2482 := va_at.kept hA2482 (hgP.1 _ (m_ne hq2481 hG0 (by first | decide | (dsimp only; decide))))
    refine lv_aload_n hx hb dX12_orders0_52 rfl (lv_at hl 1 rfl) ?_
    refine lv_iconst (v := 0) hx hb dX12_orders0_53 (by decide) ?_
    refine pmI (ty := .int) hx hb hts inT12 hown hK hI List.not_mem_nil hG0 hS ⟨_, hG0⟩ 41 (by decide) (hts _ (tb_c wd_1274)) rfl rfl (by decide +kernel) rfl rfl rfl (by decide) (by decide) dX12_orders0_54 (fun H locs hI hgP hS => ?_)
    have hg2485 := hgP.2.2.1 40 _ (by decide) (by decide) hg2485
    have hg2486 := hgP.2.1
    have hf2480 := hgP.2.2.2 3 _ (by decide) (by decide) hf2480
    have hA2482 := va_at.kept hA2482 (hgP.1 _ (m_ne hq2481 hG0 (by first | decide | (dsimp only; decide))))
    refine lv_iconst (v := 0) hx hb dX12_orders0_57 (by decide) ?_
    refine lv_istore (lv' := [(5, .int 0), (4, .int v2475), (0, .ref h0), (1, .int x1), (2, .int x2), (3, .int x3)]) hx hb dX12_orders0_58 hl (by decide) rfl (fun ls hl => ?_)
    have zl : (0 : Int32).toInt = 0 := by decide
    exact J_60 _ H locs ls 0 v2475  rfl (lv_sub hl [0, 1, 2, 3, 4, 5] rfl) ⟨by decide, by decide⟩ ⟨by omega, by omega⟩ ⟨by omega, by omega⟩ (by omega) ⟨a2479, hf2480, hq2481, hA2482⟩ hI hS
  have J_32 : ∀ (H : Heap) (locs : List Loc) (ls : Array Slot) (v2487 : Int32) , lv_has ls 7 [(4, .int v2487), (0, .ref h0), (1, .int x1), (2, .int x2), (3, .int x3)] → ((0 : Int) ≤ v2487.toInt ∧ v2487.toInt ≤ 6) → ((0 : Int) ≤ x1.toInt ∧ x1.toInt ≤ 6) → (v2487.toInt = (ff 313).toInt) → ga E D G h0 3 (1, 5123) ff H → th_I (okM E) D G [] H → va_S (th_A G) s.heap H locs → W p l e R s m args below meth c H locs 0 0 QF (F0 m 32 ls []) := by
    intro H locs ls v2487  hl k2488 k2489 k2490 hga_3 hI hS
    obtain ⟨a2491, hf2492, hq2493, hA2494⟩ := hga_3
    refine lv_aload_n hx hb dX12_orders0_32 rfl (lv_at hl 1 rfl) ?_
    refine gmI hx hb hts inT12 hown hK hI List.not_mem_nil hG0 41 (by decide) (hts _ (tb_c wd_1274)) rfl rfl dX12_orders0_33 (fun w2495 hg2496 k2497 k2498 => ?_)
    refine lv_if_eq (tgt := 47) hx hb dX12_orders0_36 (by decide) (fun c2499 => ?_) (fun c2499 => ?_)
    · skip
      have k2500 := iv_eq (X := w2495.toInt) (Y := (0)) rfl (by decide) c2499
      exact J_47 H locs ls v2487  (lv_sub hl [0, 1, 2, 3, 4] rfl) ⟨by omega, by omega⟩ ⟨by omega, by omega⟩ (by omega) ⟨a2491, hf2492, hq2493, hA2494⟩ hI hS
    · skip
      have k2501 := iv_ne (X := w2495.toInt) (Y := (0)) rfl (by decide) c2499
      refine lv_iload_n hx hb dX12_orders0_39 rfl (lv_at hl 4 rfl) ?_
      refine lv_aload_n hx hb dX12_orders0_40 rfl (lv_at hl 1 rfl) ?_
      refine gmI hx hb hts inT12 hown hK hI List.not_mem_nil hG0 40 (by decide) (hts _ (tb_c wd_1273)) rfl rfl dX12_orders0_41 (fun w2502 hg2503 k2504 k2505 => ?_)
      have k2506 := iv_lo x3
      have k2507 := iv_hi x3
      refine lv_icmp_ge (tgt := 101) hx hb dX12_orders0_44 (by decide) (fun c2508 => ?_) (fun c2508 => ?_)
      · skip
        have k2509 := iv_le (X := w2502.toInt) (Y := x3.toInt) rfl rfl c2508
        exact J_101 H locs ls v2487  (lv_sub hl [0, 1, 2, 3, 4] rfl) ⟨by omega, by omega⟩ ⟨by omega, by omega⟩ (by omega) ⟨a2491, hf2492, hq2493, hA2494⟩ hI hS
      · skip
        have k2510 := iv_nle (X := w2502.toInt) (Y := x3.toInt) rfl rfl c2508
        exact J_47 H locs ls v2487  (lv_sub hl [0, 1, 2, 3, 4] rfl) ⟨by omega, by omega⟩ ⟨by omega, by omega⟩ (by omega) ⟨a2491, hf2492, hq2493, hA2494⟩ hI hS
  refine lv_aload_n hx hb dX12_orders0_0 rfl (lv_at hl 0 rfl) ?_
  refine gmA hx hb hts inT12 hown hK hI List.not_mem_nil hG0 3 (by decide) (hts _ (tb_c wd_1236)) rfl rfl dX12_orders0_1 (fun a2511 hq2512 hf2513 => ?_)
  obtain rfl := fr.uniq (by decide) hf_3 hf2513
  refine lv_sipush (v := 313) hx hb dX12_orders0_4 (by decide) ?_
  refine th_iald hx hb hK hA_3 0 rfl (iv_in (X := (313)) (by decide) (by omega) (by omega)) dX12_orders0_7 (fun v2514 e2515 => ?_)
  have k2516 := kg_m313 (kOk.get (i := 313) hkf e2515 (X := (313)) (by decide) (by omega) (by omega)) (by omega) (by omega) (by omega)
  have k2517 : v2514.toInt = (ff 313).toInt := by rw [e2515]; rfl
  refine lv_istore (lv' := [(4, .int v2514), (0, .ref h0), (1, .int x1), (2, .int x2), (3, .int x3)]) hx hb dX12_orders0_8 hl (by decide) rfl (fun ls hl => ?_)
  refine lv_iload_n hx hb dX12_orders0_10 rfl (lv_at hl 2 rfl) ?_
  refine lv_iload hx hb dX12_orders0_11 (lv_at hl 0 rfl) ?_
  refine lv_icmp_ne (tgt := 112) hx hb dX12_orders0_13 (by decide) (fun c2518 => ?_) (fun c2518 => ?_)
  · skip
    have k2519 := iv_ne (X := x1.toInt) (Y := v2514.toInt) rfl rfl c2518
    refine lv_iconst (v := 0) hx hb dX12_orders0_112 (by decide) ?_
    refine lv_istore (lv' := [(5, .int 0), (4, .int v2514), (0, .ref h0), (1, .int x1), (2, .int x2), (3, .int x3)]) hx hb dX12_orders0_113 hl (by decide) rfl (fun ls hl => ?_)
    have zl : (0 : Int32).toInt = 0 := by decide
    exact J_115 _ s.heap [] ls 0 v2514  rfl (lv_sub hl [0, 1, 2, 3, 4, 5] rfl) ⟨by decide, by decide⟩ ⟨by omega, by omega⟩ ⟨by omega, by omega⟩ (by omega) (by omega) ⟨q_3, hf_3, hq_3, hA_3⟩ hI hS
  · skip
    have k2520 := iv_eq (X := x1.toInt) (Y := v2514.toInt) rfl rfl c2518
    refine lv_aload_n hx hb dX12_orders0_16 rfl (lv_at hl 1 rfl) ?_
    refine gmI hx hb hts inT12 hown hK hI List.not_mem_nil hG0 41 (by decide) (hts _ (tb_c wd_1274)) rfl rfl dX12_orders0_17 (fun w2521 hg2522 k2523 k2524 => ?_)
    refine lv_if_le (tgt := 32) hx hb dX12_orders0_20 (by decide) (fun c2525 => ?_) (fun c2525 => ?_)
    · skip
      have k2526 := iv_le (X := w2521.toInt) (Y := (0)) rfl (by decide) c2525
      exact J_32 s.heap [] ls v2514  (lv_sub hl [0, 1, 2, 3, 4] rfl) ⟨by omega, by omega⟩ ⟨by omega, by omega⟩ (by omega) ⟨q_3, hf_3, hq_3, hA_3⟩ hI hS
    · skip
      have k2527 := iv_nle (X := w2521.toInt) (Y := (0)) rfl (by decide) c2525
      refine lv_iload_n hx hb dX12_orders0_23 rfl (lv_at hl 4 rfl) ?_
      refine lv_aload_n hx hb dX12_orders0_24 rfl (lv_at hl 1 rfl) ?_
      refine gmI hx hb hts inT12 hown hK hI List.not_mem_nil hG0 40 (by decide) (hts _ (tb_c wd_1273)) rfl rfl dX12_orders0_25 (fun w2528 hg2529 k2530 k2531 => ?_)
      have k2532 := iv_lo x3
      have k2533 := iv_hi x3
      refine lv_icmp_le (tgt := 32) hx hb dX12_orders0_28 (by decide) (fun c2534 => ?_) (fun c2534 => ?_)
      · skip
        have k2535 := iv_le (X := x3.toInt) (Y := w2528.toInt) rfl rfl c2534
        exact J_32 s.heap [] ls v2514  (lv_sub hl [0, 1, 2, 3, 4] rfl) ⟨by omega, by omega⟩ ⟨by omega, by omega⟩ (by omega) ⟨q_3, hf_3, hq_3, hA_3⟩ hI hS
      · skip
        have k2536 := iv_nle (X := x3.toInt) (Y := w2528.toInt) rfl rfl c2534
        have hpost : ga E D G h0 3 (1, 5123) ff s.heap := ⟨q_3, hf_3, hq_3, hA_3⟩
        rw [hQ]
        exact W.vret hx hb hr (fun t ht hW => ⟨⟨(), rfl, trivial, ⟨by rw [ht]; exact hI, hN.warm hW, va_K.moved hW.alike hK⟩, by first | (rw [ht]; exact hpost) | exact hpost⟩, hS.F ht⟩) hS.2.2 dX12_orders0_31
theorem dX12_laundry_0g : (decode cX12_laundry 0 = .ok (.aload_n 0, 1)) ∧ (decode cX12_laundry 1 = .ok (.getfield 20, 3)) ∧ (decode cX12_laundry 4 = .ok (.sipush 313, 3)) ∧ (decode cX12_laundry 7 = .ok (.iaload, 1)) ∧ (decode cX12_laundry 8 = .ok (.istore_n 2, 1)) ∧ (decode cX12_laundry 9 = .ok (.iload_n 1, 1)) ∧ (decode cX12_laundry 10 = .ok (.iconst 0, 1)) ∧ (decode cX12_laundry 11 = .ok (.iconst 1, 1)) ∧ (decode cX12_laundry 12 = .ok (.invokestatic 103, 3)) ∧ (decode cX12_laundry 15 = .ok (.ifCond .ne 29, 3)) := by decide +kernel
theorem dX12_laundry_0 : decode cX12_laundry 0 = .ok (.aload_n 0, 1) := dX12_laundry_0g.1
theorem dX12_laundry_1 : decode cX12_laundry 1 = .ok (.getfield 20, 3) := dX12_laundry_0g.2.1
theorem dX12_laundry_4 : decode cX12_laundry 4 = .ok (.sipush 313, 3) := dX12_laundry_0g.2.2.1
theorem dX12_laundry_7 : decode cX12_laundry 7 = .ok (.iaload, 1) := dX12_laundry_0g.2.2.2.1
theorem dX12_laundry_8 : decode cX12_laundry 8 = .ok (.istore_n 2, 1) := dX12_laundry_0g.2.2.2.2.1
theorem dX12_laundry_9 : decode cX12_laundry 9 = .ok (.iload_n 1, 1) := dX12_laundry_0g.2.2.2.2.2.1
theorem dX12_laundry_10 : decode cX12_laundry 10 = .ok (.iconst 0, 1) := dX12_laundry_0g.2.2.2.2.2.2.1
theorem dX12_laundry_11 : decode cX12_laundry 11 = .ok (.iconst 1, 1) := dX12_laundry_0g.2.2.2.2.2.2.2.1
theorem dX12_laundry_12 : decode cX12_laundry 12 = .ok (.invokestatic 103, 3) := dX12_laundry_0g.2.2.2.2.2.2.2.2.1
theorem dX12_laundry_15 : decode cX12_laundry 15 = .ok (.ifCond .ne 29, 3) := dX12_laundry_0g.2.2.2.2.2.2.2.2.2
theorem dX12_laundry_18g : (decode cX12_laundry 18 = .ok (.iload_n 1, 1)) ∧ (decode cX12_laundry 19 = .ok (.iconst 2, 1)) ∧ (decode cX12_laundry 20 = .ok (.iconst 1, 1)) ∧ (decode cX12_laundry 21 = .ok (.iload_n 2, 1)) ∧ (decode cX12_laundry 22 = .ok (.iadd, 1)) ∧ (decode cX12_laundry 23 = .ok (.invokestatic 103, 3)) ∧ (decode cX12_laundry 26 = .ok (.ifCond .ne 18, 3)) ∧ (decode cX12_laundry 29 = .ok (.iload_n 1, 1)) ∧ (decode cX12_laundry 30 = .ok (.bipush 8, 2)) ∧ (decode cX12_laundry 32 = .ok (.bipush 7, 2)) := by decide +kernel
theorem dX12_laundry_18 : decode cX12_laundry 18 = .ok (.iload_n 1, 1) := dX12_laundry_18g.1
theorem dX12_laundry_19 : decode cX12_laundry 19 = .ok (.iconst 2, 1) := dX12_laundry_18g.2.1
theorem dX12_laundry_20 : decode cX12_laundry 20 = .ok (.iconst 1, 1) := dX12_laundry_18g.2.2.1
theorem dX12_laundry_21 : decode cX12_laundry 21 = .ok (.iload_n 2, 1) := dX12_laundry_18g.2.2.2.1
theorem dX12_laundry_22 : decode cX12_laundry 22 = .ok (.iadd, 1) := dX12_laundry_18g.2.2.2.2.1
theorem dX12_laundry_23 : decode cX12_laundry 23 = .ok (.invokestatic 103, 3) := dX12_laundry_18g.2.2.2.2.2.1
theorem dX12_laundry_26 : decode cX12_laundry 26 = .ok (.ifCond .ne 18, 3) := dX12_laundry_18g.2.2.2.2.2.2.1
theorem dX12_laundry_29 : decode cX12_laundry 29 = .ok (.iload_n 1, 1) := dX12_laundry_18g.2.2.2.2.2.2.2.1
theorem dX12_laundry_30 : decode cX12_laundry 30 = .ok (.bipush 8, 2) := dX12_laundry_18g.2.2.2.2.2.2.2.2.1
theorem dX12_laundry_32 : decode cX12_laundry 32 = .ok (.bipush 7, 2) := dX12_laundry_18g.2.2.2.2.2.2.2.2.2
theorem dX12_laundry_34g : (decode cX12_laundry 34 = .ok (.iload_n 2, 1)) ∧ (decode cX12_laundry 35 = .ok (.iadd, 1)) ∧ (decode cX12_laundry 36 = .ok (.invokestatic 103, 3)) ∧ (decode cX12_laundry 39 = .ok (.ifCond .ne 5, 3)) ∧ (decode cX12_laundry 42 = .ok (.iconst (-1), 1)) ∧ (decode cX12_laundry 43 = .ok (.ireturn, 1)) ∧ (decode cX12_laundry 44 = .ok (.aload_n 0, 1)) ∧ (decode cX12_laundry 45 = .ok (.invokevirtual 138, 3)) ∧ (decode cX12_laundry 48 = .ok (.iconst 0, 1)) ∧ (decode cX12_laundry 49 = .ok (.istore_n 3, 1)) := by decide +kernel
theorem dX12_laundry_34 : decode cX12_laundry 34 = .ok (.iload_n 2, 1) := dX12_laundry_34g.1
theorem dX12_laundry_35 : decode cX12_laundry 35 = .ok (.iadd, 1) := dX12_laundry_34g.2.1
theorem dX12_laundry_36 : decode cX12_laundry 36 = .ok (.invokestatic 103, 3) := dX12_laundry_34g.2.2.1
theorem dX12_laundry_39 : decode cX12_laundry 39 = .ok (.ifCond .ne 5, 3) := dX12_laundry_34g.2.2.2.1
theorem dX12_laundry_42 : decode cX12_laundry 42 = .ok (.iconst (-1), 1) := dX12_laundry_34g.2.2.2.2.1
theorem dX12_laundry_43 : decode cX12_laundry 43 = .ok (.ireturn, 1) := dX12_laundry_34g.2.2.2.2.2.1
theorem dX12_laundry_44 : decode cX12_laundry 44 = .ok (.aload_n 0, 1) := dX12_laundry_34g.2.2.2.2.2.2.1
theorem dX12_laundry_45 : decode cX12_laundry 45 = .ok (.invokevirtual 138, 3) := dX12_laundry_34g.2.2.2.2.2.2.2.1
theorem dX12_laundry_48 : decode cX12_laundry 48 = .ok (.iconst 0, 1) := dX12_laundry_34g.2.2.2.2.2.2.2.2.1
theorem dX12_laundry_49 : decode cX12_laundry 49 = .ok (.istore_n 3, 1) := dX12_laundry_34g.2.2.2.2.2.2.2.2.2
theorem dX12_laundry_50g : (decode cX12_laundry 50 = .ok (.iload_n 3, 1)) ∧ (decode cX12_laundry 51 = .ok (.sipush 2304, 3)) ∧ (decode cX12_laundry 54 = .ok (.if_icmp .ge 68, 3)) ∧ (decode cX12_laundry 57 = .ok (.aload_n 0, 1)) ∧ (decode cX12_laundry 58 = .ok (.getfield 88, 3)) ∧ (decode cX12_laundry 61 = .ok (.iload_n 3, 1)) ∧ (decode cX12_laundry 62 = .ok (.iconst 1, 1)) ∧ (decode cX12_laundry 63 = .ok (.bastore, 1)) ∧ (decode cX12_laundry 64 = .ok (.iconst 0, 1)) ∧ (decode cX12_laundry 65 = .ok (.istore 4, 2)) := by decide +kernel
theorem dX12_laundry_50 : decode cX12_laundry 50 = .ok (.iload_n 3, 1) := dX12_laundry_50g.1
theorem dX12_laundry_51 : decode cX12_laundry 51 = .ok (.sipush 2304, 3) := dX12_laundry_50g.2.1
theorem dX12_laundry_54 : decode cX12_laundry 54 = .ok (.if_icmp .ge 68, 3) := dX12_laundry_50g.2.2.1
theorem dX12_laundry_57 : decode cX12_laundry 57 = .ok (.aload_n 0, 1) := dX12_laundry_50g.2.2.2.1
theorem dX12_laundry_58 : decode cX12_laundry 58 = .ok (.getfield 88, 3) := dX12_laundry_50g.2.2.2.2.1
theorem dX12_laundry_61 : decode cX12_laundry 61 = .ok (.iload_n 3, 1) := dX12_laundry_50g.2.2.2.2.2.1
theorem dX12_laundry_62 : decode cX12_laundry 62 = .ok (.iconst 1, 1) := dX12_laundry_50g.2.2.2.2.2.2.1
theorem dX12_laundry_63 : decode cX12_laundry 63 = .ok (.bastore, 1) := dX12_laundry_50g.2.2.2.2.2.2.2.1
theorem dX12_laundry_64 : decode cX12_laundry 64 = .ok (.iconst 0, 1) := dX12_laundry_50g.2.2.2.2.2.2.2.2.1
theorem dX12_laundry_65 : decode cX12_laundry 65 = .ok (.istore 4, 2) := dX12_laundry_50g.2.2.2.2.2.2.2.2.2
theorem dX12_laundry_67g : (decode cX12_laundry 67 = .ok (.iload 4, 2)) ∧ (decode cX12_laundry 69 = .ok (.iconst 4, 1)) ∧ (decode cX12_laundry 70 = .ok (.if_icmp .ge 46, 3)) ∧ (decode cX12_laundry 73 = .ok (.aload_n 0, 1)) ∧ (decode cX12_laundry 74 = .ok (.getfield 88, 3)) ∧ (decode cX12_laundry 77 = .ok (.iload_n 3, 1)) ∧ (decode cX12_laundry 78 = .ok (.aload_n 0, 1)) ∧ (decode cX12_laundry 79 = .ok (.getfield 88, 3)) ∧ (decode cX12_laundry 82 = .ok (.iload_n 3, 1)) ∧ (decode cX12_laundry 83 = .ok (.baload, 1)) := by decide +kernel
theorem dX12_laundry_67 : decode cX12_laundry 67 = .ok (.iload 4, 2) := dX12_laundry_67g.1
theorem dX12_laundry_69 : decode cX12_laundry 69 = .ok (.iconst 4, 1) := dX12_laundry_67g.2.1
theorem dX12_laundry_70 : decode cX12_laundry 70 = .ok (.if_icmp .ge 46, 3) := dX12_laundry_67g.2.2.1
theorem dX12_laundry_73 : decode cX12_laundry 73 = .ok (.aload_n 0, 1) := dX12_laundry_67g.2.2.2.1
theorem dX12_laundry_74 : decode cX12_laundry 74 = .ok (.getfield 88, 3) := dX12_laundry_67g.2.2.2.2.1
theorem dX12_laundry_77 : decode cX12_laundry 77 = .ok (.iload_n 3, 1) := dX12_laundry_67g.2.2.2.2.2.1
theorem dX12_laundry_78 : decode cX12_laundry 78 = .ok (.aload_n 0, 1) := dX12_laundry_67g.2.2.2.2.2.2.1
theorem dX12_laundry_79 : decode cX12_laundry 79 = .ok (.getfield 88, 3) := dX12_laundry_67g.2.2.2.2.2.2.2.1
theorem dX12_laundry_82 : decode cX12_laundry 82 = .ok (.iload_n 3, 1) := dX12_laundry_67g.2.2.2.2.2.2.2.2.1
theorem dX12_laundry_83 : decode cX12_laundry 83 = .ok (.baload, 1) := dX12_laundry_67g.2.2.2.2.2.2.2.2.2
theorem dX12_laundry_84g : (decode cX12_laundry 84 = .ok (.ifCond .eq 24, 3)) ∧ (decode cX12_laundry 87 = .ok (.aload_n 0, 1)) ∧ (decode cX12_laundry 88 = .ok (.iload_n 3, 1)) ∧ (decode cX12_laundry 89 = .ok (.bipush 24, 2)) ∧ (decode cX12_laundry 91 = .ok (.irem, 1)) ∧ (decode cX12_laundry 92 = .ok (.iload_n 3, 1)) ∧ (decode cX12_laundry 93 = .ok (.bipush 24, 2)) ∧ (decode cX12_laundry 95 = .ok (.idiv, 1)) ∧ (decode cX12_laundry 96 = .ok (.iload 4, 2)) ∧ (decode cX12_laundry 98 = .ok (.invokevirtual 322, 3)) := by decide +kernel
theorem dX12_laundry_84 : decode cX12_laundry 84 = .ok (.ifCond .eq 24, 3) := dX12_laundry_84g.1
theorem dX12_laundry_87 : decode cX12_laundry 87 = .ok (.aload_n 0, 1) := dX12_laundry_84g.2.1
theorem dX12_laundry_88 : decode cX12_laundry 88 = .ok (.iload_n 3, 1) := dX12_laundry_84g.2.2.1
theorem dX12_laundry_89 : decode cX12_laundry 89 = .ok (.bipush 24, 2) := dX12_laundry_84g.2.2.2.1
theorem dX12_laundry_91 : decode cX12_laundry 91 = .ok (.irem, 1) := dX12_laundry_84g.2.2.2.2.1
theorem dX12_laundry_92 : decode cX12_laundry 92 = .ok (.iload_n 3, 1) := dX12_laundry_84g.2.2.2.2.2.1
theorem dX12_laundry_93 : decode cX12_laundry 93 = .ok (.bipush 24, 2) := dX12_laundry_84g.2.2.2.2.2.2.1
theorem dX12_laundry_95 : decode cX12_laundry 95 = .ok (.idiv, 1) := dX12_laundry_84g.2.2.2.2.2.2.2.1
theorem dX12_laundry_96 : decode cX12_laundry 96 = .ok (.iload 4, 2) := dX12_laundry_84g.2.2.2.2.2.2.2.2.1
theorem dX12_laundry_98 : decode cX12_laundry 98 = .ok (.invokevirtual 322, 3) := dX12_laundry_84g.2.2.2.2.2.2.2.2.2
theorem dX12_laundry_101g : (decode cX12_laundry 101 = .ok (.ifCond .ne 7, 3)) ∧ (decode cX12_laundry 104 = .ok (.iconst 1, 1)) ∧ (decode cX12_laundry 105 = .ok (.goto 4, 3)) ∧ (decode cX12_laundry 108 = .ok (.iconst 0, 1)) ∧ (decode cX12_laundry 109 = .ok (.bastore, 1)) ∧ (decode cX12_laundry 110 = .ok (.iinc 4 1, 3)) ∧ (decode cX12_laundry 113 = .ok (.goto (-46), 3)) ∧ (decode cX12_laundry 116 = .ok (.iinc 3 1, 3)) ∧ (decode cX12_laundry 119 = .ok (.goto (-69), 3)) ∧ (decode cX12_laundry 122 = .ok (.aload_n 0, 1)) := by decide +kernel
theorem dX12_laundry_101 : decode cX12_laundry 101 = .ok (.ifCond .ne 7, 3) := dX12_laundry_101g.1
theorem dX12_laundry_104 : decode cX12_laundry 104 = .ok (.iconst 1, 1) := dX12_laundry_101g.2.1
theorem dX12_laundry_105 : decode cX12_laundry 105 = .ok (.goto 4, 3) := dX12_laundry_101g.2.2.1
theorem dX12_laundry_108 : decode cX12_laundry 108 = .ok (.iconst 0, 1) := dX12_laundry_101g.2.2.2.1
theorem dX12_laundry_109 : decode cX12_laundry 109 = .ok (.bastore, 1) := dX12_laundry_101g.2.2.2.2.1
theorem dX12_laundry_110 : decode cX12_laundry 110 = .ok (.iinc 4 1, 3) := dX12_laundry_101g.2.2.2.2.2.1
theorem dX12_laundry_113 : decode cX12_laundry 113 = .ok (.goto (-46), 3) := dX12_laundry_101g.2.2.2.2.2.2.1
theorem dX12_laundry_116 : decode cX12_laundry 116 = .ok (.iinc 3 1, 3) := dX12_laundry_101g.2.2.2.2.2.2.2.1
theorem dX12_laundry_119 : decode cX12_laundry 119 = .ok (.goto (-69), 3) := dX12_laundry_101g.2.2.2.2.2.2.2.2.1
theorem dX12_laundry_122 : decode cX12_laundry 122 = .ok (.aload_n 0, 1) := dX12_laundry_101g.2.2.2.2.2.2.2.2.2
theorem dX12_laundry_123g : (decode cX12_laundry 123 = .ok (.iconst 0, 1)) ∧ (decode cX12_laundry 124 = .ok (.putfield 354, 3)) ∧ (decode cX12_laundry 127 = .ok (.aload_n 0, 1)) ∧ (decode cX12_laundry 128 = .ok (.iconst 0, 1)) ∧ (decode cX12_laundry 129 = .ok (.putfield 357, 3)) ∧ (decode cX12_laundry 132 = .ok (.aload_n 0, 1)) ∧ (decode cX12_laundry 133 = .ok (.iconst 0, 1)) ∧ (decode cX12_laundry 134 = .ok (.iconst 0, 1)) ∧ (decode cX12_laundry 135 = .ok (.iconst 0, 1)) ∧ (decode cX12_laundry 136 = .ok (.invokevirtual 366, 3)) := by decide +kernel
theorem dX12_laundry_123 : decode cX12_laundry 123 = .ok (.iconst 0, 1) := dX12_laundry_123g.1
theorem dX12_laundry_124 : decode cX12_laundry 124 = .ok (.putfield 354, 3) := dX12_laundry_123g.2.1
theorem dX12_laundry_127 : decode cX12_laundry 127 = .ok (.aload_n 0, 1) := dX12_laundry_123g.2.2.1
theorem dX12_laundry_128 : decode cX12_laundry 128 = .ok (.iconst 0, 1) := dX12_laundry_123g.2.2.2.1
theorem dX12_laundry_129 : decode cX12_laundry 129 = .ok (.putfield 357, 3) := dX12_laundry_123g.2.2.2.2.1
theorem dX12_laundry_132 : decode cX12_laundry 132 = .ok (.aload_n 0, 1) := dX12_laundry_123g.2.2.2.2.2.1
theorem dX12_laundry_133 : decode cX12_laundry 133 = .ok (.iconst 0, 1) := dX12_laundry_123g.2.2.2.2.2.2.1
theorem dX12_laundry_134 : decode cX12_laundry 134 = .ok (.iconst 0, 1) := dX12_laundry_123g.2.2.2.2.2.2.2.1
theorem dX12_laundry_135 : decode cX12_laundry 135 = .ok (.iconst 0, 1) := dX12_laundry_123g.2.2.2.2.2.2.2.2.1
theorem dX12_laundry_136 : decode cX12_laundry 136 = .ok (.invokevirtual 366, 3) := dX12_laundry_123g.2.2.2.2.2.2.2.2.2
theorem dX12_laundry_139g : (decode cX12_laundry 139 = .ok (.iload_n 1, 1)) ∧ (decode cX12_laundry 140 = .ok (.iconst 1, 1)) ∧ (decode cX12_laundry 141 = .ok (.if_icmp .ne 8, 3)) ∧ (decode cX12_laundry 144 = .ok (.aload_n 0, 1)) ∧ (decode cX12_laundry 145 = .ok (.getfield 354, 3)) ∧ (decode cX12_laundry 148 = .ok (.ireturn, 1)) ∧ (decode cX12_laundry 149 = .ok (.aload_n 0, 1)) ∧ (decode cX12_laundry 150 = .ok (.getfield 354, 3)) ∧ (decode cX12_laundry 153 = .ok (.ifCond .ne 5, 3)) ∧ (decode cX12_laundry 156 = .ok (.iconst (-1), 1)) := by decide +kernel
theorem dX12_laundry_139 : decode cX12_laundry 139 = .ok (.iload_n 1, 1) := dX12_laundry_139g.1
theorem dX12_laundry_140 : decode cX12_laundry 140 = .ok (.iconst 1, 1) := dX12_laundry_139g.2.1
theorem dX12_laundry_141 : decode cX12_laundry 141 = .ok (.if_icmp .ne 8, 3) := dX12_laundry_139g.2.2.1
theorem dX12_laundry_144 : decode cX12_laundry 144 = .ok (.aload_n 0, 1) := dX12_laundry_139g.2.2.2.1
theorem dX12_laundry_145 : decode cX12_laundry 145 = .ok (.getfield 354, 3) := dX12_laundry_139g.2.2.2.2.1
theorem dX12_laundry_148 : decode cX12_laundry 148 = .ok (.ireturn, 1) := dX12_laundry_139g.2.2.2.2.2.1
theorem dX12_laundry_149 : decode cX12_laundry 149 = .ok (.aload_n 0, 1) := dX12_laundry_139g.2.2.2.2.2.2.1
theorem dX12_laundry_150 : decode cX12_laundry 150 = .ok (.getfield 354, 3) := dX12_laundry_139g.2.2.2.2.2.2.2.1
theorem dX12_laundry_153 : decode cX12_laundry 153 = .ok (.ifCond .ne 5, 3) := dX12_laundry_139g.2.2.2.2.2.2.2.2.1
theorem dX12_laundry_156 : decode cX12_laundry 156 = .ok (.iconst (-1), 1) := dX12_laundry_139g.2.2.2.2.2.2.2.2.2
theorem dX12_laundry_157g : (decode cX12_laundry 157 = .ok (.ireturn, 1)) ∧ (decode cX12_laundry 158 = .ok (.iload_n 1, 1)) ∧ (decode cX12_laundry 159 = .ok (.ifCond .ne 10, 3)) ∧ (decode cX12_laundry 162 = .ok (.aload_n 0, 1)) ∧ (decode cX12_laundry 163 = .ok (.getfield 357, 3)) ∧ (decode cX12_laundry 166 = .ok (.goto 29, 3)) ∧ (decode cX12_laundry 169 = .ok (.iload_n 1, 1)) ∧ (decode cX12_laundry 170 = .ok (.bipush 8, 2)) ∧ (decode cX12_laundry 172 = .ok (.if_icmp .ge 14, 3)) ∧ (decode cX12_laundry 175 = .ok (.aload_n 0, 1)) := by decide +kernel
theorem dX12_laundry_157 : decode cX12_laundry 157 = .ok (.ireturn, 1) := dX12_laundry_157g.1
theorem dX12_laundry_158 : decode cX12_laundry 158 = .ok (.iload_n 1, 1) := dX12_laundry_157g.2.1
theorem dX12_laundry_159 : decode cX12_laundry 159 = .ok (.ifCond .ne 10, 3) := dX12_laundry_157g.2.2.1
theorem dX12_laundry_162 : decode cX12_laundry 162 = .ok (.aload_n 0, 1) := dX12_laundry_157g.2.2.2.1
theorem dX12_laundry_163 : decode cX12_laundry 163 = .ok (.getfield 357, 3) := dX12_laundry_157g.2.2.2.2.1
theorem dX12_laundry_166 : decode cX12_laundry 166 = .ok (.goto 29, 3) := dX12_laundry_157g.2.2.2.2.2.1
theorem dX12_laundry_169 : decode cX12_laundry 169 = .ok (.iload_n 1, 1) := dX12_laundry_157g.2.2.2.2.2.2.1
theorem dX12_laundry_170 : decode cX12_laundry 170 = .ok (.bipush 8, 2) := dX12_laundry_157g.2.2.2.2.2.2.2.1
theorem dX12_laundry_172 : decode cX12_laundry 172 = .ok (.if_icmp .ge 14, 3) := dX12_laundry_157g.2.2.2.2.2.2.2.2.1
theorem dX12_laundry_175 : decode cX12_laundry 175 = .ok (.aload_n 0, 1) := dX12_laundry_157g.2.2.2.2.2.2.2.2.2
theorem dX12_laundry_176g : (decode cX12_laundry 176 = .ok (.getfield 82, 3)) ∧ (decode cX12_laundry 179 = .ok (.iload_n 1, 1)) ∧ (decode cX12_laundry 180 = .ok (.iconst 2, 1)) ∧ (decode cX12_laundry 181 = .ok (.isub, 1)) ∧ (decode cX12_laundry 182 = .ok (.iaload, 1)) ∧ (decode cX12_laundry 183 = .ok (.goto 12, 3)) ∧ (decode cX12_laundry 186 = .ok (.aload_n 0, 1)) ∧ (decode cX12_laundry 187 = .ok (.getfield 85, 3)) ∧ (decode cX12_laundry 190 = .ok (.iload_n 1, 1)) ∧ (decode cX12_laundry 191 = .ok (.bipush 8, 2)) := by decide +kernel
theorem dX12_laundry_176 : decode cX12_laundry 176 = .ok (.getfield 82, 3) := dX12_laundry_176g.1
theorem dX12_laundry_179 : decode cX12_laundry 179 = .ok (.iload_n 1, 1) := dX12_laundry_176g.2.1
theorem dX12_laundry_180 : decode cX12_laundry 180 = .ok (.iconst 2, 1) := dX12_laundry_176g.2.2.1
theorem dX12_laundry_181 : decode cX12_laundry 181 = .ok (.isub, 1) := dX12_laundry_176g.2.2.2.1
theorem dX12_laundry_182 : decode cX12_laundry 182 = .ok (.iaload, 1) := dX12_laundry_176g.2.2.2.2.1
theorem dX12_laundry_183 : decode cX12_laundry 183 = .ok (.goto 12, 3) := dX12_laundry_176g.2.2.2.2.2.1
theorem dX12_laundry_186 : decode cX12_laundry 186 = .ok (.aload_n 0, 1) := dX12_laundry_176g.2.2.2.2.2.2.1
theorem dX12_laundry_187 : decode cX12_laundry 187 = .ok (.getfield 85, 3) := dX12_laundry_176g.2.2.2.2.2.2.2.1
theorem dX12_laundry_190 : decode cX12_laundry 190 = .ok (.iload_n 1, 1) := dX12_laundry_176g.2.2.2.2.2.2.2.2.1
theorem dX12_laundry_191 : decode cX12_laundry 191 = .ok (.bipush 8, 2) := dX12_laundry_176g.2.2.2.2.2.2.2.2.2
theorem dX12_laundry_193g : (decode cX12_laundry 193 = .ok (.isub, 1)) ∧ (decode cX12_laundry 194 = .ok (.iaload, 1)) ∧ (decode cX12_laundry 195 = .ok (.ireturn, 1)) := by decide +kernel
theorem dX12_laundry_193 : decode cX12_laundry 193 = .ok (.isub, 1) := dX12_laundry_193g.1
theorem dX12_laundry_194 : decode cX12_laundry 194 = .ok (.iaload, 1) := dX12_laundry_193g.2.1
theorem dX12_laundry_195 : decode cX12_laundry 195 = .ok (.ireturn, 1) := dX12_laundry_193g.2.2
set_option maxHeartbeats 4000000 in
set_option maxRecDepth 100000 in
theorem c_X12_laundry (l : Launch) (E : Nat → Nat) (D : va_G) (G : th_G) (h0 : Nat) (hG0 : G h0 = some (10, 0)) (x1 : Int32) : Met l yX12_laundry (tb (.code yX12_laundry cX12_laundry 5 (some .int))) (rm 69) (va_Pc [.ref h0, .int x1] (PX E D G (fun H => True))) (QXi E D G (fun r H => True)) 0 0 (th_A G) := by
  refine Met.ofW (cc := cX12_laundry) (maxL := 5) (ret := (some .int)) (by decide) rfl ?_
  intro p e s m args below meth c s₁ B hml hv
  obtain ⟨hav, ⟨hI, hN, hK⟩, hX⟩ := hv
  have hx := B.exec
  have hb := B.bytes
  have hr := B.returns
  have hts := atoms_spec (ws := tb (.code yX12_laundry cX12_laundry 5 (some .int))) B.pre
  have hown : s.vm.findClass RX12 = some m.cls := findClass_of_methodNamed B.named
  have hlocks := B.notSynchronized
  have hS : va_S (th_A G) s.heap s.heap [] := va_S.rf
  have hl := lv_entry ([.ref h0, .int x1]) (n := 5) (Nat.le_of_ble_eq_true rfl)
  rw [show entryFrame m args 5 = entryFrame m ([.ref h0, .int x1] : List Value).toArray 5 from by rw [hav], lg_entry_eq]
  generalize (lg_sl ([.ref h0, .int x1]) ++ List.replicate (5 - (lg_sl ([.ref h0, .int x1])).length) Slot.unset).toArray = ls at hl ⊢
  have hl : lv_has ls 5 [(0, .ref h0), (1, .int x1)] := hl
  generalize hR : (headSpec (tb (.code yX12_laundry cX12_laundry 5 (some .int))) (rm 69)).room = R
  have hR := hR.symm
  generalize hQ : MQ below (QXi E D G (fun r H => True)) args s 0 0 (th_A G) = QF
  have hQ := hQ.symm
  have J_50 : ∀ (nn : Nat) (H : Heap) (locs : List Loc) (ls : Array Slot) (v1739 : Int32) (v1740 : Int32) , (Int.toNat (2304 - v1739.toInt) = nn) → lv_has ls 5 [(3, .int v1739), (2, .int v1740), (0, .ref h0), (1, .int x1)] → ((0 : Int) ≤ v1739.toInt ∧ v1739.toInt ≤ 2304) → ((0 : Int) ≤ v1740.toInt ∧ v1740.toInt ≤ 6) → ((0 : Int) ≤ x1.toInt ∧ x1.toInt ≤ 13) → th_I (okM E) D G [] H → va_S (th_A G) s.heap H locs → W p l e R s m args below meth c H locs 0 0 QF (F0 m 50 ls []) := by
    intro nn
    induction nn using Nat.strongRecOn with
    | ind nn ih_50 =>
      intro H locs ls v1739 v1740  hm hl k1741 k1742 k1743 hI hS
      have J_67 : ∀ (nn : Nat) (H : Heap) (locs : List Loc) (ls : Array Slot) (v1744 : Int32) , (Int.toNat (4 - v1744.toInt) = nn) → lv_has ls 5 [(4, .int v1744), (3, .int v1739), (2, .int v1740), (0, .ref h0), (1, .int x1)] → ((0 : Int) ≤ v1744.toInt ∧ v1744.toInt ≤ 4) → ((0 : Int) ≤ v1739.toInt ∧ v1739.toInt ≤ 2303) → th_I (okM E) D G [] H → va_S (th_A G) s.heap H locs → W p l e R s m args below meth c H locs 0 0 QF (F0 m 67 ls []) := by
        intro nn
        induction nn using Nat.strongRecOn with
        | ind nn ih_67 =>
          intro H locs ls v1744  hm hl k1747 k1748 hI hS
          have J_109 : ∀ (H : Heap) (locs : List Loc) (ls : Array Slot) (v1752 : Int32) (v1753 : Int32) (a1754 : Nat) , lv_has ls 5 [(4, .int v1744), (3, .int v1739), (2, .int v1740), (0, .ref h0), (1, .int x1)] → ((0 : Int) ≤ v1744.toInt ∧ v1744.toInt ≤ 3) → ((0 : Int) ≤ v1752.toInt ∧ v1752.toInt ≤ 1) → ((0 : Int) ≤ v1753.toInt ∧ v1753.toInt ≤ 2303) → G a1754 = some (5, 2304) → th_I (okM E) D G [] H → va_S (th_A G) s.heap H locs → W p l e R s m args below meth c H locs 0 0 QF (F0 m 109 ls [.int v1752, .int v1753, .ref a1754]) := by
            intro H locs ls v1752 v1753 a1754  hl k1755 k1756 k1757 ha1754 hI hS
            obtain ⟨F1758, hA1759⟩ := om_5 hI ha1754 List.not_mem_nil
            refine th_zast hx hb hK hA1759 2 rfl hS ⟨_, ha1754⟩ (iv_in (X := v1753.toInt) rfl (by omega) (by omega)) dX12_laundry_109 (fun H locs hA1760 oq hS => ?_)
            have hI := th_I.put hI ha1754 hA1760 ok_m5 oq
            obtain ⟨v1761, e1762⟩ : ∃ y : Int32, y = v1744 + (1) := ⟨_, rfl⟩
            have tv1761 : v1761.toInt = v1744.toInt + (1) := iv_add rfl (by decide) e1762 (by omega) (by omega)
            refine lv_iinc (v := v1761) (lv' := [(4, .int v1761), (3, .int v1739), (2, .int v1740), (0, .ref h0), (1, .int x1)]) hx hb dX12_laundry_110 hl (k := 0) rfl (by rw [e1762]; rfl) (by decide) rfl (fun ls hl => ?_)
            refine lv_goto (tgt := 67) hx hb dX12_laundry_113 (by decide) ?_
            exact ih_67 _ (by omega) H locs ls v1761  rfl (lv_sub hl [0, 1, 2, 3, 4] rfl) ⟨by omega, by omega⟩ ⟨by omega, by omega⟩ hI hS
          have J_108 : ∀ (H : Heap) (locs : List Loc) (ls : Array Slot) (v1766 : Int32) (a1767 : Nat) , lv_has ls 5 [(4, .int v1744), (3, .int v1739), (2, .int v1740), (0, .ref h0), (1, .int x1)] → ((0 : Int) ≤ v1744.toInt ∧ v1744.toInt ≤ 3) → ((0 : Int) ≤ v1766.toInt ∧ v1766.toInt ≤ 2303) → G a1767 = some (5, 2304) → th_I (okM E) D G [] H → va_S (th_A G) s.heap H locs → W p l e R s m args below meth c H locs 0 0 QF (F0 m 108 ls [.int v1766, .ref a1767]) := by
            intro H locs ls v1766 a1767  hl k1768 k1769 ha1767 hI hS
            refine lv_iconst (v := 0) hx hb dX12_laundry_108 (by decide) ?_
            exact J_109 H locs ls 0 v1766 a1767  (lv_sub hl [0, 1, 2, 3, 4] rfl) ⟨by omega, by omega⟩ ⟨by decide, by decide⟩ ⟨by omega, by omega⟩ ha1767 hI hS
          refine lv_iload hx hb dX12_laundry_67 (lv_at hl 0 rfl) ?_
          refine lv_iconst (v := 4) hx hb dX12_laundry_69 (by decide) ?_
          refine lv_icmp_ge (tgt := 116) hx hb dX12_laundry_70 (by decide) (fun c1770 => ?_) (fun c1770 => ?_)
          · skip
            have k1771 := iv_le (X := (4)) (Y := v1744.toInt) (by decide) rfl c1770
            obtain ⟨v1772, e1773⟩ : ∃ y : Int32, y = v1739 + (1) := ⟨_, rfl⟩
            have tv1772 : v1772.toInt = v1739.toInt + (1) := iv_add rfl (by decide) e1773 (by omega) (by omega)
            refine lv_iinc (v := v1772) (lv' := [(3, .int v1772), (4, .int v1744), (2, .int v1740), (0, .ref h0), (1, .int x1)]) hx hb dX12_laundry_116 hl (k := 1) rfl (by rw [e1773]; rfl) (by decide) rfl (fun ls hl => ?_)
            refine lv_goto (tgt := 50) hx hb dX12_laundry_119 (by decide) ?_
            exact ih_50 _ (by omega) H locs ls v1772 v1740  rfl (lv_sub hl [0, 2, 3, 4] rfl) ⟨by omega, by omega⟩ ⟨by omega, by omega⟩ ⟨by omega, by omega⟩ hI hS
          · skip
            have k1774 := iv_nle (X := (4)) (Y := v1744.toInt) (by decide) rfl c1770
            refine lv_aload_n hx hb dX12_laundry_73 rfl (lv_at hl 3 rfl) ?_
            refine gmA hx hb hts inT12 hown hK hI List.not_mem_nil hG0 39 (by decide) (hts _ (tb_c wd_1272)) rfl rfl dX12_laundry_74 (fun a1775 hq1776 hf1777 => ?_)
            refine lv_iload_n hx hb dX12_laundry_77 rfl (lv_at hl 1 rfl) ?_
            refine lv_aload_n hx hb dX12_laundry_78 rfl (lv_at hl 3 rfl) ?_
            refine gmA hx hb hts inT12 hown hK hI List.not_mem_nil hG0 39 (by decide) (hts _ (tb_c wd_1272)) rfl rfl dX12_laundry_79 (fun a1778 hq1779 hf1780 => ?_)
            obtain rfl := fr.uniq (by decide) hf1777 hf1780
            refine lv_iload_n hx hb dX12_laundry_82 rfl (lv_at hl 1 rfl) ?_
            obtain ⟨F1781, hA1782⟩ := om_5 hI hq1776 List.not_mem_nil
            refine va_zald hx hb hK (th_one hA1782) 0 2 rfl rfl (iv_in (X := v1739.toInt) rfl (by omega) (by omega)) dX12_laundry_83 ?_
            refine lv_topi (fun v1783 e1784 => ?_)
            have k1785 := iv_lo v1783
            have k1786 := iv_hi v1783
            refine lv_if_eq (tgt := 108) hx hb dX12_laundry_84 (by decide) (fun c1787 => ?_) (fun c1787 => ?_)
            · skip
              have k1788 := iv_eq (X := v1783.toInt) (Y := (0)) rfl (by decide) c1787
              exact J_108 H locs ls v1739 a1775  (lv_sub hl [0, 1, 2, 3, 4] rfl) ⟨by omega, by omega⟩ ⟨by omega, by omega⟩ hq1776 hI hS
            · skip
              have k1789 := iv_ne (X := v1783.toInt) (Y := (0)) rfl (by decide) c1787
              refine lv_aload_n hx hb dX12_laundry_87 rfl (lv_at hl 3 rfl) ?_
              refine lv_iload_n hx hb dX12_laundry_88 rfl (lv_at hl 1 rfl) ?_
              refine lv_bipush (v := 24) hx hb dX12_laundry_89 (by decide) ?_
              refine lv_irem hx hb dX12_laundry_91 (by decide) ?_
              refine lv_topi (fun v1790 e1791 => ?_)
              have tv1790 := iv_remp (X := v1739.toInt) (Y := 24) rfl (by decide) e1791 (by decide) (by omega)
              refine lv_iload_n hx hb dX12_laundry_92 rfl (lv_at hl 1 rfl) ?_
              refine lv_bipush (v := 24) hx hb dX12_laundry_93 (by decide) ?_
              refine lv_idiv hx hb dX12_laundry_95 (by decide) ?_
              refine lv_topi (fun v1792 e1793 => ?_)
              have tv1792 := iv_divp (X := v1739.toInt) (Y := 24) rfl (by decide) e1793 (by decide) (by omega)
              refine lv_iload hx hb dX12_laundry_96 (lv_at hl 0 rfl) ?_
              refine mr_i (As := [.int v1790, .int v1792, .int v1744]) (rest := [.int v1739, .ref a1775]) (n := 3) (d := 1) ⟨hx, hb, hml, hown, hts⟩ (c_X12_dyeOf l E D G H h0 hG0 v1790 v1792 v1744 (by omega)) wd_1717 wd_1719 wp_82 wd_13 wd_1720 (by decide +kernel) ⟨by rw [hR]; exact Nat.le_of_ble_eq_true rfl, by rw [hR]; exact Nat.le_of_ble_eq_true rfl⟩ hI hN hK hS hG0 rfl hl.1 rfl (Nat.le_of_ble_eq_true rfl) dX12_laundry_98 ⟨Nat.zero_le _, Nat.zero_le _⟩ (fun r1794 locs hp hS => ?_)
              have k1795 := iv_lo r1794
              have k1796 := iv_hi r1794
              refine lv_if_ne (tgt := 108) hx hb dX12_laundry_101 (by decide) (fun c1797 => ?_) (fun c1797 => ?_)
              · skip
                have k1798 := iv_ne (X := r1794.toInt) (Y := (0)) rfl (by decide) c1797
                exact J_108 H locs ls v1739 a1775  (lv_sub hl [0, 1, 2, 3, 4] rfl) ⟨by omega, by omega⟩ ⟨by omega, by omega⟩ hq1776 hI hS
              · skip
                have k1799 := iv_eq (X := r1794.toInt) (Y := (0)) rfl (by decide) c1797
                refine lv_iconst (v := 1) hx hb dX12_laundry_104 (by decide) ?_
                refine lv_goto (tgt := 109) hx hb dX12_laundry_105 (by decide) ?_
                exact J_109 H locs ls 1 v1739 a1775  (lv_sub hl [0, 1, 2, 3, 4] rfl) ⟨by omega, by omega⟩ ⟨by decide, by decide⟩ ⟨by omega, by omega⟩ hq1776 hI hS
      refine lv_iload_n hx hb dX12_laundry_50 rfl (lv_at hl 0 rfl) ?_
      refine lv_sipush (v := 2304) hx hb dX12_laundry_51 (by decide) ?_
      refine lv_icmp_ge (tgt := 122) hx hb dX12_laundry_54 (by decide) (fun c1800 => ?_) (fun c1800 => ?_)
      · skip
        have k1801 := iv_le (X := (2304)) (Y := v1739.toInt) (by decide) rfl c1800
        refine lv_aload_n hx hb dX12_laundry_122 rfl (lv_at hl 2 rfl) ?_
        refine lv_iconst (v := 0) hx hb dX12_laundry_123 (by decide) ?_
        refine pmI (ty := .int) hx hb hts inT12 hown hK hI List.not_mem_nil hG0 hS ⟨_, hG0⟩ 41 (by decide) (hts _ (tb_c wd_1274)) rfl rfl (by decide +kernel) rfl rfl rfl (by decide) (by decide) dX12_laundry_124 (fun H locs hI hgP hS => ?_)
        have hg1802 := hgP.2.1
        refine lv_aload_n hx hb dX12_laundry_127 rfl (lv_at hl 2 rfl) ?_
        refine lv_iconst (v := 0) hx hb dX12_laundry_128 (by decide) ?_
        refine pmI (ty := .int) hx hb hts inT12 hown hK hI List.not_mem_nil hG0 hS ⟨_, hG0⟩ 40 (by decide) (hts _ (tb_c wd_1273)) rfl rfl (by decide +kernel) rfl rfl rfl (by decide) (by decide) dX12_laundry_129 (fun H locs hI hgP hS => ?_)
        have hg1802 := hgP.2.2.1 41 _ (by decide) (by decide) hg1802
        have hg1803 := hgP.2.1
        refine lv_aload_n hx hb dX12_laundry_132 rfl (lv_at hl 2 rfl) ?_
        refine lv_iconst (v := 0) hx hb dX12_laundry_133 (by decide) ?_
        refine lv_iconst (v := 0) hx hb dX12_laundry_134 (by decide) ?_
        refine lv_iconst (v := 0) hx hb dX12_laundry_135 (by decide) ?_
        obtain ⟨a1805, hq1806, hf1807⟩ := fr_of hI hG0 3 (by decide) (kd := (1, 5123)) rfl
        obtain ⟨F1808, hA1809, hP1810⟩ := om_1 hI hq1806 List.not_mem_nil
        refine mx_v (As := [.int 0, .int 0, .int 0]) (rest := []) (n := 3) (d := 7) ⟨hx, hb, hml, hown, hts⟩ (c_X12_orders0 l E D G 6 h0 hG0 0 0 0 F1808 hP1810 (ord_ok hP1810) (ord_6 hP1810)) wd_1785 wd_1787 wp_88 wd_13 wd_1788 (by decide +kernel) ⟨by rw [hR]; exact Nat.le_of_ble_eq_true rfl, by rw [hR]; exact Nat.le_of_ble_eq_true rfl⟩ hI hN hK hS hG0 (⟨a1805, hf1807, hq1806, hA1809⟩) rfl hl.1 rfl (Nat.le_of_ble_eq_true rfl) dX12_laundry_136 ⟨Nat.zero_le _, Nat.zero_le _⟩ (fun H locs hI hp hS => ?_)
        obtain ⟨a1811, hf1812, hq1813, hA1814⟩ := hp
        refine lv_iload_n hx hb dX12_laundry_139 rfl (lv_at hl 3 rfl) ?_
        refine lv_iconst (v := 1) hx hb dX12_laundry_140 (by decide) ?_
        refine lv_icmp_ne (tgt := 149) hx hb dX12_laundry_141 (by decide) (fun c1815 => ?_) (fun c1815 => ?_)
        · skip
          have k1816 := iv_ne (X := x1.toInt) (Y := (1)) rfl (by decide) c1815
          refine lv_aload_n hx hb dX12_laundry_149 rfl (lv_at hl 2 rfl) ?_
          refine gmI hx hb hts inT12 hown hK hI List.not_mem_nil hG0 41 (by decide) (hts _ (tb_c wd_1274)) rfl rfl dX12_laundry_150 (fun w1817 hg1818 k1819 k1820 => ?_)
          refine lv_if_ne (tgt := 158) hx hb dX12_laundry_153 (by decide) (fun c1821 => ?_) (fun c1821 => ?_)
          · skip
            have k1822 := iv_ne (X := w1817.toInt) (Y := (0)) rfl (by decide) c1821
            refine lv_iload_n hx hb dX12_laundry_158 rfl (lv_at hl 3 rfl) ?_
            refine lv_if_ne (tgt := 169) hx hb dX12_laundry_159 (by decide) (fun c1823 => ?_) (fun c1823 => ?_)
            · skip
              have k1824 := iv_ne (X := x1.toInt) (Y := (0)) rfl (by decide) c1823
              refine lv_iload_n hx hb dX12_laundry_169 rfl (lv_at hl 3 rfl) ?_
              refine lv_bipush (v := 8) hx hb dX12_laundry_170 (by decide) ?_
              refine lv_icmp_ge (tgt := 186) hx hb dX12_laundry_172 (by decide) (fun c1825 => ?_) (fun c1825 => ?_)
              · skip
                have k1826 := iv_le (X := (8)) (Y := x1.toInt) (by decide) rfl c1825
                refine lv_aload_n hx hb dX12_laundry_186 rfl (lv_at hl 2 rfl) ?_
                refine gmA hx hb hts inT12 hown hK hI List.not_mem_nil hG0 38 (by decide) (hts _ (tb_c wd_1271)) rfl rfl dX12_laundry_187 (fun a1827 hq1828 hf1829 => ?_)
                refine lv_iload_n hx hb dX12_laundry_190 rfl (lv_at hl 3 rfl) ?_
                refine lv_bipush (v := 8) hx hb dX12_laundry_191 (by decide) ?_
                refine lv_isub hx hb dX12_laundry_193 ?_
                refine lv_topi (fun v1830 e1831 => ?_)
                have tv1830 : v1830.toInt = x1.toInt - (8) := iv_sub rfl (by decide) e1831 (by omega) (by omega)
                obtain ⟨F1832, hA1833⟩ := om_0 hI hq1828 List.not_mem_nil
                refine th_iald hx hb hK hA1833 0 rfl (iv_in (X := v1830.toInt) rfl (by omega) (by omega)) dX12_laundry_194 (fun v1834 e1835 => ?_)
                have hpost : True := trivial
                rw [hQ]
                exact W.iret (v := v1834) hx hb hr (fun t ht hW => ⟨⟨v1834, v1834, rfl, rfl, ⟨by rw [ht]; exact hI, hN.warm hW, va_K.moved hW.alike hK⟩, by first | (rw [ht]; exact hpost) | exact hpost⟩, hS.F ht⟩) hS.2.2 dX12_laundry_195
              · skip
                have k1836 := iv_nle (X := (8)) (Y := x1.toInt) (by decide) rfl c1825
                refine lv_aload_n hx hb dX12_laundry_175 rfl (lv_at hl 2 rfl) ?_
                refine gmA hx hb hts inT12 hown hK hI List.not_mem_nil hG0 37 (by decide) (hts _ (tb_c wd_1270)) rfl rfl dX12_laundry_176 (fun a1837 hq1838 hf1839 => ?_)
                refine lv_iload_n hx hb dX12_laundry_179 rfl (lv_at hl 3 rfl) ?_
                refine lv_iconst (v := 2) hx hb dX12_laundry_180 (by decide) ?_
                refine lv_isub hx hb dX12_laundry_181 ?_
                refine lv_topi (fun v1840 e1841 => ?_)
                have tv1840 : v1840.toInt = x1.toInt - (2) := iv_sub rfl (by decide) e1841 (by omega) (by omega)
                obtain ⟨F1842, hA1843⟩ := om_0 hI hq1838 List.not_mem_nil
                refine th_iald hx hb hK hA1843 0 rfl (iv_in (X := v1840.toInt) rfl (by omega) (by omega)) dX12_laundry_182 (fun v1844 e1845 => ?_)
                refine lv_goto (tgt := 195) hx hb dX12_laundry_183 (by decide) ?_
                have hpost : True := trivial
                rw [hQ]
                exact W.iret (v := v1844) hx hb hr (fun t ht hW => ⟨⟨v1844, v1844, rfl, rfl, ⟨by rw [ht]; exact hI, hN.warm hW, va_K.moved hW.alike hK⟩, by first | (rw [ht]; exact hpost) | exact hpost⟩, hS.F ht⟩) hS.2.2 dX12_laundry_195
            · skip
              have k1846 := iv_eq (X := x1.toInt) (Y := (0)) rfl (by decide) c1823
              refine lv_aload_n hx hb dX12_laundry_162 rfl (lv_at hl 2 rfl) ?_
              refine gmI hx hb hts inT12 hown hK hI List.not_mem_nil hG0 40 (by decide) (hts _ (tb_c wd_1273)) rfl rfl dX12_laundry_163 (fun w1847 hg1848 k1849 k1850 => ?_)
              refine lv_goto (tgt := 195) hx hb dX12_laundry_166 (by decide) ?_
              have hpost : True := trivial
              rw [hQ]
              exact W.iret (v := w1847) hx hb hr (fun t ht hW => ⟨⟨w1847, w1847, rfl, rfl, ⟨by rw [ht]; exact hI, hN.warm hW, va_K.moved hW.alike hK⟩, by first | (rw [ht]; exact hpost) | exact hpost⟩, hS.F ht⟩) hS.2.2 dX12_laundry_195
          · skip
            have k1851 := iv_eq (X := w1817.toInt) (Y := (0)) rfl (by decide) c1821
            refine lv_iconst (v := (-1)) hx hb dX12_laundry_156 (by decide) ?_
            have hpost : True := trivial
            rw [hQ]
            exact W.iret (v := (-1)) hx hb hr (fun t ht hW => ⟨⟨(-1), (-1), rfl, rfl, ⟨by rw [ht]; exact hI, hN.warm hW, va_K.moved hW.alike hK⟩, by first | (rw [ht]; exact hpost) | exact hpost⟩, hS.F ht⟩) hS.2.2 dX12_laundry_157
        · skip
          have k1852 := iv_eq (X := x1.toInt) (Y := (1)) rfl (by decide) c1815
          refine lv_aload_n hx hb dX12_laundry_144 rfl (lv_at hl 2 rfl) ?_
          refine gmI hx hb hts inT12 hown hK hI List.not_mem_nil hG0 41 (by decide) (hts _ (tb_c wd_1274)) rfl rfl dX12_laundry_145 (fun w1853 hg1854 k1855 k1856 => ?_)
          have hpost : True := trivial
          rw [hQ]
          exact W.iret (v := w1853) hx hb hr (fun t ht hW => ⟨⟨w1853, w1853, rfl, rfl, ⟨by rw [ht]; exact hI, hN.warm hW, va_K.moved hW.alike hK⟩, by first | (rw [ht]; exact hpost) | exact hpost⟩, hS.F ht⟩) hS.2.2 dX12_laundry_148
      · skip
        have k1857 := iv_nle (X := (2304)) (Y := v1739.toInt) (by decide) rfl c1800
        refine lv_aload_n hx hb dX12_laundry_57 rfl (lv_at hl 2 rfl) ?_
        refine gmA hx hb hts inT12 hown hK hI List.not_mem_nil hG0 39 (by decide) (hts _ (tb_c wd_1272)) rfl rfl dX12_laundry_58 (fun a1858 hq1859 hf1860 => ?_)
        refine lv_iload_n hx hb dX12_laundry_61 rfl (lv_at hl 0 rfl) ?_
        refine lv_iconst (v := 1) hx hb dX12_laundry_62 (by decide) ?_
        obtain ⟨F1861, hA1862⟩ := om_5 hI hq1859 List.not_mem_nil
        refine th_zast hx hb hK hA1862 2 rfl hS ⟨_, hq1859⟩ (iv_in (X := v1739.toInt) rfl (by omega) (by omega)) dX12_laundry_63 (fun H locs hA1863 oq hS => ?_)
        have hI := th_I.put hI hq1859 hA1863 ok_m5 oq
        have hf1860 := fr.arr hG0 hq1859 (by decide) oq hf1860
        refine lv_iconst (v := 0) hx hb dX12_laundry_64 (by decide) ?_
        refine lv_istore (lv' := [(4, .int 0), (3, .int v1739), (2, .int v1740), (0, .ref h0), (1, .int x1)]) hx hb dX12_laundry_65 hl (by decide) rfl (fun ls hl => ?_)
        have zl : (0 : Int32).toInt = 0 := by decide
        exact J_67 _ H locs ls 0  rfl (lv_sub hl [0, 1, 2, 3, 4] rfl) ⟨by decide, by decide⟩ ⟨by omega, by omega⟩ hI hS
  have J_44 : ∀ (H : Heap) (locs : List Loc) (ls : Array Slot) (v1864 : Int32) , lv_has ls 5 [(2, .int v1864), (0, .ref h0), (1, .int x1)] → ((0 : Int) ≤ v1864.toInt ∧ v1864.toInt ≤ 6) → ((0 : Int) ≤ x1.toInt ∧ x1.toInt ≤ 13) → th_I (okM E) D G [] H → va_S (th_A G) s.heap H locs → W p l e R s m args below meth c H locs 0 0 QF (F0 m 44 ls []) := by
    intro H locs ls v1864  hl k1865 k1866 hI hS
    refine lv_aload_n hx hb dX12_laundry_44 rfl (lv_at hl 1 rfl) ?_
    refine mx_v (As := []) (rest := []) (n := 0) (d := 68) ⟨hx, hb, hml, hown, hts⟩ (c_X12_looks l E D G h0 hG0 ) wd_1455 wd_1457 wp_43 wd_13 wd_1458 (by decide +kernel) ⟨by rw [hR]; exact Nat.le_of_ble_eq_true rfl, by rw [hR]; exact Nat.le_of_ble_eq_true rfl⟩ hI hN hK hS hG0 (trivial) rfl hl.1 rfl (Nat.le_of_ble_eq_true rfl) dX12_laundry_45 ⟨Nat.zero_le _, Nat.zero_le _⟩ (fun H locs hI hp hS => ?_)
    refine lv_iconst (v := 0) hx hb dX12_laundry_48 (by decide) ?_
    refine lv_istore_n (lv' := [(3, .int 0), (2, .int v1864), (0, .ref h0), (1, .int x1)]) hx hb dX12_laundry_49 rfl hl (by decide) rfl (fun ls hl => ?_)
    have zl : (0 : Int32).toInt = 0 := by decide
    exact J_50 _ H locs ls 0 v1864  rfl (lv_sub hl [0, 1, 2, 3] rfl) ⟨by decide, by decide⟩ ⟨by omega, by omega⟩ ⟨by omega, by omega⟩ hI hS
  refine lv_aload_n hx hb dX12_laundry_0 rfl (lv_at hl 0 rfl) ?_
  refine gmA hx hb hts inT12 hown hK hI List.not_mem_nil hG0 3 (by decide) (hts _ (tb_c wd_1236)) rfl rfl dX12_laundry_1 (fun a1868 hq1869 hf1870 => ?_)
  refine lv_sipush (v := 313) hx hb dX12_laundry_4 (by decide) ?_
  obtain ⟨F1871, hA1872, hP1873⟩ := om_1 hI hq1869 List.not_mem_nil
  refine th_iald hx hb hK hA1872 0 rfl (iv_in (X := (313)) (by decide) (by omega) (by omega)) dX12_laundry_7 (fun v1874 e1875 => ?_)
  have k1876 := kg_m313 (kOk.get (i := 313) hP1873 e1875 (X := (313)) (by decide) (by omega) (by omega)) (by omega) (by omega) (by omega)
  refine lv_istore_n (lv' := [(2, .int v1874), (0, .ref h0), (1, .int x1)]) hx hb dX12_laundry_8 rfl hl (by decide) rfl (fun ls hl => ?_)
  refine lv_iload_n hx hb dX12_laundry_9 rfl (lv_at hl 2 rfl) ?_
  refine lv_iconst (v := 0) hx hb dX12_laundry_10 (by decide) ?_
  refine lv_iconst (v := 1) hx hb dX12_laundry_11 (by decide) ?_
  refine th_cSs (As := [.int x1, .int 0, .int 1]) (rest := []) (n := 3) (d := 0) ⟨hx, hb, hml, hown, hts⟩ (c_X12_lies l s.heap x1 0 1) wd_1395 wd_1396 wd_13 wd_1397 (by decide +kernel) ⟨by rw [hR]; exact Nat.le_of_ble_eq_true rfl, by rw [hR]; exact Nat.le_of_ble_eq_true rfl⟩ hN hS rfl hl.1 rfl (Nat.le_of_ble_eq_true rfl) dX12_laundry_12 ⟨Nat.zero_le _, Nat.zero_le _⟩ (fun r1877 locs hp hS => ?_)
  rcases hp with ⟨rfl, hp⟩ | ⟨rfl, hp⟩
  · skip
    try simp only [rg, not_and, Int.not_le] at hp
    have hp1878 := hp
    try rw [show (0 : Int32).toInt = 0 from by decide] at hp1878
    try rw [show (1 : Int32).toInt = 1 from by decide] at hp1878
    refine lv_if_ne (tgt := 44) hx hb dX12_laundry_15 (by decide) (fun _ => ?_) (fun c => absurd c (by decide))
    exact J_44 s.heap locs ls v1874  (lv_sub hl [0, 1, 2] rfl) ⟨by omega, by omega⟩ ⟨by omega, by omega⟩ hI hS
  · skip
    try simp only [rg, not_and, Int.not_le] at hp
    have hp1879 := hp
    try rw [show (0 : Int32).toInt = 0 from by decide] at hp1879
    try rw [show (1 : Int32).toInt = 1 from by decide] at hp1879
    refine lv_if_ne (tgt := 44) hx hb dX12_laundry_15 (by decide) (fun c => absurd c (by decide)) (fun _ => ?_)
    refine lv_iload_n hx hb dX12_laundry_18 rfl (lv_at hl 2 rfl) ?_
    refine lv_iconst (v := 2) hx hb dX12_laundry_19 (by decide) ?_
    refine lv_iconst (v := 1) hx hb dX12_laundry_20 (by decide) ?_
    refine lv_iload_n hx hb dX12_laundry_21 rfl (lv_at hl 0 rfl) ?_
    refine lv_iadd hx hb dX12_laundry_22 ?_
    refine lv_topi (fun v1880 e1881 => ?_)
    have tv1880 : v1880.toInt = (1) + v1874.toInt := iv_add (by decide) rfl e1881 (by omega) (by omega)
    refine th_cSs (As := [.int x1, .int 2, .int v1880]) (rest := []) (n := 3) (d := 0) ⟨hx, hb, hml, hown, hts⟩ (c_X12_lies l s.heap x1 2 v1880) wd_1395 wd_1396 wd_13 wd_1397 (by decide +kernel) ⟨by rw [hR]; exact Nat.le_of_ble_eq_true rfl, by rw [hR]; exact Nat.le_of_ble_eq_true rfl⟩ hN hS rfl hl.1 rfl (Nat.le_of_ble_eq_true rfl) dX12_laundry_23 ⟨Nat.zero_le _, Nat.zero_le _⟩ (fun r1882 locs hp hS => ?_)
    rcases hp with ⟨rfl, hp⟩ | ⟨rfl, hp⟩
    · skip
      try simp only [rg, not_and, Int.not_le] at hp
      have hp1883 := hp
      try rw [show (2 : Int32).toInt = 2 from by decide] at hp1883
      refine lv_if_ne (tgt := 44) hx hb dX12_laundry_26 (by decide) (fun _ => ?_) (fun c => absurd c (by decide))
      exact J_44 s.heap locs ls v1874  (lv_sub hl [0, 1, 2] rfl) ⟨by omega, by omega⟩ ⟨by omega, by omega⟩ hI hS
    · skip
      try simp only [rg, not_and, Int.not_le] at hp
      have hp1884 := hp
      try rw [show (2 : Int32).toInt = 2 from by decide] at hp1884
      refine lv_if_ne (tgt := 44) hx hb dX12_laundry_26 (by decide) (fun c => absurd c (by decide)) (fun _ => ?_)
      refine lv_iload_n hx hb dX12_laundry_29 rfl (lv_at hl 2 rfl) ?_
      refine lv_bipush (v := 8) hx hb dX12_laundry_30 (by decide) ?_
      refine lv_bipush (v := 7) hx hb dX12_laundry_32 (by decide) ?_
      refine lv_iload_n hx hb dX12_laundry_34 rfl (lv_at hl 0 rfl) ?_
      refine lv_iadd hx hb dX12_laundry_35 ?_
      refine lv_topi (fun v1885 e1886 => ?_)
      have tv1885 : v1885.toInt = (7) + v1874.toInt := iv_add (by decide) rfl e1886 (by omega) (by omega)
      refine th_cSs (As := [.int x1, .int 8, .int v1885]) (rest := []) (n := 3) (d := 0) ⟨hx, hb, hml, hown, hts⟩ (c_X12_lies l s.heap x1 8 v1885) wd_1395 wd_1396 wd_13 wd_1397 (by decide +kernel) ⟨by rw [hR]; exact Nat.le_of_ble_eq_true rfl, by rw [hR]; exact Nat.le_of_ble_eq_true rfl⟩ hN hS rfl hl.1 rfl (Nat.le_of_ble_eq_true rfl) dX12_laundry_36 ⟨Nat.zero_le _, Nat.zero_le _⟩ (fun r1887 locs hp hS => ?_)
      rcases hp with ⟨rfl, hp⟩ | ⟨rfl, hp⟩
      · skip
        try simp only [rg, not_and, Int.not_le] at hp
        have hp1888 := hp
        try rw [show (8 : Int32).toInt = 8 from by decide] at hp1888
        refine lv_if_ne (tgt := 44) hx hb dX12_laundry_39 (by decide) (fun _ => ?_) (fun c => absurd c (by decide))
        exact J_44 s.heap locs ls v1874  (lv_sub hl [0, 1, 2] rfl) ⟨by omega, by omega⟩ ⟨by omega, by omega⟩ hI hS
      · skip
        try simp only [rg, not_and, Int.not_le] at hp
        have hp1889 := hp
        try rw [show (8 : Int32).toInt = 8 from by decide] at hp1889
        refine lv_if_ne (tgt := 44) hx hb dX12_laundry_39 (by decide) (fun c => absurd c (by decide)) (fun _ => ?_)
        refine lv_iconst (v := (-1)) hx hb dX12_laundry_42 (by decide) ?_
        have hpost : True := trivial
        rw [hQ]
        exact W.iret (v := (-1)) hx hb hr (fun t ht hW => ⟨⟨(-1), (-1), rfl, rfl, ⟨by rw [ht]; exact hI, hN.warm hW, va_K.moved hW.alike hK⟩, by first | (rw [ht]; exact hpost) | exact hpost⟩, hS.F ht⟩) hS.2.2 dX12_laundry_43
theorem dX12_duck_0g : (decode cX12_duck 0 = .ok (.iload_n 1, 1)) ∧ (decode cX12_duck 1 = .ok (.invokestatic 118, 3)) ∧ (decode cX12_duck 4 = .ok (.ifCond .eq 21, 3)) ∧ (decode cX12_duck 7 = .ok (.iload_n 2, 1)) ∧ (decode cX12_duck 8 = .ok (.iconst 0, 1)) ∧ (decode cX12_duck 9 = .ok (.iconst 3, 1)) ∧ (decode cX12_duck 10 = .ok (.invokestatic 103, 3)) ∧ (decode cX12_duck 13 = .ok (.ifCond .eq 12, 3)) ∧ (decode cX12_duck 16 = .ok (.iload_n 3, 1)) ∧ (decode cX12_duck 17 = .ok (.iconst 0, 1)) := by decide +kernel
theorem dX12_duck_0 : decode cX12_duck 0 = .ok (.iload_n 1, 1) := dX12_duck_0g.1
theorem dX12_duck_1 : decode cX12_duck 1 = .ok (.invokestatic 118, 3) := dX12_duck_0g.2.1
theorem dX12_duck_4 : decode cX12_duck 4 = .ok (.ifCond .eq 21, 3) := dX12_duck_0g.2.2.1
theorem dX12_duck_7 : decode cX12_duck 7 = .ok (.iload_n 2, 1) := dX12_duck_0g.2.2.2.1
theorem dX12_duck_8 : decode cX12_duck 8 = .ok (.iconst 0, 1) := dX12_duck_0g.2.2.2.2.1
theorem dX12_duck_9 : decode cX12_duck 9 = .ok (.iconst 3, 1) := dX12_duck_0g.2.2.2.2.2.1
theorem dX12_duck_10 : decode cX12_duck 10 = .ok (.invokestatic 103, 3) := dX12_duck_0g.2.2.2.2.2.2.1
theorem dX12_duck_13 : decode cX12_duck 13 = .ok (.ifCond .eq 12, 3) := dX12_duck_0g.2.2.2.2.2.2.2.1
theorem dX12_duck_16 : decode cX12_duck 16 = .ok (.iload_n 3, 1) := dX12_duck_0g.2.2.2.2.2.2.2.2.1
theorem dX12_duck_17 : decode cX12_duck 17 = .ok (.iconst 0, 1) := dX12_duck_0g.2.2.2.2.2.2.2.2.2
theorem dX12_duck_18g : (decode cX12_duck 18 = .ok (.iconst 1, 1)) ∧ (decode cX12_duck 19 = .ok (.invokestatic 103, 3)) ∧ (decode cX12_duck 22 = .ok (.ifCond .ne 5, 3)) ∧ (decode cX12_duck 25 = .ok (.iconst (-1), 1)) ∧ (decode cX12_duck 26 = .ok (.ireturn, 1)) ∧ (decode cX12_duck 27 = .ok (.aload_n 0, 1)) ∧ (decode cX12_duck 28 = .ok (.invokevirtual 138, 3)) ∧ (decode cX12_duck 31 = .ok (.iconst 0, 1)) ∧ (decode cX12_duck 32 = .ok (.istore 4, 2)) ∧ (decode cX12_duck 34 = .ok (.iload 4, 2)) := by decide +kernel
theorem dX12_duck_18 : decode cX12_duck 18 = .ok (.iconst 1, 1) := dX12_duck_18g.1
theorem dX12_duck_19 : decode cX12_duck 19 = .ok (.invokestatic 103, 3) := dX12_duck_18g.2.1
theorem dX12_duck_22 : decode cX12_duck 22 = .ok (.ifCond .ne 5, 3) := dX12_duck_18g.2.2.1
theorem dX12_duck_25 : decode cX12_duck 25 = .ok (.iconst (-1), 1) := dX12_duck_18g.2.2.2.1
theorem dX12_duck_26 : decode cX12_duck 26 = .ok (.ireturn, 1) := dX12_duck_18g.2.2.2.2.1
theorem dX12_duck_27 : decode cX12_duck 27 = .ok (.aload_n 0, 1) := dX12_duck_18g.2.2.2.2.2.1
theorem dX12_duck_28 : decode cX12_duck 28 = .ok (.invokevirtual 138, 3) := dX12_duck_18g.2.2.2.2.2.2.1
theorem dX12_duck_31 : decode cX12_duck 31 = .ok (.iconst 0, 1) := dX12_duck_18g.2.2.2.2.2.2.2.1
theorem dX12_duck_32 : decode cX12_duck 32 = .ok (.istore 4, 2) := dX12_duck_18g.2.2.2.2.2.2.2.2.1
theorem dX12_duck_34 : decode cX12_duck 34 = .ok (.iload 4, 2) := dX12_duck_18g.2.2.2.2.2.2.2.2.2
theorem dX12_duck_36g : (decode cX12_duck 36 = .ok (.bipush 25, 2)) ∧ (decode cX12_duck 38 = .ok (.if_icmp .ge 17, 3)) ∧ (decode cX12_duck 41 = .ok (.aload_n 0, 1)) ∧ (decode cX12_duck 42 = .ok (.getfield 94, 3)) ∧ (decode cX12_duck 45 = .ok (.iload 4, 2)) ∧ (decode cX12_duck 47 = .ok (.iconst (-1), 1)) ∧ (decode cX12_duck 48 = .ok (.iastore, 1)) ∧ (decode cX12_duck 49 = .ok (.iinc 4 1, 3)) ∧ (decode cX12_duck 52 = .ok (.goto (-18), 3)) ∧ (decode cX12_duck 55 = .ok (.iload_n 1, 1)) := by decide +kernel
theorem dX12_duck_36 : decode cX12_duck 36 = .ok (.bipush 25, 2) := dX12_duck_36g.1
theorem dX12_duck_38 : decode cX12_duck 38 = .ok (.if_icmp .ge 17, 3) := dX12_duck_36g.2.1
theorem dX12_duck_41 : decode cX12_duck 41 = .ok (.aload_n 0, 1) := dX12_duck_36g.2.2.1
theorem dX12_duck_42 : decode cX12_duck 42 = .ok (.getfield 94, 3) := dX12_duck_36g.2.2.2.1
theorem dX12_duck_45 : decode cX12_duck 45 = .ok (.iload 4, 2) := dX12_duck_36g.2.2.2.2.1
theorem dX12_duck_47 : decode cX12_duck 47 = .ok (.iconst (-1), 1) := dX12_duck_36g.2.2.2.2.2.1
theorem dX12_duck_48 : decode cX12_duck 48 = .ok (.iastore, 1) := dX12_duck_36g.2.2.2.2.2.2.1
theorem dX12_duck_49 : decode cX12_duck 49 = .ok (.iinc 4 1, 3) := dX12_duck_36g.2.2.2.2.2.2.2.1
theorem dX12_duck_52 : decode cX12_duck 52 = .ok (.goto (-18), 3) := dX12_duck_36g.2.2.2.2.2.2.2.2.1
theorem dX12_duck_55 : decode cX12_duck 55 = .ok (.iload_n 1, 1) := dX12_duck_36g.2.2.2.2.2.2.2.2.2
theorem dX12_duck_56g : (decode cX12_duck 56 = .ok (.istore 4, 2)) ∧ (decode cX12_duck 58 = .ok (.iconst 0, 1)) ∧ (decode cX12_duck 59 = .ok (.istore 5, 2)) ∧ (decode cX12_duck 61 = .ok (.aload_n 0, 1)) ∧ (decode cX12_duck 62 = .ok (.getfield 94, 3)) ∧ (decode cX12_duck 65 = .ok (.iload 4, 2)) ∧ (decode cX12_duck 67 = .ok (.iaload, 1)) ∧ (decode cX12_duck 68 = .ok (.iconst (-1), 1)) ∧ (decode cX12_duck 69 = .ok (.if_icmp .ne 36, 3)) ∧ (decode cX12_duck 72 = .ok (.aload_n 0, 1)) := by decide +kernel
theorem dX12_duck_56 : decode cX12_duck 56 = .ok (.istore 4, 2) := dX12_duck_56g.1
theorem dX12_duck_58 : decode cX12_duck 58 = .ok (.iconst 0, 1) := dX12_duck_56g.2.1
theorem dX12_duck_59 : decode cX12_duck 59 = .ok (.istore 5, 2) := dX12_duck_56g.2.2.1
theorem dX12_duck_61 : decode cX12_duck 61 = .ok (.aload_n 0, 1) := dX12_duck_56g.2.2.2.1
theorem dX12_duck_62 : decode cX12_duck 62 = .ok (.getfield 94, 3) := dX12_duck_56g.2.2.2.2.1
theorem dX12_duck_65 : decode cX12_duck 65 = .ok (.iload 4, 2) := dX12_duck_56g.2.2.2.2.2.1
theorem dX12_duck_67 : decode cX12_duck 67 = .ok (.iaload, 1) := dX12_duck_56g.2.2.2.2.2.2.1
theorem dX12_duck_68 : decode cX12_duck 68 = .ok (.iconst (-1), 1) := dX12_duck_56g.2.2.2.2.2.2.2.1
theorem dX12_duck_69 : decode cX12_duck 69 = .ok (.if_icmp .ne 36, 3) := dX12_duck_56g.2.2.2.2.2.2.2.2.1
theorem dX12_duck_72 : decode cX12_duck 72 = .ok (.aload_n 0, 1) := dX12_duck_56g.2.2.2.2.2.2.2.2.2
theorem dX12_duck_73g : (decode cX12_duck 73 = .ok (.getfield 94, 3)) ∧ (decode cX12_duck 76 = .ok (.iload 4, 2)) ∧ (decode cX12_duck 78 = .ok (.iload 5, 2)) ∧ (decode cX12_duck 80 = .ok (.iastore, 1)) ∧ (decode cX12_duck 81 = .ok (.aload_n 0, 1)) ∧ (decode cX12_duck 82 = .ok (.iload 4, 2)) ∧ (decode cX12_duck 84 = .ok (.bipush 24, 2)) ∧ (decode cX12_duck 86 = .ok (.iload_n 2, 1)) ∧ (decode cX12_duck 87 = .ok (.imul, 1)) ∧ (decode cX12_duck 88 = .ok (.bipush 24, 2)) := by decide +kernel
theorem dX12_duck_73 : decode cX12_duck 73 = .ok (.getfield 94, 3) := dX12_duck_73g.1
theorem dX12_duck_76 : decode cX12_duck 76 = .ok (.iload 4, 2) := dX12_duck_73g.2.1
theorem dX12_duck_78 : decode cX12_duck 78 = .ok (.iload 5, 2) := dX12_duck_73g.2.2.1
theorem dX12_duck_80 : decode cX12_duck 80 = .ok (.iastore, 1) := dX12_duck_73g.2.2.2.1
theorem dX12_duck_81 : decode cX12_duck 81 = .ok (.aload_n 0, 1) := dX12_duck_73g.2.2.2.2.1
theorem dX12_duck_82 : decode cX12_duck 82 = .ok (.iload 4, 2) := dX12_duck_73g.2.2.2.2.2.1
theorem dX12_duck_84 : decode cX12_duck 84 = .ok (.bipush 24, 2) := dX12_duck_73g.2.2.2.2.2.2.1
theorem dX12_duck_86 : decode cX12_duck 86 = .ok (.iload_n 2, 1) := dX12_duck_73g.2.2.2.2.2.2.2.1
theorem dX12_duck_87 : decode cX12_duck 87 = .ok (.imul, 1) := dX12_duck_73g.2.2.2.2.2.2.2.2.1
theorem dX12_duck_88 : decode cX12_duck 88 = .ok (.bipush 24, 2) := dX12_duck_73g.2.2.2.2.2.2.2.2.2
theorem dX12_duck_90g : (decode cX12_duck 90 = .ok (.iload_n 2, 1)) ∧ (decode cX12_duck 91 = .ok (.iconst 1, 1)) ∧ (decode cX12_duck 92 = .ok (.iadd, 1)) ∧ (decode cX12_duck 93 = .ok (.imul, 1)) ∧ (decode cX12_duck 94 = .ok (.invokevirtual 301, 3)) ∧ (decode cX12_duck 97 = .ok (.istore 4, 2)) ∧ (decode cX12_duck 99 = .ok (.iinc 5 1, 3)) ∧ (decode cX12_duck 102 = .ok (.goto (-41), 3)) ∧ (decode cX12_duck 105 = .ok (.iload_n 3, 1)) ∧ (decode cX12_duck 106 = .ok (.ifCond .ne 8, 3)) := by decide +kernel
theorem dX12_duck_90 : decode cX12_duck 90 = .ok (.iload_n 2, 1) := dX12_duck_90g.1
theorem dX12_duck_91 : decode cX12_duck 91 = .ok (.iconst 1, 1) := dX12_duck_90g.2.1
theorem dX12_duck_92 : decode cX12_duck 92 = .ok (.iadd, 1) := dX12_duck_90g.2.2.1
theorem dX12_duck_93 : decode cX12_duck 93 = .ok (.imul, 1) := dX12_duck_90g.2.2.2.1
theorem dX12_duck_94 : decode cX12_duck 94 = .ok (.invokevirtual 301, 3) := dX12_duck_90g.2.2.2.2.1
theorem dX12_duck_97 : decode cX12_duck 97 = .ok (.istore 4, 2) := dX12_duck_90g.2.2.2.2.2.1
theorem dX12_duck_99 : decode cX12_duck 99 = .ok (.iinc 5 1, 3) := dX12_duck_90g.2.2.2.2.2.2.1
theorem dX12_duck_102 : decode cX12_duck 102 = .ok (.goto (-41), 3) := dX12_duck_90g.2.2.2.2.2.2.2.1
theorem dX12_duck_105 : decode cX12_duck 105 = .ok (.iload_n 3, 1) := dX12_duck_90g.2.2.2.2.2.2.2.2.1
theorem dX12_duck_106 : decode cX12_duck 106 = .ok (.ifCond .ne 8, 3) := dX12_duck_90g.2.2.2.2.2.2.2.2.2
theorem dX12_duck_109g : (decode cX12_duck 109 = .ok (.iload 5, 2)) ∧ (decode cX12_duck 111 = .ok (.goto 13, 3)) ∧ (decode cX12_duck 114 = .ok (.iload 5, 2)) ∧ (decode cX12_duck 116 = .ok (.aload_n 0, 1)) ∧ (decode cX12_duck 117 = .ok (.getfield 94, 3)) ∧ (decode cX12_duck 120 = .ok (.iload 4, 2)) ∧ (decode cX12_duck 122 = .ok (.iaload, 1)) ∧ (decode cX12_duck 123 = .ok (.isub, 1)) ∧ (decode cX12_duck 124 = .ok (.ireturn, 1)) := by decide +kernel
theorem dX12_duck_109 : decode cX12_duck 109 = .ok (.iload 5, 2) := dX12_duck_109g.1
theorem dX12_duck_111 : decode cX12_duck 111 = .ok (.goto 13, 3) := dX12_duck_109g.2.1
theorem dX12_duck_114 : decode cX12_duck 114 = .ok (.iload 5, 2) := dX12_duck_109g.2.2.1
theorem dX12_duck_116 : decode cX12_duck 116 = .ok (.aload_n 0, 1) := dX12_duck_109g.2.2.2.1
theorem dX12_duck_117 : decode cX12_duck 117 = .ok (.getfield 94, 3) := dX12_duck_109g.2.2.2.2.1
theorem dX12_duck_120 : decode cX12_duck 120 = .ok (.iload 4, 2) := dX12_duck_109g.2.2.2.2.2.1
theorem dX12_duck_122 : decode cX12_duck 122 = .ok (.iaload, 1) := dX12_duck_109g.2.2.2.2.2.2.1
theorem dX12_duck_123 : decode cX12_duck 123 = .ok (.isub, 1) := dX12_duck_109g.2.2.2.2.2.2.2.1
theorem dX12_duck_124 : decode cX12_duck 124 = .ok (.ireturn, 1) := dX12_duck_109g.2.2.2.2.2.2.2.2
set_option maxHeartbeats 4000000 in
set_option maxRecDepth 100000 in
theorem c_X12_duck (l : Launch) (E : Nat → Nat) (D : va_G) (G : th_G) (h0 : Nat) (hG0 : G h0 = some (10, 0)) (x1 : Int32) (x2 : Int32) (x3 : Int32) : Met l yX12_duck (tb (.code yX12_duck cX12_duck 6 (some .int))) (rm 69) (va_Pc [.ref h0, .int x1, .int x2, .int x3] (PX E D G (fun H => True))) (QXi E D G (fun r H => True)) 0 0 (th_A G) := by
  refine Met.ofW (cc := cX12_duck) (maxL := 6) (ret := (some .int)) (by decide) rfl ?_
  intro p e s m args below meth c s₁ B hml hv
  obtain ⟨hav, ⟨hI, hN, hK⟩, hX⟩ := hv
  have hx := B.exec
  have hb := B.bytes
  have hr := B.returns
  have hts := atoms_spec (ws := tb (.code yX12_duck cX12_duck 6 (some .int))) B.pre
  have hown : s.vm.findClass RX12 = some m.cls := findClass_of_methodNamed B.named
  have hlocks := B.notSynchronized
  have hS : va_S (th_A G) s.heap s.heap [] := va_S.rf
  have hl := lv_entry ([.ref h0, .int x1, .int x2, .int x3]) (n := 6) (Nat.le_of_ble_eq_true rfl)
  rw [show entryFrame m args 6 = entryFrame m ([.ref h0, .int x1, .int x2, .int x3] : List Value).toArray 6 from by rw [hav], lg_entry_eq]
  generalize (lg_sl ([.ref h0, .int x1, .int x2, .int x3]) ++ List.replicate (6 - (lg_sl ([.ref h0, .int x1, .int x2, .int x3])).length) Slot.unset).toArray = ls at hl ⊢
  have hl : lv_has ls 6 [(0, .ref h0), (1, .int x1), (2, .int x2), (3, .int x3)] := hl
  generalize hR : (headSpec (tb (.code yX12_duck cX12_duck 6 (some .int))) (rm 69)).room = R
  have hR := hR.symm
  generalize hQ : MQ below (QXi E D G (fun r H => True)) args s 0 0 (th_A G) = QF
  have hQ := hQ.symm
  have J_61 : ∀ (nn : Nat) (H : Heap) (locs : List Loc) (ls : Array Slot) (v846 : Int32) (v847 : Int32) (Fb : Nat → Int32), (Int.toNat (((cN Fb 25 : Nat) : Int)) = nn) → lv_has ls 6 [(5, .int v846), (4, .int v847), (0, .ref h0), (1, .int x1), (2, .int x2), (3, .int x3)] → ((0 : Int) ≤ v846.toInt ∧ v846.toInt ≤ 25) → ((0 : Int) ≤ v847.toInt ∧ v847.toInt ≤ 24) → ((0 : Int) ≤ x1.toInt ∧ x1.toInt ≤ 23) → ((0 : Int) ≤ x2.toInt ∧ x2.toInt ≤ 3) → ((0 : Int) ≤ x3.toInt ∧ x3.toInt ≤ 1) → ga E D G h0 43 (9, 25) Fb H → (v846.toInt + (cN Fb 25 : Int) = 25) → th_I (okM E) D G [] H → va_S (th_A G) s.heap H locs → W p l e R s m args below meth c H locs 0 0 QF (F0 m 61 ls []) := by
    intro nn
    induction nn using Nat.strongRecOn with
    | ind nn ih_61 =>
      intro H locs ls v846 v847 Fb hm hl k848 k849 k850 k851 k852 hga_43 hcs hI hS
      obtain ⟨a853, hf854, hq855, hA856⟩ := hga_43
      refine lv_aload_n hx hb dX12_duck_61 rfl (lv_at hl 2 rfl) ?_
      refine gmA hx hb hts inT12 hown hK hI List.not_mem_nil hG0 43 (by decide) (hts _ (tb_c wd_1276)) rfl rfl dX12_duck_62 (fun a857 hq858 hf859 => ?_)
      obtain rfl := fr.uniq (by decide) hf854 hf859
      refine lv_iload hx hb dX12_duck_65 (lv_at hl 1 rfl) ?_
      refine th_iald hx hb hK hA856 0 rfl (iv_in (X := v847.toInt) rfl (by omega) (by omega)) dX12_duck_67 (fun v860 e861 => ?_)
      refine lv_iconst (v := (-1)) hx hb dX12_duck_68 (by decide) ?_
      have k862 := iv_lo v860
      have k863 := iv_hi v860
      refine lv_icmp_ne (tgt := 105) hx hb dX12_duck_69 (by decide) (fun c864 => ?_) (fun c864 => ?_)
      · skip
        have k865 := iv_ne (X := v860.toInt) (Y := (-1)) rfl (by decide) c864
        refine lv_iload_n hx hb dX12_duck_105 rfl (lv_at hl 5 rfl) ?_
        refine lv_if_ne (tgt := 114) hx hb dX12_duck_106 (by decide) (fun c866 => ?_) (fun c866 => ?_)
        · skip
          have k867 := iv_ne (X := x3.toInt) (Y := (0)) rfl (by decide) c866
          refine lv_iload hx hb dX12_duck_114 (lv_at hl 0 rfl) ?_
          refine lv_aload_n hx hb dX12_duck_116 rfl (lv_at hl 2 rfl) ?_
          refine gmA hx hb hts inT12 hown hK hI List.not_mem_nil hG0 43 (by decide) (hts _ (tb_c wd_1276)) rfl rfl dX12_duck_117 (fun a868 hq869 hf870 => ?_)
          obtain rfl := fr.uniq (by decide) hf854 hf870
          refine lv_iload hx hb dX12_duck_120 (lv_at hl 1 rfl) ?_
          refine th_iald hx hb hK hA856 0 rfl (iv_in (X := v847.toInt) rfl (by omega) (by omega)) dX12_duck_122 (fun v871 e872 => ?_)
          obtain rfl := (rd_same (i := v847) (j := v847) e861 e872 (X := v847.toInt) (Y := v847.toInt) rfl rfl (by omega)).symm
          refine lv_isub hx hb dX12_duck_123 ?_
          refine lv_topi (fun v873 e874 => ?_)
          try have tv873 : v873.toInt = v846.toInt - v860.toInt := iv_sub rfl rfl e874 (by omega) (by omega)
          have hpost : True := trivial
          rw [hQ]
          exact W.iret (v := v873) hx hb hr (fun t ht hW => ⟨⟨v873, v873, rfl, rfl, ⟨by rw [ht]; exact hI, hN.warm hW, va_K.moved hW.alike hK⟩, by first | (rw [ht]; exact hpost) | exact hpost⟩, hS.F ht⟩) hS.2.2 dX12_duck_124
        · skip
          have k875 := iv_eq (X := x3.toInt) (Y := (0)) rfl (by decide) c866
          refine lv_iload hx hb dX12_duck_109 (lv_at hl 0 rfl) ?_
          refine lv_goto (tgt := 124) hx hb dX12_duck_111 (by decide) ?_
          have hpost : True := trivial
          rw [hQ]
          exact W.iret (v := v846) hx hb hr (fun t ht hW => ⟨⟨v846, v846, rfl, rfl, ⟨by rw [ht]; exact hI, hN.warm hW, va_K.moved hW.alike hK⟩, by first | (rw [ht]; exact hpost) | exact hpost⟩, hS.F ht⟩) hS.2.2 dX12_duck_124
      · skip
        have k876 := iv_eq (X := v860.toInt) (Y := (-1)) rfl (by decide) c864
        refine lv_aload_n hx hb dX12_duck_72 rfl (lv_at hl 2 rfl) ?_
        refine gmA hx hb hts inT12 hown hK hI List.not_mem_nil hG0 43 (by decide) (hts _ (tb_c wd_1276)) rfl rfl dX12_duck_73 (fun a877 hq878 hf879 => ?_)
        obtain rfl := fr.uniq (by decide) hf854 hf879
        refine lv_iload hx hb dX12_duck_76 (lv_at hl 1 rfl) ?_
        refine lv_iload hx hb dX12_duck_78 (lv_at hl 0 rfl) ?_
        refine th_iast hx hb hK hA856 0 rfl hS ⟨_, hq855⟩ (iv_in (X := v847.toInt) rfl (by omega) (by omega)) dX12_duck_80 (fun H locs hA880 oq hS => ?_)
        have hI := th_I.put hI hq855 hA880 ok_m9 oq
        have hf854 := fr.arr hG0 hq855 (by decide) oq hf854
        have e881 : v846 = (upd Fb (v847 : Int32).toNatClampNeg v846) (v847 : Int32).toNatClampNeg := rd_us
        have hcn2 := dk_step (v := v846) e861 (by omega) (by omega) (by omega) (by omega)
        refine lv_aload_n hx hb dX12_duck_81 rfl (lv_at hl 2 rfl) ?_
        refine lv_iload hx hb dX12_duck_82 (lv_at hl 1 rfl) ?_
        refine lv_bipush (v := 24) hx hb dX12_duck_84 (by decide) ?_
        refine lv_iload_n hx hb dX12_duck_86 rfl (lv_at hl 4 rfl) ?_
        refine lv_imul hx hb dX12_duck_87 ?_
        refine lv_topi (fun v882 e883 => ?_)
        have tv882 : v882.toInt = (24) * x2.toInt := iv_mul (by decide) rfl e883 (by omega) (by omega)
        refine lv_bipush (v := 24) hx hb dX12_duck_88 (by decide) ?_
        refine lv_iload_n hx hb dX12_duck_90 rfl (lv_at hl 4 rfl) ?_
        refine lv_iconst (v := 1) hx hb dX12_duck_91 (by decide) ?_
        refine lv_iadd hx hb dX12_duck_92 ?_
        refine lv_topi (fun v884 e885 => ?_)
        have tv884 : v884.toInt = x2.toInt + (1) := iv_add rfl (by decide) e885 (by omega) (by omega)
        refine lv_imul hx hb dX12_duck_93 ?_
        refine lv_topi (fun v886 e887 => ?_)
        have tv886 : v886.toInt = (24) * v884.toInt := iv_mul (by decide) rfl e887 (by omega) (by omega)
        refine mr_i (As := [.int v847, .int v882, .int v886]) (rest := []) (n := 3) (d := 0) ⟨hx, hb, hml, hown, hts⟩ (c_X12_floats l E D G H h0 hG0 v847 v882 v886 ⟨by omega, by omega⟩ (by omega) (by omega)) wd_1658 wd_1660 wp_77 wd_13 wd_1661 (by decide +kernel) ⟨by rw [hR]; exact Nat.le_of_ble_eq_true rfl, by rw [hR]; exact Nat.le_of_ble_eq_true rfl⟩ hI hN hK hS hG0 rfl hl.1 rfl (Nat.le_of_ble_eq_true rfl) dX12_duck_94 ⟨Nat.zero_le _, Nat.zero_le _⟩ (fun r888 locs hp hS => ?_)
        have hp889 := hp
        refine lv_istore (lv' := [(4, .int r888), (5, .int v846), (0, .ref h0), (1, .int x1), (2, .int x2), (3, .int x3)]) hx hb dX12_duck_97 hl (by decide) rfl (fun ls hl => ?_)
        obtain ⟨v890, e891⟩ : ∃ y : Int32, y = v846 + (1) := ⟨_, rfl⟩
        have tv890 : v890.toInt = v846.toInt + (1) := iv_add rfl (by decide) e891 (by omega) (by omega)
        refine lv_iinc (v := v890) (lv' := [(5, .int v890), (4, .int r888), (0, .ref h0), (1, .int x1), (2, .int x2), (3, .int x3)]) hx hb dX12_duck_99 hl (k := 1) rfl (by rw [e891]; rfl) (by decide) rfl (fun ls hl => ?_)
        refine lv_goto (tgt := 61) hx hb dX12_duck_102 (by decide) ?_
        exact ih_61 _ (by omega) H locs ls v890 r888 (upd Fb (v847 : Int32).toNatClampNeg v846) rfl (lv_sub hl [0, 1, 2, 3, 4, 5] rfl) ⟨by omega, by omega⟩ ⟨by omega, by omega⟩ ⟨by omega, by omega⟩ ⟨by omega, by omega⟩ ⟨by omega, by omega⟩ ⟨a853, hf854, hq855, hA880⟩ (by first | omega | (rw [show (0 : Int32).toInt = 0 from by decide]; omega)) hI hS
  have J_34 : ∀ (nn : Nat) (H : Heap) (locs : List Loc) (ls : Array Slot) (v892 : Int32) (Fb : Nat → Int32), (Int.toNat (25 - v892.toInt) = nn) → lv_has ls 6 [(4, .int v892), (0, .ref h0), (1, .int x1), (2, .int x2), (3, .int x3)] → ((0 : Int) ≤ v892.toInt ∧ v892.toInt ≤ 25) → ((0 : Int) ≤ x1.toInt ∧ x1.toInt ≤ 23) → ((0 : Int) ≤ x2.toInt ∧ x2.toInt ≤ 3) → ((0 : Int) ≤ x3.toInt ∧ x3.toInt ≤ 1) → ga E D G h0 43 (9, 25) Fb H → (∀ j : Nat, (j : Int) < v892.toInt → Fb j = -1) → th_I (okM E) D G [] H → va_S (th_A G) s.heap H locs → W p l e R s m args below meth c H locs 0 0 QF (F0 m 34 ls []) := by
    intro nn
    induction nn using Nat.strongRecOn with
    | ind nn ih_34 =>
      intro H locs ls v892 Fb hm hl k893 k894 k895 k896 hga_43 hall hI hS
      obtain ⟨a897, hf898, hq899, hA900⟩ := hga_43
      refine lv_iload hx hb dX12_duck_34 (lv_at hl 0 rfl) ?_
      refine lv_bipush (v := 25) hx hb dX12_duck_36 (by decide) ?_
      refine lv_icmp_ge (tgt := 55) hx hb dX12_duck_38 (by decide) (fun c901 => ?_) (fun c901 => ?_)
      · skip
        have k902 := iv_le (X := (25)) (Y := v892.toInt) (by decide) rfl c901
        refine lv_iload_n hx hb dX12_duck_55 rfl (lv_at hl 2 rfl) ?_
        refine lv_istore (lv' := [(4, .int x1), (0, .ref h0), (1, .int x1), (2, .int x2), (3, .int x3)]) hx hb dX12_duck_56 hl (by decide) rfl (fun ls hl => ?_)
        refine lv_iconst (v := 0) hx hb dX12_duck_58 (by decide) ?_
        refine lv_istore (lv' := [(5, .int 0), (4, .int x1), (0, .ref h0), (1, .int x1), (2, .int x2), (3, .int x3)]) hx hb dX12_duck_59 hl (by decide) rfl (fun ls hl => ?_)
        have hcn : cN Fb 25 = 25 := cN_all 25 (fun j hj => hall j (by omega))
        have zl : (0 : Int32).toInt = 0 := by decide
        exact J_61 _ H locs ls 0 x1 Fb rfl (lv_sub hl [0, 1, 2, 3, 4, 5] rfl) ⟨by decide, by decide⟩ ⟨by omega, by omega⟩ ⟨by omega, by omega⟩ ⟨by omega, by omega⟩ ⟨by omega, by omega⟩ ⟨a897, hf898, hq899, hA900⟩ (by first | omega | (rw [show (0 : Int32).toInt = 0 from by decide]; omega)) hI hS
      · skip
        have k903 := iv_nle (X := (25)) (Y := v892.toInt) (by decide) rfl c901
        refine lv_aload_n hx hb dX12_duck_41 rfl (lv_at hl 1 rfl) ?_
        refine gmA hx hb hts inT12 hown hK hI List.not_mem_nil hG0 43 (by decide) (hts _ (tb_c wd_1276)) rfl rfl dX12_duck_42 (fun a904 hq905 hf906 => ?_)
        obtain rfl := fr.uniq (by decide) hf898 hf906
        refine lv_iload hx hb dX12_duck_45 (lv_at hl 0 rfl) ?_
        refine lv_iconst (v := (-1)) hx hb dX12_duck_47 (by decide) ?_
        refine th_iast hx hb hK hA900 0 rfl hS ⟨_, hq899⟩ (iv_in (X := v892.toInt) rfl (by omega) (by omega)) dX12_duck_48 (fun H locs hA907 oq hS => ?_)
        have hI := th_I.put hI hq899 hA907 ok_m9 oq
        have hf898 := fr.arr hG0 hq899 (by decide) oq hf898
        have e908 : (-1) = (upd Fb (v892 : Int32).toNatClampNeg (-1)) (v892 : Int32).toNatClampNeg := rd_us
        obtain ⟨v909, e910⟩ : ∃ y : Int32, y = v892 + (1) := ⟨_, rfl⟩
        have tv909 : v909.toInt = v892.toInt + (1) := iv_add rfl (by decide) e910 (by omega) (by omega)
        refine lv_iinc (v := v909) (lv' := [(4, .int v909), (0, .ref h0), (1, .int x1), (2, .int x2), (3, .int x3)]) hx hb dX12_duck_49 hl (k := 0) rfl (by rw [e910]; rfl) (by decide) rfl (fun ls hl => ?_)
        refine lv_goto (tgt := 34) hx hb dX12_duck_52 (by decide) ?_
        exact ih_34 _ (by omega) H locs ls v909 (upd Fb (v892 : Int32).toNatClampNeg (-1)) rfl (lv_sub hl [0, 1, 2, 3, 4] rfl) ⟨by omega, by omega⟩ ⟨by omega, by omega⟩ ⟨by omega, by omega⟩ ⟨by omega, by omega⟩ ⟨a897, hf898, hq899, hA907⟩ (fun j hj => db_step hall rfl (by omega) j (by omega)) hI hS
  refine lv_iload_n hx hb dX12_duck_0 rfl (lv_at hl 1 rfl) ?_
  refine th_cSs (As := [.int x1]) (rest := []) (n := 1) (d := 1) ⟨hx, hb, hml, hown, hts⟩ (c_X12_isCell l s.heap x1) wd_1414 wd_1415 wd_13 wd_1416 (by decide +kernel) ⟨by rw [hR]; exact Nat.le_of_ble_eq_true rfl, by rw [hR]; exact Nat.le_of_ble_eq_true rfl⟩ hN hS rfl hl.1 rfl (Nat.le_of_ble_eq_true rfl) dX12_duck_1 ⟨Nat.zero_le _, Nat.zero_le _⟩ (fun r911 locs hp hS => ?_)
  rcases hp with ⟨rfl, hp⟩ | ⟨rfl, hp⟩
  · skip
    try simp only [rg, not_and, Int.not_le] at hp
    have hp912 := hp
    refine lv_if_eq (tgt := 25) hx hb dX12_duck_4 (by decide) (fun c => absurd c (by decide)) (fun _ => ?_)
    refine lv_iload_n hx hb dX12_duck_7 rfl (lv_at hl 2 rfl) ?_
    refine lv_iconst (v := 0) hx hb dX12_duck_8 (by decide) ?_
    refine lv_iconst (v := 3) hx hb dX12_duck_9 (by decide) ?_
    refine th_cSs (As := [.int x2, .int 0, .int 3]) (rest := []) (n := 3) (d := 0) ⟨hx, hb, hml, hown, hts⟩ (c_X12_lies l s.heap x2 0 3) wd_1395 wd_1396 wd_13 wd_1397 (by decide +kernel) ⟨by rw [hR]; exact Nat.le_of_ble_eq_true rfl, by rw [hR]; exact Nat.le_of_ble_eq_true rfl⟩ hN hS rfl hl.1 rfl (Nat.le_of_ble_eq_true rfl) dX12_duck_10 ⟨Nat.zero_le _, Nat.zero_le _⟩ (fun r913 locs hp hS => ?_)
    rcases hp with ⟨rfl, hp⟩ | ⟨rfl, hp⟩
    · skip
      try simp only [rg, not_and, Int.not_le] at hp
      have hp914 := hp
      try rw [show (0 : Int32).toInt = 0 from by decide] at hp914
      try rw [show (3 : Int32).toInt = 3 from by decide] at hp914
      refine lv_if_eq (tgt := 25) hx hb dX12_duck_13 (by decide) (fun c => absurd c (by decide)) (fun _ => ?_)
      refine lv_iload_n hx hb dX12_duck_16 rfl (lv_at hl 3 rfl) ?_
      refine lv_iconst (v := 0) hx hb dX12_duck_17 (by decide) ?_
      refine lv_iconst (v := 1) hx hb dX12_duck_18 (by decide) ?_
      refine th_cSs (As := [.int x3, .int 0, .int 1]) (rest := []) (n := 3) (d := 0) ⟨hx, hb, hml, hown, hts⟩ (c_X12_lies l s.heap x3 0 1) wd_1395 wd_1396 wd_13 wd_1397 (by decide +kernel) ⟨by rw [hR]; exact Nat.le_of_ble_eq_true rfl, by rw [hR]; exact Nat.le_of_ble_eq_true rfl⟩ hN hS rfl hl.1 rfl (Nat.le_of_ble_eq_true rfl) dX12_duck_19 ⟨Nat.zero_le _, Nat.zero_le _⟩ (fun r915 locs hp hS => ?_)
      rcases hp with ⟨rfl, hp⟩ | ⟨rfl, hp⟩
      · skip
        try simp only [rg, not_and, Int.not_le] at hp
        have hp916 := hp
        try rw [show (0 : Int32).toInt = 0 from by decide] at hp916
        try rw [show (1 : Int32).toInt = 1 from by decide] at hp916
        refine lv_if_ne (tgt := 27) hx hb dX12_duck_22 (by decide) (fun _ => ?_) (fun c => absurd c (by decide))
        refine lv_aload_n hx hb dX12_duck_27 rfl (lv_at hl 0 rfl) ?_
        refine mx_v (As := []) (rest := []) (n := 0) (d := 68) ⟨hx, hb, hml, hown, hts⟩ (c_X12_looks l E D G h0 hG0 ) wd_1455 wd_1457 wp_43 wd_13 wd_1458 (by decide +kernel) ⟨by rw [hR]; exact Nat.le_of_ble_eq_true rfl, by rw [hR]; exact Nat.le_of_ble_eq_true rfl⟩ hI hN hK hS hG0 (trivial) rfl hl.1 rfl (Nat.le_of_ble_eq_true rfl) dX12_duck_28 ⟨Nat.zero_le _, Nat.zero_le _⟩ (fun H locs hI hp hS => ?_)
        refine lv_iconst (v := 0) hx hb dX12_duck_31 (by decide) ?_
        refine lv_istore (lv' := [(4, .int 0), (0, .ref h0), (1, .int x1), (2, .int x2), (3, .int x3)]) hx hb dX12_duck_32 hl (by decide) rfl (fun ls hl => ?_)
        obtain ⟨a918, hq919, hf920⟩ := fr_of hI hG0 43 (by decide) (kd := (9, 25)) rfl
        obtain ⟨F921, hA922⟩ := om_9 hI hq919 List.not_mem_nil
        have zl : (0 : Int32).toInt = 0 := by decide
        exact J_34 _ H locs ls 0 F921 rfl (lv_sub hl [0, 1, 2, 3, 4] rfl) ⟨by decide, by decide⟩ ⟨by omega, by omega⟩ ⟨by omega, by omega⟩ ⟨by omega, by omega⟩ ⟨a918, hf920, hq919, hA922⟩ (fun j hj => absurd hj (by rw [show (0 : Int32).toInt = 0 from by decide]; omega)) hI hS
      · skip
        try simp only [rg, not_and, Int.not_le] at hp
        have hp923 := hp
        try rw [show (0 : Int32).toInt = 0 from by decide] at hp923
        try rw [show (1 : Int32).toInt = 1 from by decide] at hp923
        refine lv_if_ne (tgt := 27) hx hb dX12_duck_22 (by decide) (fun c => absurd c (by decide)) (fun _ => ?_)
        refine lv_iconst (v := (-1)) hx hb dX12_duck_25 (by decide) ?_
        have hpost : True := trivial
        rw [hQ]
        exact W.iret (v := (-1)) hx hb hr (fun t ht hW => ⟨⟨(-1), (-1), rfl, rfl, ⟨by rw [ht]; exact hI, hN.warm hW, va_K.moved hW.alike hK⟩, by first | (rw [ht]; exact hpost) | exact hpost⟩, hS.F ht⟩) hS.2.2 dX12_duck_26
    · skip
      try simp only [rg, not_and, Int.not_le] at hp
      have hp924 := hp
      try rw [show (0 : Int32).toInt = 0 from by decide] at hp924
      try rw [show (3 : Int32).toInt = 3 from by decide] at hp924
      refine lv_if_eq (tgt := 25) hx hb dX12_duck_13 (by decide) (fun _ => ?_) (fun c => absurd c (by decide))
      refine lv_iconst (v := (-1)) hx hb dX12_duck_25 (by decide) ?_
      have hpost : True := trivial
      rw [hQ]
      exact W.iret (v := (-1)) hx hb hr (fun t ht hW => ⟨⟨(-1), (-1), rfl, rfl, ⟨by rw [ht]; exact hI, hN.warm hW, va_K.moved hW.alike hK⟩, by first | (rw [ht]; exact hpost) | exact hpost⟩, hS.F ht⟩) hS.2.2 dX12_duck_26
  · skip
    try simp only [rg, not_and, Int.not_le] at hp
    have hp925 := hp
    refine lv_if_eq (tgt := 25) hx hb dX12_duck_4 (by decide) (fun _ => ?_) (fun c => absurd c (by decide))
    refine lv_iconst (v := (-1)) hx hb dX12_duck_25 (by decide) ?_
    have hpost : True := trivial
    rw [hQ]
    exact W.iret (v := (-1)) hx hb hr (fun t ht hW => ⟨⟨(-1), (-1), rfl, rfl, ⟨by rw [ht]; exact hI, hN.warm hW, va_K.moved hW.alike hK⟩, by first | (rw [ht]; exact hpost) | exact hpost⟩, hS.F ht⟩) hS.2.2 dX12_duck_26
