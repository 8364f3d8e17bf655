
theorem dX11_image_0 : decode cX11_image 0 = .ok (.iload_n 1, 1) := by decide +kernel
theorem dX11_image_1 : decode cX11_image 1 = .ok (.ifCond .lt 8, 3) := by decide +kernel
theorem dX11_image_4 : decode cX11_image 4 = .ok (.iload_n 1, 1) := by decide +kernel
theorem dX11_image_5 : decode cX11_image 5 = .ok (.iconst 2, 1) := by decide +kernel
theorem dX11_image_6 : decode cX11_image 6 = .ok (.if_icmp .lt 9, 3) := by decide +kernel
theorem dX11_image_9 : decode cX11_image 9 = .ok (.aload_n 0, 1) := by decide +kernel
theorem dX11_image_10 : decode cX11_image 10 = .ok (.iconst (-1), 1) := by decide +kernel
theorem dX11_image_11 : decode cX11_image 11 = .ok (.invokevirtual 113, 3) := by decide +kernel
theorem dX11_image_14 : decode cX11_image 14 = .ok (.ireturn, 1) := by decide +kernel
theorem dX11_image_15 : decode cX11_image 15 = .ok (.aload_n 0, 1) := by decide +kernel
theorem dX11_image_16 : decode cX11_image 16 = .ok (.getfield 16, 3) := by decide +kernel
theorem dX11_image_19 : decode cX11_image 19 = .ok (.iload_n 1, 1) := by decide +kernel
theorem dX11_image_20 : decode cX11_image 20 = .ok (.aaload, 1) := by decide +kernel
theorem dX11_image_21 : decode cX11_image 21 = .ok (.ifnonnull 16, 3) := by decide +kernel
theorem dX11_image_24 : decode cX11_image 24 = .ok (.aload_n 0, 1) := by decide +kernel
theorem dX11_image_25 : decode cX11_image 25 = .ok (.getfield 16, 3) := by decide +kernel
theorem dX11_image_28 : decode cX11_image 28 = .ok (.iload_n 1, 1) := by decide +kernel
theorem dX11_image_29 : decode cX11_image 29 = .ok (.new 9, 3) := by decide +kernel
theorem dX11_image_32 : decode cX11_image 32 = .ok (.dup, 1) := by decide +kernel
theorem dX11_image_33 : decode cX11_image 33 = .ok (.invokespecial 11, 3) := by decide +kernel
theorem dX11_image_36 : decode cX11_image 36 = .ok (.aastore, 1) := by decide +kernel
theorem dX11_image_37 : decode cX11_image 37 = .ok (.aload_n 0, 1) := by decide +kernel
theorem dX11_image_38 : decode cX11_image 38 = .ok (.getfield 16, 3) := by decide +kernel
theorem dX11_image_41 : decode cX11_image 41 = .ok (.iload_n 1, 1) := by decide +kernel
theorem dX11_image_42 : decode cX11_image 42 = .ok (.aaload, 1) := by decide +kernel
theorem dX11_image_43 : decode cX11_image 43 = .ok (.aload_n 0, 1) := by decide +kernel
theorem dX11_image_44 : decode cX11_image 44 = .ok (.getfield 12, 3) := by decide +kernel
theorem dX11_image_47 : decode cX11_image 47 = .ok (.invokevirtual 342, 3) := by decide +kernel
theorem dX11_image_50 : decode cX11_image 50 = .ok (.aload_n 0, 1) := by decide +kernel
theorem dX11_image_51 : decode cX11_image 51 = .ok (.iconst 0, 1) := by decide +kernel
theorem dX11_image_52 : decode cX11_image 52 = .ok (.invokevirtual 127, 3) := by decide +kernel
theorem dX11_image_55 : decode cX11_image 55 = .ok (.ireturn, 1) := by decide +kernel
set_option maxHeartbeats 4000000 in
set_option maxRecDepth 100000 in
theorem c_X11_image (l : Launch) (E : Nat → ClassId) (D : va_G) (Gi : th_G) (sz : Nat) (h0 n : Nat) (hG0 : Gi h0 = some (15, n)) (x1 : Int32) : Met l yX11_image (tb (.code yX11_image cX11_image 2 (some .int))) ({ frames := 4, cells := 18, slots := 379, locals := 160 } : Room) (va_Pc [.ref h0, .int x1] (fun U => U.heap.size = sz ∧ th_P E D Gi U ∧ th_AO U)) (QMI E D Gi sz (fun r => ((r : Int32) = -1 ∧ ¬ rg x1 0 1) ∨ ((r : Int32) = 0 ∧ rg x1 0 1))) 18 379 (nA Gi sz) := by
  refine Met.ofW (cc := cX11_image) (maxL := 2) (ret := (some .int)) (by decide) rfl ?_
  intro p e s m args below meth c s₁ B hml hv
  obtain ⟨hav, rfl, ⟨hI, hN, hK⟩, hAO⟩ := hv
  have hx := B.exec
  have hb := B.bytes
  have hr := B.returns
  have hts := atoms_spec (ws := tb (.code yX11_image cX11_image 2 (some .int))) B.pre
  have hown : s.vm.findClass RX11 = some m.cls := findClass_of_methodNamed B.named
  have hlocks := B.notSynchronized
  have hl := lv_entry ([.ref h0, .int x1]) (n := 2) (Nat.le_of_ble_eq_true rfl)
  rw [show entryFrame m args 2 = entryFrame m ([.ref h0, .int x1] : List Value).toArray 2 from by rw [hav], lg_entry_eq]
  generalize (lg_sl ([.ref h0, .int x1]) ++ List.replicate (2 - (lg_sl ([.ref h0, .int x1])).length) Slot.unset).toArray = ls at hl ⊢
  have hl : lv_has ls 2 [(0, .ref h0), (1, .int x1)] := hl
  generalize hR : (headSpec (tb (.code yX11_image cX11_image 2 (some .int))) ({ frames := 4, cells := 18, slots := 379, locals := 160 } : Room)).room = R
  have hR := hR.symm
  generalize hAe : nA Gi s.heap.size = A
  have hA : ∀ q : Nat, s.heap.size ≤ q → A q := fun q h => by rw [← hAe]; exact Or.inr h
  have hS : va_S A s.heap s.heap [] := va_S.rf
  obtain ⟨G, hle0, hI, hAG, hG0⟩ : ∃ G, gle Gi G ∧ th_I (okC E) D G [] s.heap ∧ (∀ (r : Nat) (k : th_K), G r = some k → A r) ∧ G h0 = some (15, n) := ⟨Gi, gle.rf, hI, fun r k h => by rw [← hAe]; exact Or.inl ⟨k, h⟩, hG0⟩
  refine lv_iload_n hx hb dX11_image_0 rfl (lv_at hl 1 rfl) ?_
  have k1 := iv_lo x1
  have k2 := iv_hi x1
  refine lv_if_lt (tgt := 9) hx hb dX11_image_1 (by decide) (fun c3 => ?_) (fun c3 => ?_)
  · skip
    have k4 := iv_lt (X := x1.toInt) (Y := (0)) rfl (by decide) c3
    refine lv_aload_n hx hb dX11_image_9 rfl (lv_at hl 0 rfl) ?_
    refine lv_iconst (v := (-1)) hx hb dX11_image_10 (by decide) ?_
    refine th_xVi (As := [.int (-1)]) (rest := []) (n := 1) (d := 0) ⟨hx, hb, hml, hown, hts⟩ (c_X11_refuse l E D G h0 (n) hG0 (-1)) wd_407 wd_409 wp_0 wd_1 wd_410 (by decide +kernel) ⟨by rw [hR]; exact Nat.le_of_ble_eq_true rfl, by rw [hR]; exact Nat.le_of_ble_eq_true rfl⟩ hI hN hK hS hAG (rc_15 hI hG0 List.not_mem_nil) rfl rfl hl.1 rfl (Nat.le_of_ble_eq_true rfl) dX11_image_11 ⟨by rw [hR]; exact Nat.le_of_ble_eq_true rfl, by rw [hR]; exact Nat.le_of_ble_eq_true rfl⟩ (fun r5 H locs hp hI hS => ?_)
    have hp := hp.symm
    subst hp
    have hpost : (((-1) : Int32) = -1 ∧ ¬ rg x1 0 1) ∨ (((-1) : Int32) = 0 ∧ rg x1 0 1) := by first | exact Or.inl ⟨rfl, by simp only [rg]; omega⟩ | exact Or.inr ⟨rfl, by simp only [rg]; omega⟩
    refine W.widen (k := 18) (n := 379) (Nat.le_of_ble_eq_true rfl) (Nat.le_of_ble_eq_true rfl) ?_
    rw [← hAe] at hS ⊢
    exact W.iret (v := (-1)) hx hb hr (fun t ht hW => ⟨⟨(-1), G, rfl, ⟨hpost, hle0, fun r k hr => nA_new (hAe ▸ hAG) hle0 hr⟩, by rw [ht]; exact hI, hN.warm hW, va_K.moved hW.alike hK⟩, hS.F ht⟩) hS.2.2 dX11_image_14
  · skip
    have k6 := iv_nlt (X := x1.toInt) (Y := (0)) rfl (by decide) c3
    refine lv_iload_n hx hb dX11_image_4 rfl (lv_at hl 1 rfl) ?_
    refine lv_iconst (v := 2) hx hb dX11_image_5 (by decide) ?_
    refine lv_icmp_lt (tgt := 15) hx hb dX11_image_6 (by decide) (fun c7 => ?_) (fun c7 => ?_)
    · skip
      have k8 := iv_lt (X := x1.toInt) (Y := (2)) rfl (by decide) c7
      refine lv_aload_n hx hb dX11_image_15 rfl (lv_at hl 0 rfl) ?_
      obtain ⟨a9, a12, a14, a16, a18, a20, a22, a24, a26, a28, a30, w32, w33, w34, w35, hO, hq10, hq11, hq13, hq15, hq17, hq19, hq21, hq23, hq25, hq27, hq29, hq31⟩ := op_15 hI hG0 List.not_mem_nil
      have hI := th_I.weak (a := h0) hI
      have k36 : (nI (n % 401)).toInt = ((n % 401 : Nat) : Int) := nI_toInt (by omega)
      refine th_get hx hb hts inT11 hown hK hO rfl 1 (by decide) (hts _ (tb_c wd_346)) rfl rfl dX11_image_16 ?_
      refine lv_iload_n hx hb dX11_image_19 rfl (lv_at hl 1 rfl) ?_
      obtain ⟨g38, hA37, hg39⟩ := op_3 hI hq11 (th_ne hG0 hq11 (show (15 : Nat) ≠ 3 by decide))
      refine va_aldq hx hb hK (th_one hA37) 0 5 rfl rfl (iv_in (X := x1.toInt) rfl (by omega) (by omega)) dX11_image_20 ?_
      obtain ⟨r40, e41⟩ : ∃ r, r = g38 x1.toNatClampNeg := ⟨_, rfl⟩
      rw [← e41]
      obtain _ | a42 := r40
      · skip
        refine lv_ifnonnullN hx hb dX11_image_21 ?_
        refine lv_aload_n hx hb dX11_image_24 rfl (lv_at hl 0 rfl) ?_
        refine th_get hx hb hts inT11 hown hK hO rfl 1 (by decide) (hts _ (tb_c wd_346)) rfl rfl dX11_image_25 ?_
        refine lv_iload_n hx hb dX11_image_28 rfl (lv_at hl 1 rfl) ?_
        have hI := th_I.close hI hG0 hO (ok_15 hq10 hq11 hq13 hq15 hq17 hq19 hq21 hq23 hq25 hq27 hq29 hq31)
        refine th_newo (ci := 6) (fs := [.null, .null, .null, .null, .null, .null, .null, .null, .null, .null, .int 0, .int 0, .int 0, .int 0]) hx hb hts inT6 tyX6 tyX6_ok hown (hts _ (tb_c wd_30)) (hts _ (tb_c wd_31)) (hts _ (tb_c wd_2)) hK hI hS rfl (fun j hj => by rcases (show j = 0 ∨ j = 1 ∨ j = 2 ∨ j = 3 ∨ j = 4 ∨ j = 5 ∨ j = 6 ∨ j = 7 ∨ j = 8 ∨ j = 9 ∨ j = 10 ∨ j = 11 ∨ j = 12 ∨ j = 13 by omega) with rfl | rfl | rfl | rfl | rfl | rfl | rfl | rfl | rfl | rfl | rfl | rfl | rfl | rfl <;> rfl) (by rw [hR]; exact Nat.le_of_ble_eq_true rfl) (by rw [hR]; exact Nat.le_of_ble_eq_true rfl) dX11_image_29 (fun a44 H hqe hnn hnsz hOn o1 hI hS => ?_)
        refine lv_dup hx hb dX11_image_32 rfl ?_
        refine th_cI (As := []) (rest := [.ref a44, .int x1, .ref (n / 401)]) (n := 0) ⟨hx, hb, hml, hown, hts⟩ (c_X6_init l E D G a44 H.size hnn) wd_32 wd_33 wd_2 wd_34 (by decide +kernel) ⟨by rw [hR]; exact Nat.le_of_ble_eq_true rfl, by rw [hR]; exact Nat.le_of_ble_eq_true rfl⟩ hI hN hAO hK hOn hnn hnsz hS hA hAG rfl hl.1 rfl (Nat.le_of_ble_eq_true rfl) dX11_image_33 ⟨by rw [hR]; exact Nat.le_of_ble_eq_true rfl, by rw [hR]; exact Nat.le_of_ble_eq_true rfl⟩ (fun G H locs hle hq45 hAG hGne hk hI hS => ?_)
        have hG0 := hle _ _ hG0
        have hq11 := hle _ _ hq11
        have hle0 := hle0.tr hle
        obtain ⟨_, hA46, hg47⟩ := op_3 hI hq11 List.not_mem_nil
        obtain ⟨_, hV48⟩ := rc_6 hI hq45 List.not_mem_nil
        refine th_aast hx hb hK hA46 5 rfl hV48 rfl hS (hAG _ _ hq11) (iv_in (X := x1.toInt) rfl (by omega) (by omega)) dX11_image_36 (fun H locs hA46 oq hS => ?_)
        have hI := th_I.put hI hq11 hA46 (ok_3 (th_upS hg47 hq45)) oq
        refine lv_aload_n hx hb dX11_image_37 rfl (lv_at hl 0 rfl) ?_
        obtain ⟨a49, a52, a54, a56, a58, a60, a62, a64, a66, a68, a70, w72, w73, w74, w75, hO, hq50, hq51, hq53, hq55, hq57, hq59, hq61, hq63, hq65, hq67, hq69, hq71⟩ := op_15 hI hG0 List.not_mem_nil
        have hI := th_I.weak (a := h0) hI
        have k76 : (nI (n % 401)).toInt = ((n % 401 : Nat) : Int) := nI_toInt (by omega)
        refine th_get hx hb hts inT11 hown hK hO rfl 1 (by decide) (hts _ (tb_c wd_346)) rfl rfl dX11_image_38 ?_
        refine lv_iload_n hx hb dX11_image_41 rfl (lv_at hl 1 rfl) ?_
        refine va_aldq hx hb hK (th_one hA46) 0 5 rfl rfl (iv_in (X := x1.toInt) rfl (by omega) (by omega)) dX11_image_42 ?_
        rw [show va_up _ x1.toNatClampNeg (some a44) x1.toNatClampNeg = some a44 from by simp [va_up]]
        refine lv_aload_n hx hb dX11_image_43 rfl (lv_at hl 0 rfl) ?_
        refine th_get hx hb hts inT11 hown hK hO rfl 0 (by decide) (hts _ (tb_c wd_345)) rfl rfl dX11_image_44 ?_
        have hI := th_I.close hI hG0 hO (ok_15 hq50 hq51 hq53 hq55 hq57 hq59 hq61 hq63 hq65 hq67 hq69 hq71)
        refine th_xVv (As := [.ref a49]) (rest := []) (n := 1) (d := 2) ⟨hx, hb, hml, hown, hts⟩ (c_X6_copyFrom l E D G a44 hq45 a49 hq50) wd_1202 wd_1203 wd_1204 wd_2 wd_1205 (by decide +kernel) ⟨by rw [hR]; exact Nat.le_of_ble_eq_true rfl, by rw [hR]; exact Nat.le_of_ble_eq_true rfl⟩ hI hN hK hS hAG (rc_6 hI hq45 List.not_mem_nil) rfl rfl hl.1 rfl (Nat.le_of_ble_eq_true rfl) dX11_image_47 ⟨by rw [hR]; exact Nat.le_of_ble_eq_true rfl, by rw [hR]; exact Nat.le_of_ble_eq_true rfl⟩ (fun H locs hI hS => ?_)
        refine lv_aload_n hx hb dX11_image_50 rfl (lv_at hl 0 rfl) ?_
        refine lv_iconst (v := 0) hx hb dX11_image_51 (by decide) ?_
        refine th_xVi (As := [.int 0]) (rest := []) (n := 1) (d := 0) ⟨hx, hb, hml, hown, hts⟩ (c_X11_accept l E D G h0 (n) hG0 0) wd_447 wd_449 wp_3 wd_1 wd_450 (by decide +kernel) ⟨by rw [hR]; exact Nat.le_of_ble_eq_true rfl, by rw [hR]; exact Nat.le_of_ble_eq_true rfl⟩ hI hN hK hS hAG (rc_15 hI hG0 List.not_mem_nil) rfl rfl hl.1 rfl (Nat.le_of_ble_eq_true rfl) dX11_image_52 ⟨by rw [hR]; exact Nat.le_of_ble_eq_true rfl, by rw [hR]; exact Nat.le_of_ble_eq_true rfl⟩ (fun r78 H locs hp hI hS => ?_)
        have hp := hp.symm
        subst hp
        have hpost : ((0 : Int32) = -1 ∧ ¬ rg x1 0 1) ∨ ((0 : Int32) = 0 ∧ rg x1 0 1) := by first | exact Or.inl ⟨rfl, by simp only [rg]; omega⟩ | exact Or.inr ⟨rfl, by simp only [rg]; omega⟩
        refine W.widen (k := 18) (n := 379) (Nat.le_of_ble_eq_true rfl) (Nat.le_of_ble_eq_true rfl) ?_
        rw [← hAe] at hS ⊢
        exact W.iret (v := 0) hx hb hr (fun t ht hW => ⟨⟨0, G, rfl, ⟨hpost, hle0, fun r k hr => nA_new (hAe ▸ hAG) hle0 hr⟩, by rw [ht]; exact hI, hN.warm hW, va_K.moved hW.alike hK⟩, hS.F ht⟩) hS.2.2 dX11_image_55
      · skip
        obtain hq43 := hg39 _ _ (th_cl (X := x1.toInt) rfl (by omega) (by omega)) e41.symm
        refine lv_ifnonnull (tgt := 37) hx hb dX11_image_21 (by decide) ?_
        refine lv_aload_n hx hb dX11_image_37 rfl (lv_at hl 0 rfl) ?_
        refine th_get hx hb hts inT11 hown hK hO rfl 1 (by decide) (hts _ (tb_c wd_346)) rfl rfl dX11_image_38 ?_
        refine lv_iload_n hx hb dX11_image_41 rfl (lv_at hl 1 rfl) ?_
        refine va_aldq hx hb hK (th_one hA37) 0 5 rfl rfl (iv_in (X := x1.toInt) rfl (by omega) (by omega)) dX11_image_42 ?_
        rw [← e41]
        refine lv_aload_n hx hb dX11_image_43 rfl (lv_at hl 0 rfl) ?_
        refine th_get hx hb hts inT11 hown hK hO rfl 0 (by decide) (hts _ (tb_c wd_345)) rfl rfl dX11_image_44 ?_
        have hI := th_I.close hI hG0 hO (ok_15 hq10 hq11 hq13 hq15 hq17 hq19 hq21 hq23 hq25 hq27 hq29 hq31)
        refine th_xVv (As := [.ref a9]) (rest := []) (n := 1) (d := 2) ⟨hx, hb, hml, hown, hts⟩ (c_X6_copyFrom l E D G a42 hq43 a9 hq10) wd_1202 wd_1203 wd_1204 wd_2 wd_1205 (by decide +kernel) ⟨by rw [hR]; exact Nat.le_of_ble_eq_true rfl, by rw [hR]; exact Nat.le_of_ble_eq_true rfl⟩ hI hN hK hS hAG (rc_6 hI hq43 List.not_mem_nil) rfl rfl hl.1 rfl (Nat.le_of_ble_eq_true rfl) dX11_image_47 ⟨by rw [hR]; exact Nat.le_of_ble_eq_true rfl, by rw [hR]; exact Nat.le_of_ble_eq_true rfl⟩ (fun H locs hI hS => ?_)
        refine lv_aload_n hx hb dX11_image_50 rfl (lv_at hl 0 rfl) ?_
        refine lv_iconst (v := 0) hx hb dX11_image_51 (by decide) ?_
        refine th_xVi (As := [.int 0]) (rest := []) (n := 1) (d := 0) ⟨hx, hb, hml, hown, hts⟩ (c_X11_accept l E D G h0 (n) hG0 0) wd_447 wd_449 wp_3 wd_1 wd_450 (by decide +kernel) ⟨by rw [hR]; exact Nat.le_of_ble_eq_true rfl, by rw [hR]; exact Nat.le_of_ble_eq_true rfl⟩ hI hN hK hS hAG (rc_15 hI hG0 List.not_mem_nil) rfl rfl hl.1 rfl (Nat.le_of_ble_eq_true rfl) dX11_image_52 ⟨by rw [hR]; exact Nat.le_of_ble_eq_true rfl, by rw [hR]; exact Nat.le_of_ble_eq_true rfl⟩ (fun r80 H locs hp hI hS => ?_)
        have hp := hp.symm
        subst hp
        have hpost : ((0 : Int32) = -1 ∧ ¬ rg x1 0 1) ∨ ((0 : Int32) = 0 ∧ rg x1 0 1) := by first | exact Or.inl ⟨rfl, by simp only [rg]; omega⟩ | exact Or.inr ⟨rfl, by simp only [rg]; omega⟩
        refine W.widen (k := 18) (n := 379) (Nat.le_of_ble_eq_true rfl) (Nat.le_of_ble_eq_true rfl) ?_
        rw [← hAe] at hS ⊢
        exact W.iret (v := 0) hx hb hr (fun t ht hW => ⟨⟨0, G, rfl, ⟨hpost, hle0, fun r k hr => nA_new (hAe ▸ hAG) hle0 hr⟩, by rw [ht]; exact hI, hN.warm hW, va_K.moved hW.alike hK⟩, hS.F ht⟩) hS.2.2 dX11_image_55
    · skip
      have k81 := iv_nlt (X := x1.toInt) (Y := (2)) rfl (by decide) c7
      refine lv_aload_n hx hb dX11_image_9 rfl (lv_at hl 0 rfl) ?_
      refine lv_iconst (v := (-1)) hx hb dX11_image_10 (by decide) ?_
      refine th_xVi (As := [.int (-1)]) (rest := []) (n := 1) (d := 0) ⟨hx, hb, hml, hown, hts⟩ (c_X11_refuse l E D G h0 (n) hG0 (-1)) wd_407 wd_409 wp_0 wd_1 wd_410 (by decide +kernel) ⟨by rw [hR]; exact Nat.le_of_ble_eq_true rfl, by rw [hR]; exact Nat.le_of_ble_eq_true rfl⟩ hI hN hK hS hAG (rc_15 hI hG0 List.not_mem_nil) rfl rfl hl.1 rfl (Nat.le_of_ble_eq_true rfl) dX11_image_11 ⟨by rw [hR]; exact Nat.le_of_ble_eq_true rfl, by rw [hR]; exact Nat.le_of_ble_eq_true rfl⟩ (fun r82 H locs hp hI hS => ?_)
      have hp := hp.symm
      subst hp
      have hpost : (((-1) : Int32) = -1 ∧ ¬ rg x1 0 1) ∨ (((-1) : Int32) = 0 ∧ rg x1 0 1) := by first | exact Or.inl ⟨rfl, by simp only [rg]; omega⟩ | exact Or.inr ⟨rfl, by simp only [rg]; omega⟩
      refine W.widen (k := 18) (n := 379) (Nat.le_of_ble_eq_true rfl) (Nat.le_of_ble_eq_true rfl) ?_
      rw [← hAe] at hS ⊢
      exact W.iret (v := (-1)) hx hb hr (fun t ht hW => ⟨⟨(-1), G, rfl, ⟨hpost, hle0, fun r k hr => nA_new (hAe ▸ hAG) hle0 hr⟩, by rw [ht]; exact hI, hN.warm hW, va_K.moved hW.alike hK⟩, hS.F ht⟩) hS.2.2 dX11_image_14
