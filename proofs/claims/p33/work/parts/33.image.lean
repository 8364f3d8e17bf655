
theorem dX11_image_0g : (decode cX11_image 0 = .ok (.iload_n 1, 1)) ∧ (decode cX11_image 1 = .ok (.ifCond .lt 8, 3)) ∧ (decode cX11_image 4 = .ok (.iload_n 1, 1)) ∧ (decode cX11_image 5 = .ok (.iconst 2, 1)) ∧ (decode cX11_image 6 = .ok (.if_icmp .lt 9, 3)) ∧ (decode cX11_image 9 = .ok (.aload_n 0, 1)) ∧ (decode cX11_image 10 = .ok (.iconst (-1), 1)) ∧ (decode cX11_image 11 = .ok (.invokevirtual 113, 3)) ∧ (decode cX11_image 14 = .ok (.ireturn, 1)) ∧ (decode cX11_image 15 = .ok (.aload_n 0, 1)) := by decide +kernel
theorem dX11_image_0 : decode cX11_image 0 = .ok (.iload_n 1, 1) := dX11_image_0g.1
theorem dX11_image_1 : decode cX11_image 1 = .ok (.ifCond .lt 8, 3) := dX11_image_0g.2.1
theorem dX11_image_4 : decode cX11_image 4 = .ok (.iload_n 1, 1) := dX11_image_0g.2.2.1
theorem dX11_image_5 : decode cX11_image 5 = .ok (.iconst 2, 1) := dX11_image_0g.2.2.2.1
theorem dX11_image_6 : decode cX11_image 6 = .ok (.if_icmp .lt 9, 3) := dX11_image_0g.2.2.2.2.1
theorem dX11_image_9 : decode cX11_image 9 = .ok (.aload_n 0, 1) := dX11_image_0g.2.2.2.2.2.1
theorem dX11_image_10 : decode cX11_image 10 = .ok (.iconst (-1), 1) := dX11_image_0g.2.2.2.2.2.2.1
theorem dX11_image_11 : decode cX11_image 11 = .ok (.invokevirtual 113, 3) := dX11_image_0g.2.2.2.2.2.2.2.1
theorem dX11_image_14 : decode cX11_image 14 = .ok (.ireturn, 1) := dX11_image_0g.2.2.2.2.2.2.2.2.1
theorem dX11_image_15 : decode cX11_image 15 = .ok (.aload_n 0, 1) := dX11_image_0g.2.2.2.2.2.2.2.2.2
theorem dX11_image_16g : (decode cX11_image 16 = .ok (.getfield 16, 3)) ∧ (decode cX11_image 19 = .ok (.iload_n 1, 1)) ∧ (decode cX11_image 20 = .ok (.aaload, 1)) ∧ (decode cX11_image 21 = .ok (.ifnonnull 16, 3)) ∧ (decode cX11_image 24 = .ok (.aload_n 0, 1)) ∧ (decode cX11_image 25 = .ok (.getfield 16, 3)) ∧ (decode cX11_image 28 = .ok (.iload_n 1, 1)) ∧ (decode cX11_image 29 = .ok (.new 9, 3)) ∧ (decode cX11_image 32 = .ok (.dup, 1)) ∧ (decode cX11_image 33 = .ok (.invokespecial 11, 3)) := by decide +kernel
theorem dX11_image_16 : decode cX11_image 16 = .ok (.getfield 16, 3) := dX11_image_16g.1
theorem dX11_image_19 : decode cX11_image 19 = .ok (.iload_n 1, 1) := dX11_image_16g.2.1
theorem dX11_image_20 : decode cX11_image 20 = .ok (.aaload, 1) := dX11_image_16g.2.2.1
theorem dX11_image_21 : decode cX11_image 21 = .ok (.ifnonnull 16, 3) := dX11_image_16g.2.2.2.1
theorem dX11_image_24 : decode cX11_image 24 = .ok (.aload_n 0, 1) := dX11_image_16g.2.2.2.2.1
theorem dX11_image_25 : decode cX11_image 25 = .ok (.getfield 16, 3) := dX11_image_16g.2.2.2.2.2.1
theorem dX11_image_28 : decode cX11_image 28 = .ok (.iload_n 1, 1) := dX11_image_16g.2.2.2.2.2.2.1
theorem dX11_image_29 : decode cX11_image 29 = .ok (.new 9, 3) := dX11_image_16g.2.2.2.2.2.2.2.1
theorem dX11_image_32 : decode cX11_image 32 = .ok (.dup, 1) := dX11_image_16g.2.2.2.2.2.2.2.2.1
theorem dX11_image_33 : decode cX11_image 33 = .ok (.invokespecial 11, 3) := dX11_image_16g.2.2.2.2.2.2.2.2.2
theorem dX11_image_36g : (decode cX11_image 36 = .ok (.aastore, 1)) ∧ (decode cX11_image 37 = .ok (.aload_n 0, 1)) ∧ (decode cX11_image 38 = .ok (.getfield 16, 3)) ∧ (decode cX11_image 41 = .ok (.iload_n 1, 1)) ∧ (decode cX11_image 42 = .ok (.aaload, 1)) ∧ (decode cX11_image 43 = .ok (.aload_n 0, 1)) ∧ (decode cX11_image 44 = .ok (.getfield 12, 3)) ∧ (decode cX11_image 47 = .ok (.invokevirtual 342, 3)) ∧ (decode cX11_image 50 = .ok (.aload_n 0, 1)) ∧ (decode cX11_image 51 = .ok (.iconst 0, 1)) := by decide +kernel
theorem dX11_image_36 : decode cX11_image 36 = .ok (.aastore, 1) := dX11_image_36g.1
theorem dX11_image_37 : decode cX11_image 37 = .ok (.aload_n 0, 1) := dX11_image_36g.2.1
theorem dX11_image_38 : decode cX11_image 38 = .ok (.getfield 16, 3) := dX11_image_36g.2.2.1
theorem dX11_image_41 : decode cX11_image 41 = .ok (.iload_n 1, 1) := dX11_image_36g.2.2.2.1
theorem dX11_image_42 : decode cX11_image 42 = .ok (.aaload, 1) := dX11_image_36g.2.2.2.2.1
theorem dX11_image_43 : decode cX11_image 43 = .ok (.aload_n 0, 1) := dX11_image_36g.2.2.2.2.2.1
theorem dX11_image_44 : decode cX11_image 44 = .ok (.getfield 12, 3) := dX11_image_36g.2.2.2.2.2.2.1
theorem dX11_image_47 : decode cX11_image 47 = .ok (.invokevirtual 342, 3) := dX11_image_36g.2.2.2.2.2.2.2.1
theorem dX11_image_50 : decode cX11_image 50 = .ok (.aload_n 0, 1) := dX11_image_36g.2.2.2.2.2.2.2.2.1
theorem dX11_image_51 : decode cX11_image 51 = .ok (.iconst 0, 1) := dX11_image_36g.2.2.2.2.2.2.2.2.2
theorem dX11_image_52g : (decode cX11_image 52 = .ok (.invokevirtual 127, 3)) ∧ (decode cX11_image 55 = .ok (.ireturn, 1)) := by decide +kernel
theorem dX11_image_52 : decode cX11_image 52 = .ok (.invokevirtual 127, 3) := dX11_image_52g.1
theorem dX11_image_55 : decode cX11_image 55 = .ok (.ireturn, 1) := dX11_image_52g.2
set_option maxHeartbeats 4000000 in
set_option maxRecDepth 100000 in
theorem c_X11_image (l : Launch) (E : Nat → Nat) (D : va_G) (Gi : th_G) (sz : Nat) (h0 n : Nat) (hG0 : Gi h0 = some (15, n)) (x1 : Int32) (sa t : Nat) (e1 : E (32 + 8 * h0) = sa + 1) (e2 : E (32 + 8 * sa) = t + 1) (u0 u1 : Nat) (f0 : ∀ z : Nat, E (32 + 8 * n) = z + 1 → E (32 + 8 * z) = u0 + 1) (f1 : ∀ z : Nat, E (33 + 8 * n) = z + 1 → E (32 + 8 * z) = u1 + 1) (hE : ∀ k : Nat, 32 + 8 * sz ≤ k → E k = 0) : Met l yX11_image (tb (.code yX11_image cX11_image 2 (some .int))) ({ frames := 4, cells := 18, slots := 379, locals := 160 } : Room) (va_Pc [.ref h0, .int x1] (fun U => U.heap.size = sz ∧ th_P E D Gi U ∧ th_AO U)) (QME E D Gi sz n t x1 (fun r => ((r : Int32) = -1 ∧ ¬ rg x1 0 1) ∨ ((r : Int32) = 0 ∧ rg x1 0 1))) 18 379 (nA Gi sz) := by
  refine Met.ofW (cc := cX11_image) (maxL := 2) (ret := (some .int)) (by decide) rfl ?_
  intro p e s m args below meth c s₁ B hml hv
  obtain ⟨hav, rfl, ⟨hI, hN, hK⟩, hAO⟩ := hv
  have hx := B.exec
  have hb := B.bytes
  have hr := B.returns
  have hts := atoms_spec (ws := tb (.code yX11_image cX11_image 2 (some .int))) B.pre
  have hown : s.vm.findClass RX11 = some m.cls := findClass_of_methodNamed B.named
  have hlocks := B.notSynchronized
  have hl := lv_entry ([.ref h0, .int x1]) (n := 2) (Nat.le_of_ble_eq_true rfl)
  rw [show entryFrame m args 2 = entryFrame m ([.ref h0, .int x1] : List Value).toArray 2 from by rw [hav], lg_entry_eq]
  generalize (lg_sl ([.ref h0, .int x1]) ++ List.replicate (2 - (lg_sl ([.ref h0, .int x1])).length) Slot.unset).toArray = ls at hl ⊢
  have hl : lv_has ls 2 [(0, .ref h0), (1, .int x1)] := hl
  generalize hR : (headSpec (tb (.code yX11_image cX11_image 2 (some .int))) ({ frames := 4, cells := 18, slots := 379, locals := 160 } : Room)).room = R
  have hR := hR.symm
  generalize hAe : nA Gi s.heap.size = A
  have hA : ∀ q : Nat, s.heap.size ≤ q → A q := fun q h => by rw [← hAe]; exact Or.inr h
  have hS : va_S A s.heap s.heap [] := va_S.rf
  obtain ⟨G, hle0, hI, hAG, hG0⟩ : ∃ G, gle Gi G ∧ th_I (okC E) D G [] s.heap ∧ (∀ (r : Nat) (k : th_K), G r = some k → A r) ∧ G h0 = some (15, n) := ⟨Gi, gle.rf, hI, fun r k h => by rw [← hAe]; exact Or.inl ⟨k, h⟩, hG0⟩
  obtain ⟨hGs, hGn⟩ := ea_sa hI hG0 e1
  obtain ⟨hGt, hlst⟩ := ea_st hI hGs e2
  have hlt0 := th_lt hI hG0
  have hltn := th_lt hI hGn
  have hlts := th_lt hI hGs
  have hltt := th_lt hI hGt
  have hne1 := ea_ne hG0 hGn (by decide)
  have hne2 := ea_ne hGs hGn (by decide)
  refine lv_iload_n hx hb dX11_image_0 rfl (lv_at hl 1 rfl) ?_
  have k1 := iv_lo x1
  have k2 := iv_hi x1
  refine lv_if_lt (tgt := 9) hx hb dX11_image_1 (by decide) (fun c3 => ?_) (fun c3 => ?_)
  · skip
    have k4 := iv_lt (X := x1.toInt) (Y := (0)) rfl (by decide) c3
    refine lv_aload_n hx hb dX11_image_9 rfl (lv_at hl 0 rfl) ?_
    refine lv_iconst (v := (-1)) hx hb dX11_image_10 (by decide) ?_
    refine th_xVi (As := [.int (-1)]) (rest := []) (n := 1) (d := 0) ⟨hx, hb, hml, hown, hts⟩ (c_X11_refuse l E D G h0 (n) hG0 (-1)) wd_407 wd_409 wp_0 wd_1 wd_410 (by decide +kernel) ⟨by rw [hR]; exact Nat.le_of_ble_eq_true rfl, by rw [hR]; exact Nat.le_of_ble_eq_true rfl⟩ hI hN hK hS hAG (rc_15 hI hG0 List.not_mem_nil) rfl rfl hl.1 rfl (Nat.le_of_ble_eq_true rfl) dX11_image_11 ⟨by rw [hR]; exact Nat.le_of_ble_eq_true rfl, by rw [hR]; exact Nat.le_of_ble_eq_true rfl⟩ (fun r5 H locs hp hI hS => ?_)
    have hp := hp.symm
    subst hp
    have hpost : (((-1) : Int32) = -1 ∧ ¬ rg x1 0 1) ∨ (((-1) : Int32) = 0 ∧ rg x1 0 1) := by first | exact Or.inl ⟨rfl, by simp only [rg]; omega⟩ | exact Or.inr ⟨rfl, by simp only [rg]; omega⟩
    have hIMQ : IMQ G E E s.heap.size n t x1 := Or.inl ⟨by simp only [rg]; omega, rfl⟩
    refine W.widen (k := 18) (n := 379) (Nat.le_of_ble_eq_true rfl) (Nat.le_of_ble_eq_true rfl) ?_
    rw [← hAe] at hS ⊢
    exact W.iret (v := (-1)) hx hb hr (fun t ht hW => ⟨⟨(-1), (G, E), rfl, ⟨hpost, hle0, fun r k hr => nA_new (hAe ▸ hAG) hle0 hr, hIMQ⟩, by rw [ht]; exact hI, hN.warm hW, va_K.moved hW.alike hK⟩, hS.F ht⟩) hS.2.2 dX11_image_14
  · skip
    have k6 := iv_nlt (X := x1.toInt) (Y := (0)) rfl (by decide) c3
    refine lv_iload_n hx hb dX11_image_4 rfl (lv_at hl 1 rfl) ?_
    refine lv_iconst (v := 2) hx hb dX11_image_5 (by decide) ?_
    refine lv_icmp_lt (tgt := 15) hx hb dX11_image_6 (by decide) (fun c7 => ?_) (fun c7 => ?_)
    · skip
      have k8 := iv_lt (X := x1.toInt) (Y := (2)) rfl (by decide) c7
      refine lv_aload_n hx hb dX11_image_15 rfl (lv_at hl 0 rfl) ?_
      obtain ⟨a9, a12, a14, a16, a18, a20, a22, a24, a26, a28, a30, w32, w35, w36, w37, w38, hO, hq10, hq11, hq13, hq15, hq17, hq19, hq21, hq23, hq25, hq27, hq29, hq31, ⟨k33, k34⟩, k39⟩ := op_15 hI hG0 List.not_mem_nil
      have hI := th_I.weak (a := h0) hI
      obtain rfl := eaU_q k39 e1
      refine th_get hx hb hts inT11 hown hK hO rfl 1 (by decide) (hts _ (tb_c wd_346)) rfl rfl dX11_image_16 ?_
      refine lv_iload_n hx hb dX11_image_19 rfl (lv_at hl 1 rfl) ?_
      have hI := th_I.close hI hG0 hO (ok_15 hq10 hq11 hq13 hq15 hq17 hq19 hq21 hq23 hq25 hq27 hq29 hq31 ⟨by omega, by omega⟩ k39)
      obtain ⟨g41, hA40, hg42, hi0, hi1⟩ := op_3 hI hGn List.not_mem_nil
      refine va_aldq hx hb hK (th_one hA40) 0 5 rfl rfl (iv_in (X := x1.toInt) rfl (by omega) (by omega)) dX11_image_20 ?_
      rcases im_at (x := x1) (by omega) (by omega) with ⟨kx, zx⟩ | ⟨kx, zx⟩
      · rw [zx, hi0]
        rcases Nat.eq_zero_or_pos (E (32 + 8 * n)) with hz | hz
        · rw [im_r0 hz]
          refine lv_ifnonnullN hx hb dX11_image_21 ?_
          refine lv_aload_n hx hb dX11_image_24 rfl (lv_at hl 0 rfl) ?_
          obtain ⟨a43, a46, a48, a50, a52, a54, a56, a58, a60, a62, a64, w66, w69, w70, w71, w72, hO, hq44, hq45, hq47, hq49, hq51, hq53, hq55, hq57, hq59, hq61, hq63, hq65, ⟨k67, k68⟩, k73⟩ := op_15 hI hG0 List.not_mem_nil
          have hI := th_I.weak (a := h0) hI
          obtain rfl := eaU_q k73 e1
          refine th_get hx hb hts inT11 hown hK hO rfl 1 (by decide) (hts _ (tb_c wd_346)) rfl rfl dX11_image_25 ?_
          refine lv_iload_n hx hb dX11_image_28 rfl (lv_at hl 1 rfl) ?_
          have hI := th_I.close hI hG0 hO (ok_15 hq44 hq45 hq47 hq49 hq51 hq53 hq55 hq57 hq59 hq61 hq63 hq65 ⟨by omega, by omega⟩ k73)
          refine th_newo (ci := 6) (fs := [.null, .null, .null, .null, .null, .null, .null, .null, .null, .null, .int 0, .int 0, .int 0, .int 0]) hx hb hts inT6 tyX6 tyX6_ok hown (hts _ (tb_c wd_30)) (hts _ (tb_c wd_31)) (hts _ (tb_c wd_2)) hK hI hS rfl (fun j hj => by rcases (show j = 0 ∨ j = 1 ∨ j = 2 ∨ j = 3 ∨ j = 4 ∨ j = 5 ∨ j = 6 ∨ j = 7 ∨ j = 8 ∨ j = 9 ∨ j = 10 ∨ j = 11 ∨ j = 12 ∨ j = 13 by omega) with rfl | rfl | rfl | rfl | rfl | rfl | rfl | rfl | rfl | rfl | rfl | rfl | rfl | rfl <;> rfl) (by rw [hR]; exact Nat.le_of_ble_eq_true rfl) (by rw [hR]; exact Nat.le_of_ble_eq_true rfl) dX11_image_29 (fun a74 H hqe hnn hnsz hOn o1 hI hS => ?_)
          have hnsz9 := hnsz
          refine lv_dup hx hb dX11_image_32 rfl ?_
          refine th_cI (As := []) (rest := [.ref a74, .int x1, .ref n]) (n := 0) ⟨hx, hb, hml, hown, hts⟩ (c_X6_init l E D G a74 H.size hnn (fun k h => hE k (by have := hS.1; omega))) wd_32 wd_33 wd_2 wd_34 (by decide +kernel) ⟨by rw [hR]; exact Nat.le_of_ble_eq_true rfl, by rw [hR]; exact Nat.le_of_ble_eq_true rfl⟩ hI hN hAO hK hOn hnn hnsz hS hA hAG rfl hl.1 rfl (Nat.le_of_ble_eq_true rfl) dX11_image_33 ⟨by rw [hR]; exact Nat.le_of_ble_eq_true rfl, by rw [hR]; exact Nat.le_of_ble_eq_true rfl⟩ (fun G H locs hle hq75 hAG hGne hk hI hS => ?_)
          have hG0 := hle _ _ hG0
          have hq45 := hle _ _ hq45
          have hGs := hle _ _ hGs
          have hGn := hle _ _ hGn
          have hGt := hle _ _ hGt
          have hle0 := hle0.tr hle
          obtain ⟨_, hA76, hg9, hi0, hi1⟩ := op_3 hI hGn List.not_mem_nil
          obtain ⟨_, hV77⟩ := rc_6 hI hq75 List.not_mem_nil
          refine th_aast hx hb hK hA76 5 rfl hV77 rfl hS (hAG _ _ hGn) (iv_in (X := x1.toInt) rfl (by omega) (by omega)) dX11_image_36 (fun H locs hA76 oq hS => ?_)
          rw [zx] at hA76
          obtain ⟨Eu78, hEu78⟩ : ∃ x : Nat → Nat, x = eu E (32 + 8 * n) (a74 + 1) := ⟨_, rfl⟩
          have hI : th_I (okC Eu78) D G [] H := by rw [hEu78]; exact ea_put hI hGn hA76 ⟨by omega, by omega⟩ (ea_k30 hg9 hi1 hq75) oq
          have hK0 := hK
          have hK : va_K D vwCl (th_tys Eu78) s := by rw [hEu78, tys_eu (by omega)]; exact hK
          have zEu78 : Eu78 (32 + 8 * n) = (a74 + 1) := by rw [hEu78]; exact eu_at
          obtain ⟨gq, hGq, hlgq, hI9⟩ := ea_learn hI hq75
          obtain ⟨Eu79, hEu79⟩ : ∃ x : Nat → Nat, x = eu Eu78 (32 + 8 * a74) (gq + 1) := ⟨_, rfl⟩
          have hI : th_I (okC Eu79) D G [] H := by rw [hEu79]; exact hI9
          have hK : va_K D vwCl (th_tys Eu79) s := by rw [hEu79, tys_eu (by omega)]; exact hK
          have zEu79 : Eu79 (32 + 8 * a74) = (gq + 1) := by rw [hEu79]; exact eu_at
          have e1b : Eu79 (32 + 8 * h0) = sa + 1 := by rw [hEu79, eu_ne (by omega), hEu78, eu_ne (by omega)]; exact e1
          have e2b : Eu79 (32 + 8 * sa) = t + 1 := by rw [hEu79, eu_ne (by omega), hEu78, eu_ne (by omega)]; exact e2
          have e3b : Eu79 (32 + 8 * a74) = gq + 1 := by rw [hEu79, eu_at]
          refine lv_aload_n hx hb dX11_image_37 rfl (lv_at hl 0 rfl) ?_
          obtain ⟨a80, a83, a85, a87, a89, a91, a93, a95, a97, a99, a101, w103, w106, w107, w108, w109, hO, hq81, hq82, hq84, hq86, hq88, hq90, hq92, hq94, hq96, hq98, hq100, hq102, ⟨k104, k105⟩, k110⟩ := op_15 hI hG0 List.not_mem_nil
          have hI := th_I.weak (a := h0) hI
          obtain rfl := eaU_q k110 e1b
          refine th_get hx hb hts inT11 hown hK hO rfl 1 (by decide) (hts _ (tb_c wd_346)) rfl rfl dX11_image_38 ?_
          refine lv_iload_n hx hb dX11_image_41 rfl (lv_at hl 1 rfl) ?_
          have hI := th_I.close hI hG0 hO (ok_15 hq81 hq82 hq84 hq86 hq88 hq90 hq92 hq94 hq96 hq98 hq100 hq102 ⟨by omega, by omega⟩ k110)
          refine va_aldq hx hb hK0 (th_one hA76) 0 5 rfl rfl (iv_in (X := x1.toInt) rfl (by omega) (by omega)) dX11_image_42 ?_
          rw [zx, show va_up _ 0 (some a74) 0 = some a74 from by simp [va_up]]
          refine lv_aload_n hx hb dX11_image_43 rfl (lv_at hl 0 rfl) ?_
          obtain ⟨a111, a114, a116, a118, a120, a122, a124, a126, a128, a130, a132, w134, w137, w138, w139, w140, hO, hq112, hq113, hq115, hq117, hq119, hq121, hq123, hq125, hq127, hq129, hq131, hq133, ⟨k135, k136⟩, k141⟩ := op_15 hI hG0 List.not_mem_nil
          have hI := th_I.weak (a := h0) hI
          obtain rfl := eaU_q k141 e1b
          refine th_get hx hb hts inT11 hown hK hO rfl 0 (by decide) (hts _ (tb_c wd_345)) rfl rfl dX11_image_44 ?_
          have hI := th_I.close hI hG0 hO (ok_15 hq112 hq113 hq115 hq117 hq119 hq121 hq123 hq125 hq127 hq129 hq131 hq133 ⟨by omega, by omega⟩ k141)
          refine th_xVvE (As := [.ref sa]) (rest := []) (n := 1) (d := 2) ⟨hx, hb, hml, hown, hts⟩ (c_X6_copyFrom l Eu79 D G a74 hq75 sa hq112 gq t e3b e2b) wd_1202 wd_1203 wd_1204 wd_2 wd_1205 (by decide +kernel) ⟨by rw [hR]; exact Nat.le_of_ble_eq_true rfl, by rw [hR]; exact Nat.le_of_ble_eq_true rfl⟩ hI hN hK (by rw [tys_eu (by omega)]; exact hK) hS hAG (rc_6 hI hq75 List.not_mem_nil) rfl rfl hl.1 rfl (Nat.le_of_ble_eq_true rfl) dX11_image_47 ⟨by rw [hR]; exact Nat.le_of_ble_eq_true rfl, by rw [hR]; exact Nat.le_of_ble_eq_true rfl⟩ (fun H locs Eu143 hEu143 hI hK hS => ?_)
          refine lv_aload_n hx hb dX11_image_50 rfl (lv_at hl 0 rfl) ?_
          refine lv_iconst (v := 0) hx hb dX11_image_51 (by decide) ?_
          refine th_xVi (As := [.int 0]) (rest := []) (n := 1) (d := 0) ⟨hx, hb, hml, hown, hts⟩ (c_X11_accept l Eu143 D G h0 (n) hG0 0) wd_447 wd_449 wp_3 wd_1 wd_450 (by decide +kernel) ⟨by rw [hR]; exact Nat.le_of_ble_eq_true rfl, by rw [hR]; exact Nat.le_of_ble_eq_true rfl⟩ hI hN hK hS hAG (rc_15 hI hG0 List.not_mem_nil) rfl rfl hl.1 rfl (Nat.le_of_ble_eq_true rfl) dX11_image_52 ⟨by rw [hR]; exact Nat.le_of_ble_eq_true rfl, by rw [hR]; exact Nat.le_of_ble_eq_true rfl⟩ (fun r144 H locs hp hI hS => ?_)
          have hp := hp.symm
          subst hp
          have hpost : ((0 : Int32) = -1 ∧ ¬ rg x1 0 1) ∨ ((0 : Int32) = 0 ∧ rg x1 0 1) := by first | exact Or.inl ⟨rfl, by simp only [rg]; omega⟩ | exact Or.inr ⟨rfl, by simp only [rg]; omega⟩
          have hIMQ : IMQ G E Eu143 s.heap.size n t x1 := by rw [hEu143, hEu79, hEu78]; exact IMQ_new (j := 0) (by decide) (by omega) hz hq75 hGq hnsz9 hlgq hltn hltt (ea_ne hGt hGn (by decide))
          refine W.widen (k := 18) (n := 379) (Nat.le_of_ble_eq_true rfl) (Nat.le_of_ble_eq_true rfl) ?_
          rw [← hAe] at hS ⊢
          exact W.iret (v := 0) hx hb hr (fun t ht hW => ⟨⟨0, (G, Eu143), rfl, ⟨hpost, hle0, fun r k hr => nA_new (hAe ▸ hAG) hle0 hr, hIMQ⟩, by rw [ht]; exact hI, hN.warm hW, va_K.moved hW.alike hK⟩, hS.F ht⟩) hS.2.2 dX11_image_55
        · obtain ⟨a145, e146⟩ : ∃ z : Nat, E (32 + 8 * n) = z + 1 := ⟨E (32 + 8 * n) - 1, by omega⟩
          have hq147 := hg42 0 _ (by decide) (hi0.trans (im_rs e146))
          obtain ⟨hGu9, hlu9⟩ := ea_st hI hq147 (f0 _ e146)
          rw [im_rs e146]
          refine lv_ifnonnull (tgt := 37) hx hb dX11_image_21 (by decide) ?_
          refine lv_aload_n hx hb dX11_image_37 rfl (lv_at hl 0 rfl) ?_
          obtain ⟨a148, a151, a153, a155, a157, a159, a161, a163, a165, a167, a169, w171, w174, w175, w176, w177, hO, hq149, hq150, hq152, hq154, hq156, hq158, hq160, hq162, hq164, hq166, hq168, hq170, ⟨k172, k173⟩, k178⟩ := op_15 hI hG0 List.not_mem_nil
          have hI := th_I.weak (a := h0) hI
          obtain rfl := eaU_q k178 e1
          refine th_get hx hb hts inT11 hown hK hO rfl 1 (by decide) (hts _ (tb_c wd_346)) rfl rfl dX11_image_38 ?_
          refine lv_iload_n hx hb dX11_image_41 rfl (lv_at hl 1 rfl) ?_
          have hI := th_I.close hI hG0 hO (ok_15 hq149 hq150 hq152 hq154 hq156 hq158 hq160 hq162 hq164 hq166 hq168 hq170 ⟨by omega, by omega⟩ k178)
          refine va_aldq hx hb hK (th_one hA40) 0 5 rfl rfl (iv_in (X := x1.toInt) rfl (by omega) (by omega)) dX11_image_42 ?_
          rw [zx, hi0, im_rs e146]
          refine lv_aload_n hx hb dX11_image_43 rfl (lv_at hl 0 rfl) ?_
          obtain ⟨a179, a182, a184, a186, a188, a190, a192, a194, a196, a198, a200, w202, w205, w206, w207, w208, hO, hq180, hq181, hq183, hq185, hq187, hq189, hq191, hq193, hq195, hq197, hq199, hq201, ⟨k203, k204⟩, k209⟩ := op_15 hI hG0 List.not_mem_nil
          have hI := th_I.weak (a := h0) hI
          obtain rfl := eaU_q k209 e1
          refine th_get hx hb hts inT11 hown hK hO rfl 0 (by decide) (hts _ (tb_c wd_345)) rfl rfl dX11_image_44 ?_
          have hI := th_I.close hI hG0 hO (ok_15 hq180 hq181 hq183 hq185 hq187 hq189 hq191 hq193 hq195 hq197 hq199 hq201 ⟨by omega, by omega⟩ k209)
          refine th_xVvE (As := [.ref sa]) (rest := []) (n := 1) (d := 2) ⟨hx, hb, hml, hown, hts⟩ (c_X6_copyFrom l E D G a145 hq147 sa hq180 u0 t (f0 _ e146) e2) wd_1202 wd_1203 wd_1204 wd_2 wd_1205 (by decide +kernel) ⟨by rw [hR]; exact Nat.le_of_ble_eq_true rfl, by rw [hR]; exact Nat.le_of_ble_eq_true rfl⟩ hI hN hK (by rw [tys_eu (by omega)]; exact hK) hS hAG (rc_6 hI hq147 List.not_mem_nil) rfl rfl hl.1 rfl (Nat.le_of_ble_eq_true rfl) dX11_image_47 ⟨by rw [hR]; exact Nat.le_of_ble_eq_true rfl, by rw [hR]; exact Nat.le_of_ble_eq_true rfl⟩ (fun H locs Eu211 hEu211 hI hK hS => ?_)
          refine lv_aload_n hx hb dX11_image_50 rfl (lv_at hl 0 rfl) ?_
          refine lv_iconst (v := 0) hx hb dX11_image_51 (by decide) ?_
          refine th_xVi (As := [.int 0]) (rest := []) (n := 1) (d := 0) ⟨hx, hb, hml, hown, hts⟩ (c_X11_accept l Eu211 D G h0 (n) hG0 0) wd_447 wd_449 wp_3 wd_1 wd_450 (by decide +kernel) ⟨by rw [hR]; exact Nat.le_of_ble_eq_true rfl, by rw [hR]; exact Nat.le_of_ble_eq_true rfl⟩ hI hN hK hS hAG (rc_15 hI hG0 List.not_mem_nil) rfl rfl hl.1 rfl (Nat.le_of_ble_eq_true rfl) dX11_image_52 ⟨by rw [hR]; exact Nat.le_of_ble_eq_true rfl, by rw [hR]; exact Nat.le_of_ble_eq_true rfl⟩ (fun r212 H locs hp hI hS => ?_)
          have hp := hp.symm
          subst hp
          have hpost : ((0 : Int32) = -1 ∧ ¬ rg x1 0 1) ∨ ((0 : Int32) = 0 ∧ rg x1 0 1) := by first | exact Or.inl ⟨rfl, by simp only [rg]; omega⟩ | exact Or.inr ⟨rfl, by simp only [rg]; omega⟩
          have hIMQ : IMQ G E Eu211 s.heap.size n t x1 := by rw [hEu211]; exact IMQ_old (j := 0) (by decide) (by omega) e146 (f0 _ e146) hq147 hGu9 (by omega) (ea_ne hGn hGu9 (by decide))
          refine W.widen (k := 18) (n := 379) (Nat.le_of_ble_eq_true rfl) (Nat.le_of_ble_eq_true rfl) ?_
          rw [← hAe] at hS ⊢
          exact W.iret (v := 0) hx hb hr (fun t ht hW => ⟨⟨0, (G, Eu211), rfl, ⟨hpost, hle0, fun r k hr => nA_new (hAe ▸ hAG) hle0 hr, hIMQ⟩, by rw [ht]; exact hI, hN.warm hW, va_K.moved hW.alike hK⟩, hS.F ht⟩) hS.2.2 dX11_image_55
      · rw [zx, hi1]
        rcases Nat.eq_zero_or_pos (E (33 + 8 * n)) with hz | hz
        · rw [im_r0 hz]
          refine lv_ifnonnullN hx hb dX11_image_21 ?_
          refine lv_aload_n hx hb dX11_image_24 rfl (lv_at hl 0 rfl) ?_
          obtain ⟨a213, a216, a218, a220, a222, a224, a226, a228, a230, a232, a234, w236, w239, w240, w241, w242, hO, hq214, hq215, hq217, hq219, hq221, hq223, hq225, hq227, hq229, hq231, hq233, hq235, ⟨k237, k238⟩, k243⟩ := op_15 hI hG0 List.not_mem_nil
          have hI := th_I.weak (a := h0) hI
          obtain rfl := eaU_q k243 e1
          refine th_get hx hb hts inT11 hown hK hO rfl 1 (by decide) (hts _ (tb_c wd_346)) rfl rfl dX11_image_25 ?_
          refine lv_iload_n hx hb dX11_image_28 rfl (lv_at hl 1 rfl) ?_
          have hI := th_I.close hI hG0 hO (ok_15 hq214 hq215 hq217 hq219 hq221 hq223 hq225 hq227 hq229 hq231 hq233 hq235 ⟨by omega, by omega⟩ k243)
          refine th_newo (ci := 6) (fs := [.null, .null, .null, .null, .null, .null, .null, .null, .null, .null, .int 0, .int 0, .int 0, .int 0]) hx hb hts inT6 tyX6 tyX6_ok hown (hts _ (tb_c wd_30)) (hts _ (tb_c wd_31)) (hts _ (tb_c wd_2)) hK hI hS rfl (fun j hj => by rcases (show j = 0 ∨ j = 1 ∨ j = 2 ∨ j = 3 ∨ j = 4 ∨ j = 5 ∨ j = 6 ∨ j = 7 ∨ j = 8 ∨ j = 9 ∨ j = 10 ∨ j = 11 ∨ j = 12 ∨ j = 13 by omega) with rfl | rfl | rfl | rfl | rfl | rfl | rfl | rfl | rfl | rfl | rfl | rfl | rfl | rfl <;> rfl) (by rw [hR]; exact Nat.le_of_ble_eq_true rfl) (by rw [hR]; exact Nat.le_of_ble_eq_true rfl) dX11_image_29 (fun a244 H hqe hnn hnsz hOn o1 hI hS => ?_)
          have hnsz9 := hnsz
          refine lv_dup hx hb dX11_image_32 rfl ?_
          refine th_cI (As := []) (rest := [.ref a244, .int x1, .ref n]) (n := 0) ⟨hx, hb, hml, hown, hts⟩ (c_X6_init l E D G a244 H.size hnn (fun k h => hE k (by have := hS.1; omega))) wd_32 wd_33 wd_2 wd_34 (by decide +kernel) ⟨by rw [hR]; exact Nat.le_of_ble_eq_true rfl, by rw [hR]; exact Nat.le_of_ble_eq_true rfl⟩ hI hN hAO hK hOn hnn hnsz hS hA hAG rfl hl.1 rfl (Nat.le_of_ble_eq_true rfl) dX11_image_33 ⟨by rw [hR]; exact Nat.le_of_ble_eq_true rfl, by rw [hR]; exact Nat.le_of_ble_eq_true rfl⟩ (fun G H locs hle hq245 hAG hGne hk hI hS => ?_)
          have hG0 := hle _ _ hG0
          have hq215 := hle _ _ hq215
          have hGs := hle _ _ hGs
          have hGn := hle _ _ hGn
          have hGt := hle _ _ hGt
          have hle0 := hle0.tr hle
          obtain ⟨_, hA246, hg9, hi0, hi1⟩ := op_3 hI hGn List.not_mem_nil
          obtain ⟨_, hV247⟩ := rc_6 hI hq245 List.not_mem_nil
          refine th_aast hx hb hK hA246 5 rfl hV247 rfl hS (hAG _ _ hGn) (iv_in (X := x1.toInt) rfl (by omega) (by omega)) dX11_image_36 (fun H locs hA246 oq hS => ?_)
          rw [zx] at hA246
          obtain ⟨Eu248, hEu248⟩ : ∃ x : Nat → Nat, x = eu E (33 + 8 * n) (a244 + 1) := ⟨_, rfl⟩
          have hI : th_I (okC Eu248) D G [] H := by rw [hEu248]; exact ea_put hI hGn hA246 ⟨by omega, by omega⟩ (ea_k31 hg9 hi0 hq245) oq
          have hK0 := hK
          have hK : va_K D vwCl (th_tys Eu248) s := by rw [hEu248, tys_eu (by omega)]; exact hK
          have zEu248 : Eu248 (33 + 8 * n) = (a244 + 1) := by rw [hEu248]; exact eu_at
          obtain ⟨gq, hGq, hlgq, hI9⟩ := ea_learn hI hq245
          obtain ⟨Eu249, hEu249⟩ : ∃ x : Nat → Nat, x = eu Eu248 (32 + 8 * a244) (gq + 1) := ⟨_, rfl⟩
          have hI : th_I (okC Eu249) D G [] H := by rw [hEu249]; exact hI9
          have hK : va_K D vwCl (th_tys Eu249) s := by rw [hEu249, tys_eu (by omega)]; exact hK
          have zEu249 : Eu249 (32 + 8 * a244) = (gq + 1) := by rw [hEu249]; exact eu_at
          have e1b : Eu249 (32 + 8 * h0) = sa + 1 := by rw [hEu249, eu_ne (by omega), hEu248, eu_ne (by omega)]; exact e1
          have e2b : Eu249 (32 + 8 * sa) = t + 1 := by rw [hEu249, eu_ne (by omega), hEu248, eu_ne (by omega)]; exact e2
          have e3b : Eu249 (32 + 8 * a244) = gq + 1 := by rw [hEu249, eu_at]
          refine lv_aload_n hx hb dX11_image_37 rfl (lv_at hl 0 rfl) ?_
          obtain ⟨a250, a253, a255, a257, a259, a261, a263, a265, a267, a269, a271, w273, w276, w277, w278, w279, hO, hq251, hq252, hq254, hq256, hq258, hq260, hq262, hq264, hq266, hq268, hq270, hq272, ⟨k274, k275⟩, k280⟩ := op_15 hI hG0 List.not_mem_nil
          have hI := th_I.weak (a := h0) hI
          obtain rfl := eaU_q k280 e1b
          refine th_get hx hb hts inT11 hown hK hO rfl 1 (by decide) (hts _ (tb_c wd_346)) rfl rfl dX11_image_38 ?_
          refine lv_iload_n hx hb dX11_image_41 rfl (lv_at hl 1 rfl) ?_
          have hI := th_I.close hI hG0 hO (ok_15 hq251 hq252 hq254 hq256 hq258 hq260 hq262 hq264 hq266 hq268 hq270 hq272 ⟨by omega, by omega⟩ k280)
          refine va_aldq hx hb hK0 (th_one hA246) 0 5 rfl rfl (iv_in (X := x1.toInt) rfl (by omega) (by omega)) dX11_image_42 ?_
          rw [zx, show va_up _ 1 (some a244) 1 = some a244 from by simp [va_up]]
          refine lv_aload_n hx hb dX11_image_43 rfl (lv_at hl 0 rfl) ?_
          obtain ⟨a281, a284, a286, a288, a290, a292, a294, a296, a298, a300, a302, w304, w307, w308, w309, w310, hO, hq282, hq283, hq285, hq287, hq289, hq291, hq293, hq295, hq297, hq299, hq301, hq303, ⟨k305, k306⟩, k311⟩ := op_15 hI hG0 List.not_mem_nil
          have hI := th_I.weak (a := h0) hI
          obtain rfl := eaU_q k311 e1b
          refine th_get hx hb hts inT11 hown hK hO rfl 0 (by decide) (hts _ (tb_c wd_345)) rfl rfl dX11_image_44 ?_
          have hI := th_I.close hI hG0 hO (ok_15 hq282 hq283 hq285 hq287 hq289 hq291 hq293 hq295 hq297 hq299 hq301 hq303 ⟨by omega, by omega⟩ k311)
          refine th_xVvE (As := [.ref sa]) (rest := []) (n := 1) (d := 2) ⟨hx, hb, hml, hown, hts⟩ (c_X6_copyFrom l Eu249 D G a244 hq245 sa hq282 gq t e3b e2b) wd_1202 wd_1203 wd_1204 wd_2 wd_1205 (by decide +kernel) ⟨by rw [hR]; exact Nat.le_of_ble_eq_true rfl, by rw [hR]; exact Nat.le_of_ble_eq_true rfl⟩ hI hN hK (by rw [tys_eu (by omega)]; exact hK) hS hAG (rc_6 hI hq245 List.not_mem_nil) rfl rfl hl.1 rfl (Nat.le_of_ble_eq_true rfl) dX11_image_47 ⟨by rw [hR]; exact Nat.le_of_ble_eq_true rfl, by rw [hR]; exact Nat.le_of_ble_eq_true rfl⟩ (fun H locs Eu313 hEu313 hI hK hS => ?_)
          refine lv_aload_n hx hb dX11_image_50 rfl (lv_at hl 0 rfl) ?_
          refine lv_iconst (v := 0) hx hb dX11_image_51 (by decide) ?_
          refine th_xVi (As := [.int 0]) (rest := []) (n := 1) (d := 0) ⟨hx, hb, hml, hown, hts⟩ (c_X11_accept l Eu313 D G h0 (n) hG0 0) wd_447 wd_449 wp_3 wd_1 wd_450 (by decide +kernel) ⟨by rw [hR]; exact Nat.le_of_ble_eq_true rfl, by rw [hR]; exact Nat.le_of_ble_eq_true rfl⟩ hI hN hK hS hAG (rc_15 hI hG0 List.not_mem_nil) rfl rfl hl.1 rfl (Nat.le_of_ble_eq_true rfl) dX11_image_52 ⟨by rw [hR]; exact Nat.le_of_ble_eq_true rfl, by rw [hR]; exact Nat.le_of_ble_eq_true rfl⟩ (fun r314 H locs hp hI hS => ?_)
          have hp := hp.symm
          subst hp
          have hpost : ((0 : Int32) = -1 ∧ ¬ rg x1 0 1) ∨ ((0 : Int32) = 0 ∧ rg x1 0 1) := by first | exact Or.inl ⟨rfl, by simp only [rg]; omega⟩ | exact Or.inr ⟨rfl, by simp only [rg]; omega⟩
          have hIMQ : IMQ G E Eu313 s.heap.size n t x1 := by rw [hEu313, hEu249, hEu248]; exact IMQ_new (j := 1) (by decide) (by omega) hz hq245 hGq hnsz9 hlgq hltn hltt (ea_ne hGt hGn (by decide))
          refine W.widen (k := 18) (n := 379) (Nat.le_of_ble_eq_true rfl) (Nat.le_of_ble_eq_true rfl) ?_
          rw [← hAe] at hS ⊢
          exact W.iret (v := 0) hx hb hr (fun t ht hW => ⟨⟨0, (G, Eu313), rfl, ⟨hpost, hle0, fun r k hr => nA_new (hAe ▸ hAG) hle0 hr, hIMQ⟩, by rw [ht]; exact hI, hN.warm hW, va_K.moved hW.alike hK⟩, hS.F ht⟩) hS.2.2 dX11_image_55
        · obtain ⟨a315, e316⟩ : ∃ z : Nat, E (33 + 8 * n) = z + 1 := ⟨E (33 + 8 * n) - 1, by omega⟩
          have hq317 := hg42 1 _ (by decide) (hi1.trans (im_rs e316))
          obtain ⟨hGu9, hlu9⟩ := ea_st hI hq317 (f1 _ e316)
          rw [im_rs e316]
          refine lv_ifnonnull (tgt := 37) hx hb dX11_image_21 (by decide) ?_
          refine lv_aload_n hx hb dX11_image_37 rfl (lv_at hl 0 rfl) ?_
          obtain ⟨a318, a321, a323, a325, a327, a329, a331, a333, a335, a337, a339, w341, w344, w345, w346, w347, hO, hq319, hq320, hq322, hq324, hq326, hq328, hq330, hq332, hq334, hq336, hq338, hq340, ⟨k342, k343⟩, k348⟩ := op_15 hI hG0 List.not_mem_nil
          have hI := th_I.weak (a := h0) hI
          obtain rfl := eaU_q k348 e1
          refine th_get hx hb hts inT11 hown hK hO rfl 1 (by decide) (hts _ (tb_c wd_346)) rfl rfl dX11_image_38 ?_
          refine lv_iload_n hx hb dX11_image_41 rfl (lv_at hl 1 rfl) ?_
          have hI := th_I.close hI hG0 hO (ok_15 hq319 hq320 hq322 hq324 hq326 hq328 hq330 hq332 hq334 hq336 hq338 hq340 ⟨by omega, by omega⟩ k348)
          refine va_aldq hx hb hK (th_one hA40) 0 5 rfl rfl (iv_in (X := x1.toInt) rfl (by omega) (by omega)) dX11_image_42 ?_
          rw [zx, hi1, im_rs e316]
          refine lv_aload_n hx hb dX11_image_43 rfl (lv_at hl 0 rfl) ?_
          obtain ⟨a349, a352, a354, a356, a358, a360, a362, a364, a366, a368, a370, w372, w375, w376, w377, w378, hO, hq350, hq351, hq353, hq355, hq357, hq359, hq361, hq363, hq365, hq367, hq369, hq371, ⟨k373, k374⟩, k379⟩ := op_15 hI hG0 List.not_mem_nil
          have hI := th_I.weak (a := h0) hI
          obtain rfl := eaU_q k379 e1
          refine th_get hx hb hts inT11 hown hK hO rfl 0 (by decide) (hts _ (tb_c wd_345)) rfl rfl dX11_image_44 ?_
          have hI := th_I.close hI hG0 hO (ok_15 hq350 hq351 hq353 hq355 hq357 hq359 hq361 hq363 hq365 hq367 hq369 hq371 ⟨by omega, by omega⟩ k379)
          refine th_xVvE (As := [.ref sa]) (rest := []) (n := 1) (d := 2) ⟨hx, hb, hml, hown, hts⟩ (c_X6_copyFrom l E D G a315 hq317 sa hq350 u1 t (f1 _ e316) e2) wd_1202 wd_1203 wd_1204 wd_2 wd_1205 (by decide +kernel) ⟨by rw [hR]; exact Nat.le_of_ble_eq_true rfl, by rw [hR]; exact Nat.le_of_ble_eq_true rfl⟩ hI hN hK (by rw [tys_eu (by omega)]; exact hK) hS hAG (rc_6 hI hq317 List.not_mem_nil) rfl rfl hl.1 rfl (Nat.le_of_ble_eq_true rfl) dX11_image_47 ⟨by rw [hR]; exact Nat.le_of_ble_eq_true rfl, by rw [hR]; exact Nat.le_of_ble_eq_true rfl⟩ (fun H locs Eu381 hEu381 hI hK hS => ?_)
          refine lv_aload_n hx hb dX11_image_50 rfl (lv_at hl 0 rfl) ?_
          refine lv_iconst (v := 0) hx hb dX11_image_51 (by decide) ?_
          refine th_xVi (As := [.int 0]) (rest := []) (n := 1) (d := 0) ⟨hx, hb, hml, hown, hts⟩ (c_X11_accept l Eu381 D G h0 (n) hG0 0) wd_447 wd_449 wp_3 wd_1 wd_450 (by decide +kernel) ⟨by rw [hR]; exact Nat.le_of_ble_eq_true rfl, by rw [hR]; exact Nat.le_of_ble_eq_true rfl⟩ hI hN hK hS hAG (rc_15 hI hG0 List.not_mem_nil) rfl rfl hl.1 rfl (Nat.le_of_ble_eq_true rfl) dX11_image_52 ⟨by rw [hR]; exact Nat.le_of_ble_eq_true rfl, by rw [hR]; exact Nat.le_of_ble_eq_true rfl⟩ (fun r382 H locs hp hI hS => ?_)
          have hp := hp.symm
          subst hp
          have hpost : ((0 : Int32) = -1 ∧ ¬ rg x1 0 1) ∨ ((0 : Int32) = 0 ∧ rg x1 0 1) := by first | exact Or.inl ⟨rfl, by simp only [rg]; omega⟩ | exact Or.inr ⟨rfl, by simp only [rg]; omega⟩
          have hIMQ : IMQ G E Eu381 s.heap.size n t x1 := by rw [hEu381]; exact IMQ_old (j := 1) (by decide) (by omega) e316 (f1 _ e316) hq317 hGu9 (by omega) (ea_ne hGn hGu9 (by decide))
          refine W.widen (k := 18) (n := 379) (Nat.le_of_ble_eq_true rfl) (Nat.le_of_ble_eq_true rfl) ?_
          rw [← hAe] at hS ⊢
          exact W.iret (v := 0) hx hb hr (fun t ht hW => ⟨⟨0, (G, Eu381), rfl, ⟨hpost, hle0, fun r k hr => nA_new (hAe ▸ hAG) hle0 hr, hIMQ⟩, by rw [ht]; exact hI, hN.warm hW, va_K.moved hW.alike hK⟩, hS.F ht⟩) hS.2.2 dX11_image_55
    · skip
      have k383 := iv_nlt (X := x1.toInt) (Y := (2)) rfl (by decide) c7
      refine lv_aload_n hx hb dX11_image_9 rfl (lv_at hl 0 rfl) ?_
      refine lv_iconst (v := (-1)) hx hb dX11_image_10 (by decide) ?_
      refine th_xVi (As := [.int (-1)]) (rest := []) (n := 1) (d := 0) ⟨hx, hb, hml, hown, hts⟩ (c_X11_refuse l E D G h0 (n) hG0 (-1)) wd_407 wd_409 wp_0 wd_1 wd_410 (by decide +kernel) ⟨by rw [hR]; exact Nat.le_of_ble_eq_true rfl, by rw [hR]; exact Nat.le_of_ble_eq_true rfl⟩ hI hN hK hS hAG (rc_15 hI hG0 List.not_mem_nil) rfl rfl hl.1 rfl (Nat.le_of_ble_eq_true rfl) dX11_image_11 ⟨by rw [hR]; exact Nat.le_of_ble_eq_true rfl, by rw [hR]; exact Nat.le_of_ble_eq_true rfl⟩ (fun r384 H locs hp hI hS => ?_)
      have hp := hp.symm
      subst hp
      have hpost : (((-1) : Int32) = -1 ∧ ¬ rg x1 0 1) ∨ (((-1) : Int32) = 0 ∧ rg x1 0 1) := by first | exact Or.inl ⟨rfl, by simp only [rg]; omega⟩ | exact Or.inr ⟨rfl, by simp only [rg]; omega⟩
      have hIMQ : IMQ G E E s.heap.size n t x1 := Or.inl ⟨by simp only [rg]; omega, rfl⟩
      refine W.widen (k := 18) (n := 379) (Nat.le_of_ble_eq_true rfl) (Nat.le_of_ble_eq_true rfl) ?_
      rw [← hAe] at hS ⊢
      exact W.iret (v := (-1)) hx hb hr (fun t ht hW => ⟨⟨(-1), (G, E), rfl, ⟨hpost, hle0, fun r k hr => nA_new (hAe ▸ hAG) hle0 hr, hIMQ⟩, by rw [ht]; exact hI, hN.warm hW, va_K.moved hW.alike hK⟩, hS.F ht⟩) hS.2.2 dX11_image_14
