
theorem dX11_image_0g : (decode cX11_image 0 = .ok (.iload_n 1, 1)) ∧ (decode cX11_image 1 = .ok (.ifCond .lt 8, 3)) ∧ (decode cX11_image 4 = .ok (.iload_n 1, 1)) ∧ (decode cX11_image 5 = .ok (.iconst 2, 1)) ∧ (decode cX11_image 6 = .ok (.if_icmp .lt 9, 3)) ∧ (decode cX11_image 9 = .ok (.aload_n 0, 1)) ∧ (decode cX11_image 10 = .ok (.iconst (-1), 1)) ∧ (decode cX11_image 11 = .ok (.invokevirtual 113, 3)) ∧ (decode cX11_image 14 = .ok (.ireturn, 1)) ∧ (decode cX11_image 15 = .ok (.aload_n 0, 1)) := by decide +kernel
theorem dX11_image_0 : decode cX11_image 0 = .ok (.iload_n 1, 1) := dX11_image_0g.1
theorem dX11_image_1 : decode cX11_image 1 = .ok (.ifCond .lt 8, 3) := dX11_image_0g.2.1
theorem dX11_image_4 : decode cX11_image 4 = .ok (.iload_n 1, 1) := dX11_image_0g.2.2.1
theorem dX11_image_5 : decode cX11_image 5 = .ok (.iconst 2, 1) := dX11_image_0g.2.2.2.1
theorem dX11_image_6 : decode cX11_image 6 = .ok (.if_icmp .lt 9, 3) := dX11_image_0g.2.2.2.2.1
theorem dX11_image_9 : decode cX11_image 9 = .ok (.aload_n 0, 1) := dX11_image_0g.2.2.2.2.2.1
theorem dX11_image_10 : decode cX11_image 10 = .ok (.iconst (-1), 1) := dX11_image_0g.2.2.2.2.2.2.1
theorem dX11_image_11 : decode cX11_image 11 = .ok (.invokevirtual 113, 3) := dX11_image_0g.2.2.2.2.2.2.2.1
theorem dX11_image_14 : decode cX11_image 14 = .ok (.ireturn, 1) := dX11_image_0g.2.2.2.2.2.2.2.2.1
theorem dX11_image_15 : decode cX11_image 15 = .ok (.aload_n 0, 1) := dX11_image_0g.2.2.2.2.2.2.2.2.2
theorem dX11_image_16g : (decode cX11_image 16 = .ok (.getfield 16, 3)) ∧ (decode cX11_image 19 = .ok (.iload_n 1, 1)) ∧ (decode cX11_image 20 = .ok (.aaload, 1)) ∧ (decode cX11_image 21 = .ok (.ifnonnull 16, 3)) ∧ (decode cX11_image 24 = .ok (.aload_n 0, 1)) ∧ (decode cX11_image 25 = .ok (.getfield 16, 3)) ∧ (decode cX11_image 28 = .ok (.iload_n 1, 1)) ∧ (decode cX11_image 29 = .ok (.new 9, 3)) ∧ (decode cX11_image 32 = .ok (.dup, 1)) ∧ (decode cX11_image 33 = .ok (.invokespecial 11, 3)) := by decide +kernel
theorem dX11_image_16 : decode cX11_image 16 = .ok (.getfield 16, 3) := dX11_image_16g.1
theorem dX11_image_19 : decode cX11_image 19 = .ok (.iload_n 1, 1) := dX11_image_16g.2.1
theorem dX11_image_20 : decode cX11_image 20 = .ok (.aaload, 1) := dX11_image_16g.2.2.1
theorem dX11_image_21 : decode cX11_image 21 = .ok (.ifnonnull 16, 3) := dX11_image_16g.2.2.2.1
theorem dX11_image_24 : decode cX11_image 24 = .ok (.aload_n 0, 1) := dX11_image_16g.2.2.2.2.1
theorem dX11_image_25 : decode cX11_image 25 = .ok (.getfield 16, 3) := dX11_image_16g.2.2.2.2.2.1
theorem dX11_image_28 : decode cX11_image 28 = .ok (.iload_n 1, 1) := dX11_image_16g.2.2.2.2.2.2.1
theorem dX11_image_29 : decode cX11_image 29 = .ok (.new 9, 3) := dX11_image_16g.2.2.2.2.2.2.2.1
theorem dX11_image_32 : decode cX11_image 32 = .ok (.dup, 1) := dX11_image_16g.2.2.2.2.2.2.2.2.1
theorem dX11_image_33 : decode cX11_image 33 = .ok (.invokespecial 11, 3) := dX11_image_16g.2.2.2.2.2.2.2.2.2
theorem dX11_image_36g : (decode cX11_image 36 = .ok (.aastore, 1)) ∧ (decode cX11_image 37 = .ok (.aload_n 0, 1)) ∧ (decode cX11_image 38 = .ok (.getfield 16, 3)) ∧ (decode cX11_image 41 = .ok (.iload_n 1, 1)) ∧ (decode cX11_image 42 = .ok (.aaload, 1)) ∧ (decode cX11_image 43 = .ok (.aload_n 0, 1)) ∧ (decode cX11_image 44 = .ok (.getfield 12, 3)) ∧ (decode cX11_image 47 = .ok (.invokevirtual 342, 3)) ∧ (decode cX11_image 50 = .ok (.aload_n 0, 1)) ∧ (decode cX11_image 51 = .ok (.iconst 0, 1)) := by decide +kernel
theorem dX11_image_36 : decode cX11_image 36 = .ok (.aastore, 1) := dX11_image_36g.1
theorem dX11_image_37 : decode cX11_image 37 = .ok (.aload_n 0, 1) := dX11_image_36g.2.1
theorem dX11_image_38 : decode cX11_image 38 = .ok (.getfield 16, 3) := dX11_image_36g.2.2.1
theorem dX11_image_41 : decode cX11_image 41 = .ok (.iload_n 1, 1) := dX11_image_36g.2.2.2.1
theorem dX11_image_42 : decode cX11_image 42 = .ok (.aaload, 1) := dX11_image_36g.2.2.2.2.1
theorem dX11_image_43 : decode cX11_image 43 = .ok (.aload_n 0, 1) := dX11_image_36g.2.2.2.2.2.1
theorem dX11_image_44 : decode cX11_image 44 = .ok (.getfield 12, 3) := dX11_image_36g.2.2.2.2.2.2.1
theorem dX11_image_47 : decode cX11_image 47 = .ok (.invokevirtual 342, 3) := dX11_image_36g.2.2.2.2.2.2.2.1
theorem dX11_image_50 : decode cX11_image 50 = .ok (.aload_n 0, 1) := dX11_image_36g.2.2.2.2.2.2.2.2.1
theorem dX11_image_51 : decode cX11_image 51 = .ok (.iconst 0, 1) := dX11_image_36g.2.2.2.2.2.2.2.2.2
theorem dX11_image_52g : (decode cX11_image 52 = .ok (.invokevirtual 127, 3)) ∧ (decode cX11_image 55 = .ok (.ireturn, 1)) := by decide +kernel
theorem dX11_image_52 : decode cX11_image 52 = .ok (.invokevirtual 127, 3) := dX11_image_52g.1
theorem dX11_image_55 : decode cX11_image 55 = .ok (.ireturn, 1) := dX11_image_52g.2
set_option maxHeartbeats 4000000 in
set_option maxRecDepth 100000 in
theorem c_X11_image (l : Launch) (E : Nat → Nat) (D : va_G) (Gi : th_G) (sz : Nat) (h0 n : Nat) (hG0 : Gi h0 = some (15, n)) (x1 : Int32) (sa : Nat) (e1 : E (1000 + 512 * h0) = sa + 1) (f0 : ∀ z : Nat, E (1000 + 512 * n) = z + 1 → z ≠ sa) (f1 : ∀ z : Nat, E (1001 + 512 * n) = z + 1 → z ≠ sa) (hE : ∀ k : Nat, 1000 + 512 * sz ≤ k → E k = 0) : Met l yX11_image (tb (.code yX11_image cX11_image 2 (some .int))) ({ frames := 4, cells := 18, slots := 379, locals := 160 } : Room) (va_Pc [.ref h0, .int x1] (fun U => U.heap.size = sz ∧ th_P E D Gi U ∧ th_AO U)) (QME E D Gi sz n sa x1 (fun r => ((r : Int32) = -1 ∧ ¬ rg x1 0 1) ∨ ((r : Int32) = 0 ∧ rg x1 0 1))) 18 379 (nA Gi sz) := by
  refine Met.ofW (cc := cX11_image) (maxL := 2) (ret := (some .int)) (by decide) rfl ?_
  intro p e s m args below meth c s₁ B hml hv
  obtain ⟨hav, rfl, ⟨hI, hN, hK⟩, hAO⟩ := hv
  have hx := B.exec
  have hb := B.bytes
  have hr := B.returns
  have hts := atoms_spec (ws := tb (.code yX11_image cX11_image 2 (some .int))) B.pre
  have hown : s.vm.findClass RX11 = some m.cls := findClass_of_methodNamed B.named
  have hlocks := B.notSynchronized
  have hl := lv_entry ([.ref h0, .int x1]) (n := 2) (Nat.le_of_ble_eq_true rfl)
  rw [show entryFrame m args 2 = entryFrame m ([.ref h0, .int x1] : List Value).toArray 2 from by rw [hav], lg_entry_eq]
  generalize (lg_sl ([.ref h0, .int x1]) ++ List.replicate (2 - (lg_sl ([.ref h0, .int x1])).length) Slot.unset).toArray = ls at hl ⊢
  have hl : lv_has ls 2 [(0, .ref h0), (1, .int x1)] := hl
  generalize hR : (headSpec (tb (.code yX11_image cX11_image 2 (some .int))) ({ frames := 4, cells := 18, slots := 379, locals := 160 } : Room)).room = R
  have hR := hR.symm
  generalize hAe : nA Gi s.heap.size = A
  have hA : ∀ q : Nat, s.heap.size ≤ q → A q := fun q h => by rw [← hAe]; exact Or.inr h
  have hS : va_S A s.heap s.heap [] := va_S.rf
  obtain ⟨G, hle0, hI, hAG, hG0⟩ : ∃ G, gle Gi G ∧ th_I (okC E) D G [] s.heap ∧ (∀ (r : Nat) (k : th_K), G r = some k → A r) ∧ G h0 = some (15, n) := ⟨Gi, gle.rf, hI, fun r k h => by rw [← hAe]; exact Or.inl ⟨k, h⟩, hG0⟩
  obtain ⟨hGs, hGn⟩ := ea_sa hI hG0 e1
  have hlt0 := th_lt hI hG0
  have hltn := th_lt hI hGn
  have hlts := th_lt hI hGs
  have hne1 := ea_ne hG0 hGn (by decide)
  have hne2 := ea_ne hGs hGn (by decide)
  refine lv_iload_n hx hb dX11_image_0 rfl (lv_at hl 1 rfl) ?_
  have k1 := iv_lo x1
  have k2 := iv_hi x1
  refine lv_if_lt (tgt := 9) hx hb dX11_image_1 (by decide) (fun c3 => ?_) (fun c3 => ?_)
  · skip
    have k4 := iv_lt (X := x1.toInt) (Y := (0)) rfl (by decide) c3
    refine lv_aload_n hx hb dX11_image_9 rfl (lv_at hl 0 rfl) ?_
    refine lv_iconst (v := (-1)) hx hb dX11_image_10 (by decide) ?_
    refine th_xVi (As := [.int (-1)]) (rest := []) (n := 1) (d := 0) ⟨hx, hb, hml, hown, hts⟩ (c_X11_refuse l E D G h0 (n) hG0 (-1)) wd_407 wd_409 wp_0 wd_1 wd_410 (by decide +kernel) ⟨by rw [hR]; exact Nat.le_of_ble_eq_true rfl, by rw [hR]; exact Nat.le_of_ble_eq_true rfl⟩ hI hN hK hS hAG (rc_15 hI hG0 List.not_mem_nil) rfl rfl hl.1 rfl (Nat.le_of_ble_eq_true rfl) dX11_image_11 ⟨by rw [hR]; exact Nat.le_of_ble_eq_true rfl, by rw [hR]; exact Nat.le_of_ble_eq_true rfl⟩ (fun r5 H locs hp hI hS => ?_)
    have hp := hp.symm
    subst hp
    have hpost : (((-1) : Int32) = -1 ∧ ¬ rg x1 0 1) ∨ (((-1) : Int32) = 0 ∧ rg x1 0 1) := by first | exact Or.inl ⟨rfl, by simp only [rg]; omega⟩ | exact Or.inr ⟨rfl, by simp only [rg]; omega⟩
    have hIMQ : IMQ G E E s.heap.size n sa x1 := Or.inl ⟨by simp only [rg]; omega, rfl⟩
    refine W.widen (k := 18) (n := 379) (Nat.le_of_ble_eq_true rfl) (Nat.le_of_ble_eq_true rfl) ?_
    rw [← hAe] at hS ⊢
    exact W.iret (v := (-1)) hx hb hr (fun t ht hW => ⟨⟨(-1), (G, E), rfl, ⟨hpost, hle0, fun r k hr => nA_new (hAe ▸ hAG) hle0 hr, hIMQ⟩, by rw [ht]; exact hI, hN.warm hW, va_K.moved hW.alike hK⟩, hS.F ht⟩) hS.2.2 dX11_image_14
  · skip
    have k6 := iv_nlt (X := x1.toInt) (Y := (0)) rfl (by decide) c3
    refine lv_iload_n hx hb dX11_image_4 rfl (lv_at hl 1 rfl) ?_
    refine lv_iconst (v := 2) hx hb dX11_image_5 (by decide) ?_
    refine lv_icmp_lt (tgt := 15) hx hb dX11_image_6 (by decide) (fun c7 => ?_) (fun c7 => ?_)
    · skip
      have k8 := iv_lt (X := x1.toInt) (Y := (2)) rfl (by decide) c7
      refine lv_aload_n hx hb dX11_image_15 rfl (lv_at hl 0 rfl) ?_
      obtain ⟨a9, a12, a14, a16, a18, a20, a22, a24, a26, a28, a30, w32, w35, w36, w37, w38, hO, hq10, hq11, hq13, hq15, hq17, hq19, hq21, hq23, hq25, hq27, hq29, hq31, ⟨k33, k34⟩, k39⟩ := op_15 hI hG0 List.not_mem_nil
      have hI := th_I.weak (a := h0) hI
      obtain rfl := eaU_q k39.1 e1
      refine th_get hx hb hts inT11 hown hK hO rfl 1 (by decide) (hts _ (tb_c wd_346)) rfl rfl dX11_image_16 ?_
      refine lv_iload_n hx hb dX11_image_19 rfl (lv_at hl 1 rfl) ?_
      have hI := th_I.close hI hG0 hO (ok_15 hq10 hq11 hq13 hq15 hq17 hq19 hq21 hq23 hq25 hq27 hq29 hq31 ⟨by omega, by omega⟩ k39)
      obtain ⟨g41, hA40, hg42, hi0, hi1⟩ := op_3 hI hGn List.not_mem_nil
      refine va_aldq hx hb hK (th_one hA40) 0 5 rfl rfl (iv_in (X := x1.toInt) rfl (by omega) (by omega)) dX11_image_20 ?_
      rcases im_at (x := x1) (by omega) (by omega) with ⟨kx, zx⟩ | ⟨kx, zx⟩
      · rw [zx, hi0]
        rcases Nat.eq_zero_or_pos (E (1000 + 512 * n)) with hz | hz
        · rw [im_r0 hz]
          refine lv_ifnonnullN hx hb dX11_image_21 ?_
          refine lv_aload_n hx hb dX11_image_24 rfl (lv_at hl 0 rfl) ?_
          obtain ⟨a43, a46, a48, a50, a52, a54, a56, a58, a60, a62, a64, w66, w69, w70, w71, w72, hO, hq44, hq45, hq47, hq49, hq51, hq53, hq55, hq57, hq59, hq61, hq63, hq65, ⟨k67, k68⟩, k73⟩ := op_15 hI hG0 List.not_mem_nil
          have hI := th_I.weak (a := h0) hI
          obtain rfl := eaU_q k73.1 e1
          refine th_get hx hb hts inT11 hown hK hO rfl 1 (by decide) (hts _ (tb_c wd_346)) rfl rfl dX11_image_25 ?_
          refine lv_iload_n hx hb dX11_image_28 rfl (lv_at hl 1 rfl) ?_
          have hI := th_I.close hI hG0 hO (ok_15 hq44 hq45 hq47 hq49 hq51 hq53 hq55 hq57 hq59 hq61 hq63 hq65 ⟨by omega, by omega⟩ k73)
          refine th_newo (ci := 6) (fs := [.null, .null, .null, .null, .null, .null, .null, .null, .null, .null, .int 0, .int 0, .int 0, .int 0]) hx hb hts inT6 tyX6 tyX6_ok hown (hts _ (tb_c wd_30)) (hts _ (tb_c wd_31)) (hts _ (tb_c wd_2)) hK hI hS rfl (fun j hj => by rcases (show j = 0 ∨ j = 1 ∨ j = 2 ∨ j = 3 ∨ j = 4 ∨ j = 5 ∨ j = 6 ∨ j = 7 ∨ j = 8 ∨ j = 9 ∨ j = 10 ∨ j = 11 ∨ j = 12 ∨ j = 13 by omega) with rfl | rfl | rfl | rfl | rfl | rfl | rfl | rfl | rfl | rfl | rfl | rfl | rfl | rfl <;> rfl) (by rw [hR]; exact Nat.le_of_ble_eq_true rfl) (by rw [hR]; exact Nat.le_of_ble_eq_true rfl) dX11_image_29 (fun a74 H hqe hnn hnsz hOn o1 hI hS => ?_)
          have hnsz9 := hnsz
          refine lv_dup hx hb dX11_image_32 rfl ?_
          refine th_cI (As := []) (rest := [.ref a74, .int x1, .ref n]) (n := 0) ⟨hx, hb, hml, hown, hts⟩ (c_X6_init l E D G a74 H.size hnn (fun k h => hE k (by have := hS.1; omega))) wd_32 wd_33 wd_2 wd_34 (by decide +kernel) ⟨by rw [hR]; exact Nat.le_of_ble_eq_true rfl, by rw [hR]; exact Nat.le_of_ble_eq_true rfl⟩ hI hN hAO hK hOn hnn hnsz hS hA hAG rfl hl.1 rfl (Nat.le_of_ble_eq_true rfl) dX11_image_33 ⟨by rw [hR]; exact Nat.le_of_ble_eq_true rfl, by rw [hR]; exact Nat.le_of_ble_eq_true rfl⟩ (fun G H locs hle hq75 hAG hGne hk hI hS => ?_)
          have hG0 := hle _ _ hG0
          have hq45 := hle _ _ hq45
          have hGs := hle _ _ hGs
          have hGn := hle _ _ hGn
          have hle0 := hle0.tr hle
          obtain ⟨_, hA76, hg9, hi0, hi1⟩ := op_3 hI hGn List.not_mem_nil
          obtain ⟨_, hV77⟩ := rc_6 hI hq75 List.not_mem_nil
          refine th_aast hx hb hK hA76 5 rfl hV77 rfl hS (hAG _ _ hGn) (iv_in (X := x1.toInt) rfl (by omega) (by omega)) dX11_image_36 (fun H locs hA76 oq hS => ?_)
          rw [zx] at hA76
          obtain ⟨Eu78, hEu78⟩ : ∃ x : Nat → Nat, x = eu E (1000 + 512 * n) (a74 + 1) := ⟨_, rfl⟩
          have hI : th_I (okC Eu78) D G [] H := by rw [hEu78]; exact ea_put hI hGn hA76 ⟨by omega, by omega⟩ (ea_k30 hg9 hi1 hq75) oq
          have hK0 := hK
          have hK : va_K D vwCl (th_tys Eu78) s := by rw [hEu78, tys_eu (by omega)]; exact hK
          have zEu78 : Eu78 (1000 + 512 * n) = (a74 + 1) := by rw [hEu78]; exact eu_at
          have e1b : Eu78 (1000 + 512 * h0) = sa + 1 := by rw [hEu78, eu_ne (by omega)]; exact e1
          refine lv_aload_n hx hb dX11_image_37 rfl (lv_at hl 0 rfl) ?_
          obtain ⟨a79, a82, a84, a86, a88, a90, a92, a94, a96, a98, a100, w102, w105, w106, w107, w108, hO, hq80, hq81, hq83, hq85, hq87, hq89, hq91, hq93, hq95, hq97, hq99, hq101, ⟨k103, k104⟩, k109⟩ := op_15 hI hG0 List.not_mem_nil
          have hI := th_I.weak (a := h0) hI
          obtain rfl := eaU_q k109.1 e1b
          refine th_get hx hb hts inT11 hown hK hO rfl 1 (by decide) (hts _ (tb_c wd_346)) rfl rfl dX11_image_38 ?_
          refine lv_iload_n hx hb dX11_image_41 rfl (lv_at hl 1 rfl) ?_
          have hI := th_I.close hI hG0 hO (ok_15 hq80 hq81 hq83 hq85 hq87 hq89 hq91 hq93 hq95 hq97 hq99 hq101 ⟨by omega, by omega⟩ k109)
          refine va_aldq hx hb hK0 (th_one hA76) 0 5 rfl rfl (iv_in (X := x1.toInt) rfl (by omega) (by omega)) dX11_image_42 ?_
          rw [zx, show va_up _ 0 (some a74) 0 = some a74 from by simp [va_up]]
          refine lv_aload_n hx hb dX11_image_43 rfl (lv_at hl 0 rfl) ?_
          obtain ⟨a110, a113, a115, a117, a119, a121, a123, a125, a127, a129, a131, w133, w136, w137, w138, w139, hO, hq111, hq112, hq114, hq116, hq118, hq120, hq122, hq124, hq126, hq128, hq130, hq132, ⟨k134, k135⟩, k140⟩ := op_15 hI hG0 List.not_mem_nil
          have hI := th_I.weak (a := h0) hI
          obtain rfl := eaU_q k140.1 e1b
          refine th_get hx hb hts inT11 hown hK hO rfl 0 (by decide) (hts _ (tb_c wd_345)) rfl rfl dX11_image_44 ?_
          have hI := th_I.close hI hG0 hO (ok_15 hq111 hq112 hq114 hq116 hq118 hq120 hq122 hq124 hq126 hq128 hq130 hq132 ⟨by omega, by omega⟩ k140)
          refine th_xVvE (As := [.ref sa]) (rest := []) (n := 1) (d := 2) ⟨hx, hb, hml, hown, hts⟩ (c_X6_copyFrom l Eu78 D G a74 hq75 sa hq111 (by omega)) wd_1202 wd_1203 wd_1204 wd_2 wd_1205 (by decide +kernel) ⟨by rw [hR]; exact Nat.le_of_ble_eq_true rfl, by rw [hR]; exact Nat.le_of_ble_eq_true rfl⟩ hI hN hK (by rw [tys_eu (by omega)]; exact hK) hS hAG (rc_6 hI hq75 List.not_mem_nil) rfl rfl hl.1 rfl (Nat.le_of_ble_eq_true rfl) dX11_image_47 ⟨by rw [hR]; exact Nat.le_of_ble_eq_true rfl, by rw [hR]; exact Nat.le_of_ble_eq_true rfl⟩ (fun H locs Eu142 hEu142 hI hK hS => ?_)
          refine lv_aload_n hx hb dX11_image_50 rfl (lv_at hl 0 rfl) ?_
          refine lv_iconst (v := 0) hx hb dX11_image_51 (by decide) ?_
          refine th_xVi (As := [.int 0]) (rest := []) (n := 1) (d := 0) ⟨hx, hb, hml, hown, hts⟩ (c_X11_accept l Eu142 D G h0 (n) hG0 0) wd_447 wd_449 wp_3 wd_1 wd_450 (by decide +kernel) ⟨by rw [hR]; exact Nat.le_of_ble_eq_true rfl, by rw [hR]; exact Nat.le_of_ble_eq_true rfl⟩ hI hN hK hS hAG (rc_15 hI hG0 List.not_mem_nil) rfl rfl hl.1 rfl (Nat.le_of_ble_eq_true rfl) dX11_image_52 ⟨by rw [hR]; exact Nat.le_of_ble_eq_true rfl, by rw [hR]; exact Nat.le_of_ble_eq_true rfl⟩ (fun r143 H locs hp hI hS => ?_)
          have hp := hp.symm
          subst hp
          have hpost : ((0 : Int32) = -1 ∧ ¬ rg x1 0 1) ∨ ((0 : Int32) = 0 ∧ rg x1 0 1) := by first | exact Or.inl ⟨rfl, by simp only [rg]; omega⟩ | exact Or.inr ⟨rfl, by simp only [rg]; omega⟩
          have hIMQ : IMQ G E Eu142 s.heap.size n sa x1 := by rw [hEu142, hEu78]; exact IMQ_new (j := 0) (by decide) (by omega) hz hq75 hnsz9 hltn hlts (ea_ne hGs hGn (by decide))
          refine W.widen (k := 18) (n := 379) (Nat.le_of_ble_eq_true rfl) (Nat.le_of_ble_eq_true rfl) ?_
          rw [← hAe] at hS ⊢
          exact W.iret (v := 0) hx hb hr (fun t ht hW => ⟨⟨0, (G, Eu142), rfl, ⟨hpost, hle0, fun r k hr => nA_new (hAe ▸ hAG) hle0 hr, hIMQ⟩, by rw [ht]; exact hI, hN.warm hW, va_K.moved hW.alike hK⟩, hS.F ht⟩) hS.2.2 dX11_image_55
        · obtain ⟨a144, e145⟩ : ∃ z : Nat, E (1000 + 512 * n) = z + 1 := ⟨E (1000 + 512 * n) - 1, by omega⟩
          have hq146 := hg42 0 _ (by decide) (hi0.trans (im_rs e145))
          rw [im_rs e145]
          refine lv_ifnonnull (tgt := 37) hx hb dX11_image_21 (by decide) ?_
          refine lv_aload_n hx hb dX11_image_37 rfl (lv_at hl 0 rfl) ?_
          obtain ⟨a147, a150, a152, a154, a156, a158, a160, a162, a164, a166, a168, w170, w173, w174, w175, w176, hO, hq148, hq149, hq151, hq153, hq155, hq157, hq159, hq161, hq163, hq165, hq167, hq169, ⟨k171, k172⟩, k177⟩ := op_15 hI hG0 List.not_mem_nil
          have hI := th_I.weak (a := h0) hI
          obtain rfl := eaU_q k177.1 e1
          refine th_get hx hb hts inT11 hown hK hO rfl 1 (by decide) (hts _ (tb_c wd_346)) rfl rfl dX11_image_38 ?_
          refine lv_iload_n hx hb dX11_image_41 rfl (lv_at hl 1 rfl) ?_
          have hI := th_I.close hI hG0 hO (ok_15 hq148 hq149 hq151 hq153 hq155 hq157 hq159 hq161 hq163 hq165 hq167 hq169 ⟨by omega, by omega⟩ k177)
          refine va_aldq hx hb hK (th_one hA40) 0 5 rfl rfl (iv_in (X := x1.toInt) rfl (by omega) (by omega)) dX11_image_42 ?_
          rw [zx, hi0, im_rs e145]
          refine lv_aload_n hx hb dX11_image_43 rfl (lv_at hl 0 rfl) ?_
          obtain ⟨a178, a181, a183, a185, a187, a189, a191, a193, a195, a197, a199, w201, w204, w205, w206, w207, hO, hq179, hq180, hq182, hq184, hq186, hq188, hq190, hq192, hq194, hq196, hq198, hq200, ⟨k202, k203⟩, k208⟩ := op_15 hI hG0 List.not_mem_nil
          have hI := th_I.weak (a := h0) hI
          obtain rfl := eaU_q k208.1 e1
          refine th_get hx hb hts inT11 hown hK hO rfl 0 (by decide) (hts _ (tb_c wd_345)) rfl rfl dX11_image_44 ?_
          have hI := th_I.close hI hG0 hO (ok_15 hq179 hq180 hq182 hq184 hq186 hq188 hq190 hq192 hq194 hq196 hq198 hq200 ⟨by omega, by omega⟩ k208)
          refine th_xVvE (As := [.ref sa]) (rest := []) (n := 1) (d := 2) ⟨hx, hb, hml, hown, hts⟩ (c_X6_copyFrom l E D G a144 hq146 sa hq179 (Ne.symm (f0 _ e145))) wd_1202 wd_1203 wd_1204 wd_2 wd_1205 (by decide +kernel) ⟨by rw [hR]; exact Nat.le_of_ble_eq_true rfl, by rw [hR]; exact Nat.le_of_ble_eq_true rfl⟩ hI hN hK (by rw [tys_eu (by omega)]; exact hK) hS hAG (rc_6 hI hq146 List.not_mem_nil) rfl rfl hl.1 rfl (Nat.le_of_ble_eq_true rfl) dX11_image_47 ⟨by rw [hR]; exact Nat.le_of_ble_eq_true rfl, by rw [hR]; exact Nat.le_of_ble_eq_true rfl⟩ (fun H locs Eu210 hEu210 hI hK hS => ?_)
          refine lv_aload_n hx hb dX11_image_50 rfl (lv_at hl 0 rfl) ?_
          refine lv_iconst (v := 0) hx hb dX11_image_51 (by decide) ?_
          refine th_xVi (As := [.int 0]) (rest := []) (n := 1) (d := 0) ⟨hx, hb, hml, hown, hts⟩ (c_X11_accept l Eu210 D G h0 (n) hG0 0) wd_447 wd_449 wp_3 wd_1 wd_450 (by decide +kernel) ⟨by rw [hR]; exact Nat.le_of_ble_eq_true rfl, by rw [hR]; exact Nat.le_of_ble_eq_true rfl⟩ hI hN hK hS hAG (rc_15 hI hG0 List.not_mem_nil) rfl rfl hl.1 rfl (Nat.le_of_ble_eq_true rfl) dX11_image_52 ⟨by rw [hR]; exact Nat.le_of_ble_eq_true rfl, by rw [hR]; exact Nat.le_of_ble_eq_true rfl⟩ (fun r211 H locs hp hI hS => ?_)
          have hp := hp.symm
          subst hp
          have hpost : ((0 : Int32) = -1 ∧ ¬ rg x1 0 1) ∨ ((0 : Int32) = 0 ∧ rg x1 0 1) := by first | exact Or.inl ⟨rfl, by simp only [rg]; omega⟩ | exact Or.inr ⟨rfl, by simp only [rg]; omega⟩
          have hIMQ : IMQ G E Eu210 s.heap.size n sa x1 := by rw [hEu210]; exact IMQ_old (j := 0) (by decide) (by omega) e145 hq146 (ea_ne hGn hq146 (by decide))
          refine W.widen (k := 18) (n := 379) (Nat.le_of_ble_eq_true rfl) (Nat.le_of_ble_eq_true rfl) ?_
          rw [← hAe] at hS ⊢
          exact W.iret (v := 0) hx hb hr (fun t ht hW => ⟨⟨0, (G, Eu210), rfl, ⟨hpost, hle0, fun r k hr => nA_new (hAe ▸ hAG) hle0 hr, hIMQ⟩, by rw [ht]; exact hI, hN.warm hW, va_K.moved hW.alike hK⟩, hS.F ht⟩) hS.2.2 dX11_image_55
      · rw [zx, hi1]
        rcases Nat.eq_zero_or_pos (E (1001 + 512 * n)) with hz | hz
        · rw [im_r0 hz]
          refine lv_ifnonnullN hx hb dX11_image_21 ?_
          refine lv_aload_n hx hb dX11_image_24 rfl (lv_at hl 0 rfl) ?_
          obtain ⟨a212, a215, a217, a219, a221, a223, a225, a227, a229, a231, a233, w235, w238, w239, w240, w241, hO, hq213, hq214, hq216, hq218, hq220, hq222, hq224, hq226, hq228, hq230, hq232, hq234, ⟨k236, k237⟩, k242⟩ := op_15 hI hG0 List.not_mem_nil
          have hI := th_I.weak (a := h0) hI
          obtain rfl := eaU_q k242.1 e1
          refine th_get hx hb hts inT11 hown hK hO rfl 1 (by decide) (hts _ (tb_c wd_346)) rfl rfl dX11_image_25 ?_
          refine lv_iload_n hx hb dX11_image_28 rfl (lv_at hl 1 rfl) ?_
          have hI := th_I.close hI hG0 hO (ok_15 hq213 hq214 hq216 hq218 hq220 hq222 hq224 hq226 hq228 hq230 hq232 hq234 ⟨by omega, by omega⟩ k242)
          refine th_newo (ci := 6) (fs := [.null, .null, .null, .null, .null, .null, .null, .null, .null, .null, .int 0, .int 0, .int 0, .int 0]) hx hb hts inT6 tyX6 tyX6_ok hown (hts _ (tb_c wd_30)) (hts _ (tb_c wd_31)) (hts _ (tb_c wd_2)) hK hI hS rfl (fun j hj => by rcases (show j = 0 ∨ j = 1 ∨ j = 2 ∨ j = 3 ∨ j = 4 ∨ j = 5 ∨ j = 6 ∨ j = 7 ∨ j = 8 ∨ j = 9 ∨ j = 10 ∨ j = 11 ∨ j = 12 ∨ j = 13 by omega) with rfl | rfl | rfl | rfl | rfl | rfl | rfl | rfl | rfl | rfl | rfl | rfl | rfl | rfl <;> rfl) (by rw [hR]; exact Nat.le_of_ble_eq_true rfl) (by rw [hR]; exact Nat.le_of_ble_eq_true rfl) dX11_image_29 (fun a243 H hqe hnn hnsz hOn o1 hI hS => ?_)
          have hnsz9 := hnsz
          refine lv_dup hx hb dX11_image_32 rfl ?_
          refine th_cI (As := []) (rest := [.ref a243, .int x1, .ref n]) (n := 0) ⟨hx, hb, hml, hown, hts⟩ (c_X6_init l E D G a243 H.size hnn (fun k h => hE k (by have := hS.1; omega))) wd_32 wd_33 wd_2 wd_34 (by decide +kernel) ⟨by rw [hR]; exact Nat.le_of_ble_eq_true rfl, by rw [hR]; exact Nat.le_of_ble_eq_true rfl⟩ hI hN hAO hK hOn hnn hnsz hS hA hAG rfl hl.1 rfl (Nat.le_of_ble_eq_true rfl) dX11_image_33 ⟨by rw [hR]; exact Nat.le_of_ble_eq_true rfl, by rw [hR]; exact Nat.le_of_ble_eq_true rfl⟩ (fun G H locs hle hq244 hAG hGne hk hI hS => ?_)
          have hG0 := hle _ _ hG0
          have hq214 := hle _ _ hq214
          have hGs := hle _ _ hGs
          have hGn := hle _ _ hGn
          have hle0 := hle0.tr hle
          obtain ⟨_, hA245, hg9, hi0, hi1⟩ := op_3 hI hGn List.not_mem_nil
          obtain ⟨_, hV246⟩ := rc_6 hI hq244 List.not_mem_nil
          refine th_aast hx hb hK hA245 5 rfl hV246 rfl hS (hAG _ _ hGn) (iv_in (X := x1.toInt) rfl (by omega) (by omega)) dX11_image_36 (fun H locs hA245 oq hS => ?_)
          rw [zx] at hA245
          obtain ⟨Eu247, hEu247⟩ : ∃ x : Nat → Nat, x = eu E (1001 + 512 * n) (a243 + 1) := ⟨_, rfl⟩
          have hI : th_I (okC Eu247) D G [] H := by rw [hEu247]; exact ea_put hI hGn hA245 ⟨by omega, by omega⟩ (ea_k31 hg9 hi0 hq244) oq
          have hK0 := hK
          have hK : va_K D vwCl (th_tys Eu247) s := by rw [hEu247, tys_eu (by omega)]; exact hK
          have zEu247 : Eu247 (1001 + 512 * n) = (a243 + 1) := by rw [hEu247]; exact eu_at
          have e1b : Eu247 (1000 + 512 * h0) = sa + 1 := by rw [hEu247, eu_ne (by omega)]; exact e1
          refine lv_aload_n hx hb dX11_image_37 rfl (lv_at hl 0 rfl) ?_
          obtain ⟨a248, a251, a253, a255, a257, a259, a261, a263, a265, a267, a269, w271, w274, w275, w276, w277, hO, hq249, hq250, hq252, hq254, hq256, hq258, hq260, hq262, hq264, hq266, hq268, hq270, ⟨k272, k273⟩, k278⟩ := op_15 hI hG0 List.not_mem_nil
          have hI := th_I.weak (a := h0) hI
          obtain rfl := eaU_q k278.1 e1b
          refine th_get hx hb hts inT11 hown hK hO rfl 1 (by decide) (hts _ (tb_c wd_346)) rfl rfl dX11_image_38 ?_
          refine lv_iload_n hx hb dX11_image_41 rfl (lv_at hl 1 rfl) ?_
          have hI := th_I.close hI hG0 hO (ok_15 hq249 hq250 hq252 hq254 hq256 hq258 hq260 hq262 hq264 hq266 hq268 hq270 ⟨by omega, by omega⟩ k278)
          refine va_aldq hx hb hK0 (th_one hA245) 0 5 rfl rfl (iv_in (X := x1.toInt) rfl (by omega) (by omega)) dX11_image_42 ?_
          rw [zx, show va_up _ 1 (some a243) 1 = some a243 from by simp [va_up]]
          refine lv_aload_n hx hb dX11_image_43 rfl (lv_at hl 0 rfl) ?_
          obtain ⟨a279, a282, a284, a286, a288, a290, a292, a294, a296, a298, a300, w302, w305, w306, w307, w308, hO, hq280, hq281, hq283, hq285, hq287, hq289, hq291, hq293, hq295, hq297, hq299, hq301, ⟨k303, k304⟩, k309⟩ := op_15 hI hG0 List.not_mem_nil
          have hI := th_I.weak (a := h0) hI
          obtain rfl := eaU_q k309.1 e1b
          refine th_get hx hb hts inT11 hown hK hO rfl 0 (by decide) (hts _ (tb_c wd_345)) rfl rfl dX11_image_44 ?_
          have hI := th_I.close hI hG0 hO (ok_15 hq280 hq281 hq283 hq285 hq287 hq289 hq291 hq293 hq295 hq297 hq299 hq301 ⟨by omega, by omega⟩ k309)
          refine th_xVvE (As := [.ref sa]) (rest := []) (n := 1) (d := 2) ⟨hx, hb, hml, hown, hts⟩ (c_X6_copyFrom l Eu247 D G a243 hq244 sa hq280 (by omega)) wd_1202 wd_1203 wd_1204 wd_2 wd_1205 (by decide +kernel) ⟨by rw [hR]; exact Nat.le_of_ble_eq_true rfl, by rw [hR]; exact Nat.le_of_ble_eq_true rfl⟩ hI hN hK (by rw [tys_eu (by omega)]; exact hK) hS hAG (rc_6 hI hq244 List.not_mem_nil) rfl rfl hl.1 rfl (Nat.le_of_ble_eq_true rfl) dX11_image_47 ⟨by rw [hR]; exact Nat.le_of_ble_eq_true rfl, by rw [hR]; exact Nat.le_of_ble_eq_true rfl⟩ (fun H locs Eu311 hEu311 hI hK hS => ?_)
          refine lv_aload_n hx hb dX11_image_50 rfl (lv_at hl 0 rfl) ?_
          refine lv_iconst (v := 0) hx hb dX11_image_51 (by decide) ?_
          refine th_xVi (As := [.int 0]) (rest := []) (n := 1) (d := 0) ⟨hx, hb, hml, hown, hts⟩ (c_X11_accept l Eu311 D G h0 (n) hG0 0) wd_447 wd_449 wp_3 wd_1 wd_450 (by decide +kernel) ⟨by rw [hR]; exact Nat.le_of_ble_eq_true rfl, by rw [hR]; exact Nat.le_of_ble_eq_true rfl⟩ hI hN hK hS hAG (rc_15 hI hG0 List.not_mem_nil) rfl rfl hl.1 rfl (Nat.le_of_ble_eq_true rfl) dX11_image_52 ⟨by rw [hR]; exact Nat.le_of_ble_eq_true rfl, by rw [hR]; exact Nat.le_of_ble_eq_true rfl⟩ (fun r312 H locs hp hI hS => ?_)
          have hp := hp.symm
          subst hp
          have hpost : ((0 : Int32) = -1 ∧ ¬ rg x1 0 1) ∨ ((0 : Int32) = 0 ∧ rg x1 0 1) := by first | exact Or.inl ⟨rfl, by simp only [rg]; omega⟩ | exact Or.inr ⟨rfl, by simp only [rg]; omega⟩
          have hIMQ : IMQ G E Eu311 s.heap.size n sa x1 := by rw [hEu311, hEu247]; exact IMQ_new (j := 1) (by decide) (by omega) hz hq244 hnsz9 hltn hlts (ea_ne hGs hGn (by decide))
          refine W.widen (k := 18) (n := 379) (Nat.le_of_ble_eq_true rfl) (Nat.le_of_ble_eq_true rfl) ?_
          rw [← hAe] at hS ⊢
          exact W.iret (v := 0) hx hb hr (fun t ht hW => ⟨⟨0, (G, Eu311), rfl, ⟨hpost, hle0, fun r k hr => nA_new (hAe ▸ hAG) hle0 hr, hIMQ⟩, by rw [ht]; exact hI, hN.warm hW, va_K.moved hW.alike hK⟩, hS.F ht⟩) hS.2.2 dX11_image_55
        · obtain ⟨a313, e314⟩ : ∃ z : Nat, E (1001 + 512 * n) = z + 1 := ⟨E (1001 + 512 * n) - 1, by omega⟩
          have hq315 := hg42 1 _ (by decide) (hi1.trans (im_rs e314))
          rw [im_rs e314]
          refine lv_ifnonnull (tgt := 37) hx hb dX11_image_21 (by decide) ?_
          refine lv_aload_n hx hb dX11_image_37 rfl (lv_at hl 0 rfl) ?_
          obtain ⟨a316, a319, a321, a323, a325, a327, a329, a331, a333, a335, a337, w339, w342, w343, w344, w345, hO, hq317, hq318, hq320, hq322, hq324, hq326, hq328, hq330, hq332, hq334, hq336, hq338, ⟨k340, k341⟩, k346⟩ := op_15 hI hG0 List.not_mem_nil
          have hI := th_I.weak (a := h0) hI
          obtain rfl := eaU_q k346.1 e1
          refine th_get hx hb hts inT11 hown hK hO rfl 1 (by decide) (hts _ (tb_c wd_346)) rfl rfl dX11_image_38 ?_
          refine lv_iload_n hx hb dX11_image_41 rfl (lv_at hl 1 rfl) ?_
          have hI := th_I.close hI hG0 hO (ok_15 hq317 hq318 hq320 hq322 hq324 hq326 hq328 hq330 hq332 hq334 hq336 hq338 ⟨by omega, by omega⟩ k346)
          refine va_aldq hx hb hK (th_one hA40) 0 5 rfl rfl (iv_in (X := x1.toInt) rfl (by omega) (by omega)) dX11_image_42 ?_
          rw [zx, hi1, im_rs e314]
          refine lv_aload_n hx hb dX11_image_43 rfl (lv_at hl 0 rfl) ?_
          obtain ⟨a347, a350, a352, a354, a356, a358, a360, a362, a364, a366, a368, w370, w373, w374, w375, w376, hO, hq348, hq349, hq351, hq353, hq355, hq357, hq359, hq361, hq363, hq365, hq367, hq369, ⟨k371, k372⟩, k377⟩ := op_15 hI hG0 List.not_mem_nil
          have hI := th_I.weak (a := h0) hI
          obtain rfl := eaU_q k377.1 e1
          refine th_get hx hb hts inT11 hown hK hO rfl 0 (by decide) (hts _ (tb_c wd_345)) rfl rfl dX11_image_44 ?_
          have hI := th_I.close hI hG0 hO (ok_15 hq348 hq349 hq351 hq353 hq355 hq357 hq359 hq361 hq363 hq365 hq367 hq369 ⟨by omega, by omega⟩ k377)
          refine th_xVvE (As := [.ref sa]) (rest := []) (n := 1) (d := 2) ⟨hx, hb, hml, hown, hts⟩ (c_X6_copyFrom l E D G a313 hq315 sa hq348 (Ne.symm (f1 _ e314))) wd_1202 wd_1203 wd_1204 wd_2 wd_1205 (by decide +kernel) ⟨by rw [hR]; exact Nat.le_of_ble_eq_true rfl, by rw [hR]; exact Nat.le_of_ble_eq_true rfl⟩ hI hN hK (by rw [tys_eu (by omega)]; exact hK) hS hAG (rc_6 hI hq315 List.not_mem_nil) rfl rfl hl.1 rfl (Nat.le_of_ble_eq_true rfl) dX11_image_47 ⟨by rw [hR]; exact Nat.le_of_ble_eq_true rfl, by rw [hR]; exact Nat.le_of_ble_eq_true rfl⟩ (fun H locs Eu379 hEu379 hI hK hS => ?_)
          refine lv_aload_n hx hb dX11_image_50 rfl (lv_at hl 0 rfl) ?_
          refine lv_iconst (v := 0) hx hb dX11_image_51 (by decide) ?_
          refine th_xVi (As := [.int 0]) (rest := []) (n := 1) (d := 0) ⟨hx, hb, hml, hown, hts⟩ (c_X11_accept l Eu379 D G h0 (n) hG0 0) wd_447 wd_449 wp_3 wd_1 wd_450 (by decide +kernel) ⟨by rw [hR]; exact Nat.le_of_ble_eq_true rfl, by rw [hR]; exact Nat.le_of_ble_eq_true rfl⟩ hI hN hK hS hAG (rc_15 hI hG0 List.not_mem_nil) rfl rfl hl.1 rfl (Nat.le_of_ble_eq_true rfl) dX11_image_52 ⟨by rw [hR]; exact Nat.le_of_ble_eq_true rfl, by rw [hR]; exact Nat.le_of_ble_eq_true rfl⟩ (fun r380 H locs hp hI hS => ?_)
          have hp := hp.symm
          subst hp
          have hpost : ((0 : Int32) = -1 ∧ ¬ rg x1 0 1) ∨ ((0 : Int32) = 0 ∧ rg x1 0 1) := by first | exact Or.inl ⟨rfl, by simp only [rg]; omega⟩ | exact Or.inr ⟨rfl, by simp only [rg]; omega⟩
          have hIMQ : IMQ G E Eu379 s.heap.size n sa x1 := by rw [hEu379]; exact IMQ_old (j := 1) (by decide) (by omega) e314 hq315 (ea_ne hGn hq315 (by decide))
          refine W.widen (k := 18) (n := 379) (Nat.le_of_ble_eq_true rfl) (Nat.le_of_ble_eq_true rfl) ?_
          rw [← hAe] at hS ⊢
          exact W.iret (v := 0) hx hb hr (fun t ht hW => ⟨⟨0, (G, Eu379), rfl, ⟨hpost, hle0, fun r k hr => nA_new (hAe ▸ hAG) hle0 hr, hIMQ⟩, by rw [ht]; exact hI, hN.warm hW, va_K.moved hW.alike hK⟩, hS.F ht⟩) hS.2.2 dX11_image_55
    · skip
      have k381 := iv_nlt (X := x1.toInt) (Y := (2)) rfl (by decide) c7
      refine lv_aload_n hx hb dX11_image_9 rfl (lv_at hl 0 rfl) ?_
      refine lv_iconst (v := (-1)) hx hb dX11_image_10 (by decide) ?_
      refine th_xVi (As := [.int (-1)]) (rest := []) (n := 1) (d := 0) ⟨hx, hb, hml, hown, hts⟩ (c_X11_refuse l E D G h0 (n) hG0 (-1)) wd_407 wd_409 wp_0 wd_1 wd_410 (by decide +kernel) ⟨by rw [hR]; exact Nat.le_of_ble_eq_true rfl, by rw [hR]; exact Nat.le_of_ble_eq_true rfl⟩ hI hN hK hS hAG (rc_15 hI hG0 List.not_mem_nil) rfl rfl hl.1 rfl (Nat.le_of_ble_eq_true rfl) dX11_image_11 ⟨by rw [hR]; exact Nat.le_of_ble_eq_true rfl, by rw [hR]; exact Nat.le_of_ble_eq_true rfl⟩ (fun r382 H locs hp hI hS => ?_)
      have hp := hp.symm
      subst hp
      have hpost : (((-1) : Int32) = -1 ∧ ¬ rg x1 0 1) ∨ (((-1) : Int32) = 0 ∧ rg x1 0 1) := by first | exact Or.inl ⟨rfl, by simp only [rg]; omega⟩ | exact Or.inr ⟨rfl, by simp only [rg]; omega⟩
      have hIMQ : IMQ G E E s.heap.size n sa x1 := Or.inl ⟨by simp only [rg]; omega, rfl⟩
      refine W.widen (k := 18) (n := 379) (Nat.le_of_ble_eq_true rfl) (Nat.le_of_ble_eq_true rfl) ?_
      rw [← hAe] at hS ⊢
      exact W.iret (v := (-1)) hx hb hr (fun t ht hW => ⟨⟨(-1), (G, E), rfl, ⟨hpost, hle0, fun r k hr => nA_new (hAe ▸ hAG) hle0 hr, hIMQ⟩, by rw [ht]; exact hI, hN.warm hW, va_K.moved hW.alike hK⟩, hS.F ht⟩) hS.2.2 dX11_image_14
