theorem w_el : ∀ j : Nat, j < [136].getD 0 0 → Cond.eq (.elem (.field (.string "NineRiver$Reader" 89) "java/lang/String" "value" "[B") (.int (Int32.ofNat j))) (.int (([w_byt].getD 0 []).getD j 0)) ∈ flatC (Jvm.Cond.and given_1 narrow_1) := by decide +kernel
set_option maxHeartbeats 8000000 in
set_option maxRecDepth 100000 in
theorem law_ctx {p : Program} {s : State} {m : MethodId} {meth : Method} {c : Code} {b L : Nat} {xs : Nat → Int32} (C0 : lw_At p s m meth c b L xs) : ∃ (E : Nat → Nat) (D : va_G) (adK adV : Nat → Nat), LCx E D adK adV s := by
  obtain ⟨hx, hb, hr, hml, hown, hts0, hX, hbl, hlocks, hgv⟩ := id C0
  have hts := lw_tb (w := Cond.initialized RX12) wd_13 hts0
  have hA : ∀ a : Nat, a < s.heap.size → ¬ LWa s a := fun a h z => absurd (Nat.lt_of_lt_of_le h z) (Nat.lt_irrefl _)
  obtain ⟨c0, i0, K0⟩ := u_known (C := RX0) (T := TX0) (N := 3) hts inT0 (hts _ (tb_c wd_173))
  obtain ⟨c1, i1, K1⟩ := u_known (C := RX1) (T := TX1) (N := 11) hts inT1 (hts _ (tb_c wd_231))
  obtain ⟨c2, i2, K2⟩ := u_known (C := RX2) (T := TX2) (N := 4) hts inT2 (hts _ (tb_c wd_748))
  obtain ⟨c3, i3, K3⟩ := u_known (C := RX3) (T := TX3) (N := 12) hts inT3 (hts _ (tb_c wd_124))
  obtain ⟨c4, i4, K4⟩ := u_known (C := RX4) (T := TX4) (N := 3) hts inT4 (hts _ (tb_c wd_37))
  obtain ⟨c5, i5, K5⟩ := u_known (C := RX5) (T := TX5) (N := 6) hts inT5 (hts _ (tb_c wd_271))
  obtain ⟨c6, i6, K6⟩ := u_known (C := RX6) (T := TX6) (N := 14) hts inT6 (hts _ (tb_c wd_31))
  obtain ⟨c7, i7, K7⟩ := u_known (C := RX7) (T := TX7) (N := 7) hts inT7 (hts _ (tb_c wd_167))
  obtain ⟨c8, i8, K8⟩ := u_known (C := RX8) (T := TX8) (N := 6) hts inT8 (hts _ (tb_c wd_296))
  obtain ⟨c9, i9, K9⟩ := u_known (C := RX9) (T := TX9) (N := 4) hts inT9 (hts _ (tb_c wd_212))
  obtain ⟨c10, i10, K10⟩ := u_known (C := RX10) (T := TX10) (N := 6) hts inT10 (hts _ (tb_c wd_321))
  obtain ⟨c11, i11, K11⟩ := u_known (C := RX11) (T := TX11) (N := 17) hts inT11 (hts _ (tb_c wd_23))
  obtain ⟨c12, i12, K12⟩ := u_known (C := RX12) (T := TX12) (N := 52) hts inT12 (hts _ (tb_c wd_1228))
  obtain ⟨D, hKc⟩ : ∃ D : va_G, ∀ (k : Nat) (q : vw_C), vwCl[k]? = some q → u_Kn s q.1 q.2.1 q.2.2 (D.1 k) (D.2 k) := by
    refine ⟨(fun k => match k with | 0 => c0 | 1 => c1 | 2 => c2 | 3 => c3 | 4 => c4 | 5 => c5 | 6 => c6 | 7 => c7 | 8 => c8 | 9 => c9 | 10 => c10 | 11 => c11 | _ => c12, fun k => match k with | 0 => i0 | 1 => i1 | 2 => i2 | 3 => i3 | 4 => i4 | 5 => i5 | 6 => i6 | 7 => i7 | 8 => i8 | 9 => i9 | 10 => i10 | 11 => i11 | _ => i12), ?_⟩
    intro k q hq
    match k, hq with
    | 0, hq => cases hq; exact K0
    | 1, hq => cases hq; exact K1
    | 2, hq => cases hq; exact K2
    | 3, hq => cases hq; exact K3
    | 4, hq => cases hq; exact K4
    | 5, hq => cases hq; exact K5
    | 6, hq => cases hq; exact K6
    | 7, hq => cases hq; exact K7
    | 8, hq => cases hq; exact K8
    | 9, hq => cases hq; exact K9
    | 10, hq => cases hq; exact K10
    | 11, hq => cases hq; exact K11
    | 12, hq => cases hq; exact K12
    | k + 13, hq => simp [vwCl] at hq
  obtain ⟨e0, a0, f0⟩ := lw_prim (hts _ (tb_c wd_55))
  obtain ⟨e1, a1, f1⟩ := lw_prim (hts _ (tb_c wd_188))
  obtain ⟨e2, a2, f2⟩ := lw_prim (hts _ (tb_c wd_1390))
  obtain ⟨e3, a3, f3⟩ := lw_prim (hts _ (tb_c wd_784))
  have hoL : (Cond.arrayOver (.object "NineRiver$Law")).before #[Value.ref b] s = true := hts0 _ (List.mem_append_right _ (List.mem_of_getElem? (i := 57) (by decide +kernel)))
  have hoS : (Cond.arrayOver (.object "NineRiver$State")).before #[Value.ref b] s = true := hts0 _ (List.mem_append_right _ (List.mem_of_getElem? (i := 122) (by decide +kernel)))
  obtain ⟨e4, a4, f4⟩ := lw_obj hoL
  obtain ⟨e5, a5, f5⟩ := lw_obj hoS
  refine ⟨fun k => match k with | 0 => e0 | 1 => e1 | 2 => e2 | 3 => e3 | 4 => e4 | _ => e5, D, ?_⟩
  have hgs := flat_of_before _ hgv
  have hZ1 := va_Zof (A := LWa s) (hts0 (.laysStatic "java/lang/String" "COMPACT_STRINGS" "Z") (List.mem_append_right _ (List.mem_of_getElem? (i := 669) (by decide +kernel)))) (hts _ (tb_c wd_16)) (va_eqi (hgs (.eq (.static "java/lang/String" "COMPACT_STRINGS" "Z") (.int 1)) (by decide +kernel))) hA
  have hZ2 := va_Zqof (A := LWa s) (hts0 (.laysStatic "jdk/internal/util/Preconditions" "SIOOBE_FORMATTER" "Ljava/util/function/BiFunction;") (List.mem_append_right _ (List.mem_of_getElem? (i := 677) (by decide +kernel)))) (hts _ (tb_c wd_18)) (hgs (.isRef (.static "jdk/internal/util/Preconditions" "SIOOBE_FORMATTER" "Ljava/util/function/BiFunction;")) (by decide +kernel)) hA
  obtain ⟨adK, adV, hS1, hE1⟩ := vk_Sof (A := LWa s) (args := #[Value.ref b]) (s := s) (N := 1) (tm := fun _ => (.string "NineRiver$Reader" 89)) (len := [136]) (byt := [w_byt]) (fun i hi => by rw [show i = 0 by omega]; decide) (fun i hi => hgs (.exactly (.string "NineRiver$Reader" 89) "java/lang/String") (by decide +kernel)) (fun i hi => hgs (.eq (.field (.string "NineRiver$Reader" 89) "java/lang/String" "coder" "B") (.int 0)) (by decide +kernel)) (fun i hi => hgs (.arrayOf (.field (.string "NineRiver$Reader" 89) "java/lang/String" "value" "[B") .byte) (by decide +kernel)) (fun i hi => by rw [show i = 0 by omega]; exact hgs (.eq (.length (.field (.string "NineRiver$Reader" 89) "java/lang/String" "value" "[B")) (.int 136)) (by decide +kernel)) (fun i hi j hj => by rw [show i = 0 by omega] at hj ⊢; exact hgs _ (w_el j hj)) (fun i j hi hj hij => absurd (show i = j by omega) hij) hA
  have hR9 : vk_R "NineRiver$Reader" 89 w_text (adK 0) s := vk_R.of (A := #[Value.ref b]) (hts0 _ (List.mem_append_right _ (List.mem_of_getElem? (i := 659) (by decide +kernel)))) (hE1 0 (by decide))
  refine ⟨adK, adV, ⟨fun a i b n d h hm => va_Nw.of rfl (hts0 _ hm), fun a i x h hm => va_Nw.of rfl (hts0 _ hm)⟩, ⟨hKc, fun k q hq => ?_⟩, ⟨hZ1, hZ2, hS1, hR9⟩, ⟨va_Nw.of rfl (hts0 (.castable "[I" "java/lang/Cloneable") (List.mem_append_right _ (List.mem_of_getElem? (i := 763) (by decide +kernel)))), f0⟩, va_AO.of hoL, va_AO.of hoS⟩
  match k, hq with
  | 0, hq => cases hq; exact ⟨a0, f0⟩
  | 1, hq => cases hq; exact ⟨a1, f1⟩
  | 2, hq => cases hq; exact ⟨a2, f2⟩
  | 3, hq => cases hq; exact ⟨a3, f3⟩
  | 4, hq => cases hq; exact ⟨a4, f4⟩
  | 5, hq => cases hq; exact ⟨a5, f5⟩
  | k + 6, hq => simp [th_tys] at hq
set_option maxHeartbeats 8000000 in
set_option maxRecDepth 100000 in
theorem law_loop {p : Program} {e : Env} {s : State} {m : MethodId} {below : List Frame} {meth : Method} {c : Code} {l : Launch} {b L : Nat} {xs : Nat → Int32} (C0 : lw_At p s m meth c b L xs) {D : va_G} {adK adV : Nat → Nat} {xa ma : Nat} (hL : L ≤ 3584) {Gm : th_G} (hU : UQ Gm 1 ∧ UQ Gm 2 ∧ UQ Gm 11) : ∀ (fuel j : Nat) (E : Nat → Nat) (Gc : th_G) (nn : Nat) (H : Heap) (locs : List Loc) (ls : Array Slot), L ≤ 7 * j + 7 * fuel → 7 * j ≤ L → LCx E D adK adV s → LWs E D s xa ma Gc Gm nn H locs → TI E Gc xa nn → lv_has ls 4 [(3, .int (nI (7 * j))), (2, .ref ma), (1, .ref xa), (0, .ref b)] → W p l e room_1 s m #[Value.ref b] below meth c H locs (85 + 18 * j) (48538 + 441 * j) (lw_Z below #[Value.ref b] s) (F0 m 18 ls []) := by
  intro fuel
  induction fuel with
  | zero =>
    intro j E Gc nn H locs ls hf hj X0 hW hT hl
    obtain ⟨hx, hb, hr, hml, hown, hts0, hX, hbl, hlocks, hgv⟩ := id C0
    obtain ⟨hN, hK, hWS, hCL, hAO⟩ := id X0
    have hbA : ¬ LWa s b := Nat.not_le.mpr hbl
    have hts := lw_tb (w := Cond.initialized RX12) wd_13 hts0
    have tj : (nI (7 * j)).toInt = ((7 * j : Nat) : Int) := nI_toInt (by omega)
    have tL : (Int32.ofNat L).toInt = (L : Int) := nI_toInt (n := L) (by omega)
    refine lv_iload_n hx hb dLaw_18 rfl (lv_at hl 0 rfl) ?_
    refine lv_aload_n hx hb dLaw_19 rfl (lv_at hl 3 rfl) ?_
    refine va_slen hx hb hX hbl hbA hW.2.2.2.2.2.2.2 dLaw_20 ?_
    refine lv_bipush (v := 7) hx hb dLaw_21 (by decide) ?_
    refine lv_isub hx hb dLaw_23 ?_
    refine lv_topi (fun z ez => ?_)
    have tz := iv_sub (Y := 7) tL (by decide) ez (by omega) (by omega)
    refine lv_icmp_gt (tgt := 2010) hx hb dLaw_24 (by decide) (fun c1 => ?_) (fun c1 => ?_)
    · refine lv_iconst (v := 1) hx hb dLaw_2010 (by decide) ?_
      refine W.widen (k := 600000) (n := 7302250) (by omega) (by omega) ?_
      refine va_forget (fun q h => hW.2.2.2.2.2.2.2.2.2 q h) ?_
      exact lw_ret hx hb hr hlocks dLaw_2011
    · have k1 := iv_nlt (X := z.toInt) (Y := ((7 * j : Nat) : Int)) rfl tj c1
      exfalso; omega
  | succ fuel ih =>
    intro j E Gc nn H locs ls hf hj X0 hW hT hl
    obtain ⟨hx, hb, hr, hml, hown, hts0, hX, hbl, hlocks, hgv⟩ := id C0
    obtain ⟨hN, hK, hWS, hCL, hAO⟩ := id X0
    have hbA : ¬ LWa s b := Nat.not_le.mpr hbl
    have hts := lw_tb (w := Cond.initialized RX12) wd_13 hts0
    have tj : (nI (7 * j)).toInt = ((7 * j : Nat) : Int) := nI_toInt (by omega)
    have tL : (Int32.ofNat L).toInt = (L : Int) := nI_toInt (n := L) (by omega)
    refine lv_iload_n hx hb dLaw_18 rfl (lv_at hl 0 rfl) ?_
    refine lv_aload_n hx hb dLaw_19 rfl (lv_at hl 3 rfl) ?_
    refine va_slen hx hb hX hbl hbA hW.2.2.2.2.2.2.2 dLaw_20 ?_
    refine lv_bipush (v := 7) hx hb dLaw_21 (by decide) ?_
    refine lv_isub hx hb dLaw_23 ?_
    refine lv_topi (fun z ez => ?_)
    have tz := iv_sub (Y := 7) tL (by decide) ez (by omega) (by omega)
    refine lv_icmp_gt (tgt := 2010) hx hb dLaw_24 (by decide) (fun c1 => ?_) (fun c1 => ?_)
    · refine lv_iconst (v := 1) hx hb dLaw_2010 (by decide) ?_
      refine W.widen (k := 600000) (n := 7302250) (by omega) (by omega) ?_
      refine va_forget (fun q h => hW.2.2.2.2.2.2.2.2.2 q h) ?_
      exact lw_ret hx hb hr hlocks dLaw_2011
    · have k1 := iv_nlt (X := z.toInt) (Y := ((7 * j : Nat) : Int)) rfl tj c1
      have hi : 7 * j + 7 ≤ L := by omega
      refine lv_aload_n hx hb dLaw_27 rfl (lv_at hl 3 rfl) ?_
      refine lv_iload_n hx hb dLaw_28 rfl (lv_at hl 0 rfl) ?_
      refine va_sld hx hb hX hbl hbA hW.2.2.2.2.2.2.2 (iv_in (X := ((7 * j : Nat) : Int)) tj (by omega) (by omega)) dLaw_29 ?_
      refine lv_bipush (v := 63) hx hb dLaw_30 (by decide) ?_
      refine lv_iand hx hb dLaw_32 ?_
      refine lv_topi (fun x ex => ?_)
      have tx := iv_andr (m := 63) (M := 63) ex (by decide) (by decide)
      have hend : ∀ (E : Nat → Nat) (Gc : th_G) (nn : Nat) (H : Heap) (locs : List Loc), LCx E D adK adV s → LWs E D s xa ma Gc Gm nn H locs → TI E Gc xa nn → W p l e room_1 s m #[Value.ref b] below meth c H locs (85 + 18 * j + 18) (48538 + 441 * j + 441) (lw_Z below #[Value.ref b] s) (F0 m 2004 ls []) := by
        intro E Gc nn H locs X0 hW hT
        refine lv_iinc (v := nI (7 * (j + 1))) (lv' := [(3, .int (nI (7 * (j + 1)))), (2, .ref ma), (1, .ref xa), (0, .ref b)]) hx hb dLaw_2004 hl (k := 0) rfl (by rw [show nI (7 * (j + 1)) = nI (7 * j) + 7 from Int32.toInt_inj.mp (by rw [nI_toInt (by omega)]; exact (by have := iv_add (z := nI (7 * j) + 7) (Y := 7) tj (by decide) rfl (by omega) (by omega); omega))]; rfl) (by decide) rfl (fun ls hl => ?_)
        refine lv_goto (tgt := 18) hx hb dLaw_2007 (by decide) ?_
        exact ih (j + 1) E Gc nn H locs ls (by omega) (by omega) X0 hW hT hl
      by_cases h0 : x = 0
      · have k2 := iv_eq (X := x.toInt) (Y := 0) rfl (by decide) h0
        refine lv_tableIn (tgt := 256) (off := 223) hx hb dLaw_33 (by omega) (by omega) (by rw [k2]; rfl) (by decide) ?_
        exact law_c0 C0 X0 hi hL hW hT hU (by omega) (by omega) hl hend
      have n0 := iv_ne (X := x.toInt) (Y := 0) rfl (by decide) h0
      by_cases h1 : x = 1
      · have k2 := iv_eq (X := x.toInt) (Y := 1) rfl (by decide) h1
        refine lv_tableIn (tgt := 331) (off := 298) hx hb dLaw_33 (by omega) (by omega) (by rw [k2]; rfl) (by decide) ?_
        exact law_c1 C0 X0 hi hL hW hT hU (by omega) (by omega) hl hend
      have n1 := iv_ne (X := x.toInt) (Y := 1) rfl (by decide) h1
      by_cases h2 : x = 2
      · have k2 := iv_eq (X := x.toInt) (Y := 2) rfl (by decide) h2
        refine lv_tableIn (tgt := 364) (off := 331) hx hb dLaw_33 (by omega) (by omega) (by rw [k2]; rfl) (by decide) ?_
        exact law_c2 C0 X0 hi hL hW hT hU (by omega) (by omega) hl hend
      have n2 := iv_ne (X := x.toInt) (Y := 2) rfl (by decide) h2
      by_cases h3 : x = 3
      · have k2 := iv_eq (X := x.toInt) (Y := 3) rfl (by decide) h3
        refine lv_tableIn (tgt := 407) (off := 374) hx hb dLaw_33 (by omega) (by omega) (by rw [k2]; rfl) (by decide) ?_
        exact law_c3 C0 X0 hi hL hW hT hU (by omega) (by omega) hl hend
      have n3 := iv_ne (X := x.toInt) (Y := 3) rfl (by decide) h3
      by_cases h4 : x = 4
      · have k2 := iv_eq (X := x.toInt) (Y := 4) rfl (by decide) h4
        refine lv_tableIn (tgt := 450) (off := 417) hx hb dLaw_33 (by omega) (by omega) (by rw [k2]; rfl) (by decide) ?_
        exact law_c4 C0 X0 hi hL hW hT hU (by omega) (by omega) hl hend
      have n4 := iv_ne (X := x.toInt) (Y := 4) rfl (by decide) h4
      by_cases h5 : x = 5
      · have k2 := iv_eq (X := x.toInt) (Y := 5) rfl (by decide) h5
        refine lv_tableIn (tgt := 473) (off := 440) hx hb dLaw_33 (by omega) (by omega) (by rw [k2]; rfl) (by decide) ?_
        exact law_c5 C0 X0 hi hL hW hT hU (by omega) (by omega) hl hend
      have n5 := iv_ne (X := x.toInt) (Y := 5) rfl (by decide) h5
      by_cases h6 : x = 6
      · have k2 := iv_eq (X := x.toInt) (Y := 6) rfl (by decide) h6
        refine lv_tableIn (tgt := 496) (off := 463) hx hb dLaw_33 (by omega) (by omega) (by rw [k2]; rfl) (by decide) ?_
        exact law_c6 C0 X0 hi hL hW hT hU (by omega) (by omega) hl hend
      have n6 := iv_ne (X := x.toInt) (Y := 6) rfl (by decide) h6
      by_cases h7 : x = 7
      · have k2 := iv_eq (X := x.toInt) (Y := 7) rfl (by decide) h7
        refine lv_tableIn (tgt := 539) (off := 506) hx hb dLaw_33 (by omega) (by omega) (by rw [k2]; rfl) (by decide) ?_
        exact law_c7 C0 X0 hi hL hW hT hU (by omega) (by omega) hl hend
      have n7 := iv_ne (X := x.toInt) (Y := 7) rfl (by decide) h7
      by_cases h8 : x = 8
      · have k2 := iv_eq (X := x.toInt) (Y := 8) rfl (by decide) h8
        refine lv_tableIn (tgt := 572) (off := 539) hx hb dLaw_33 (by omega) (by omega) (by rw [k2]; rfl) (by decide) ?_
        exact law_c8 C0 X0 hi hL hW hT hU (by omega) (by omega) hl hend
      have n8 := iv_ne (X := x.toInt) (Y := 8) rfl (by decide) h8
      by_cases h9 : x = 9
      · have k2 := iv_eq (X := x.toInt) (Y := 9) rfl (by decide) h9
        refine lv_tableIn (tgt := 635) (off := 602) hx hb dLaw_33 (by omega) (by omega) (by rw [k2]; rfl) (by decide) ?_
        exact law_c9 C0 X0 hi hL hW hT hU (by omega) (by omega) hl hend
      have n9 := iv_ne (X := x.toInt) (Y := 9) rfl (by decide) h9
      by_cases h10 : x = 10
      · have k2 := iv_eq (X := x.toInt) (Y := 10) rfl (by decide) h10
        refine lv_tableIn (tgt := 658) (off := 625) hx hb dLaw_33 (by omega) (by omega) (by rw [k2]; rfl) (by decide) ?_
        exact law_c10 C0 X0 hi hL hW hT hU (by omega) (by omega) hl hend
      have n10 := iv_ne (X := x.toInt) (Y := 10) rfl (by decide) h10
      by_cases h11 : x = 11
      · have k2 := iv_eq (X := x.toInt) (Y := 11) rfl (by decide) h11
        refine lv_tableIn (tgt := 671) (off := 638) hx hb dLaw_33 (by omega) (by omega) (by rw [k2]; rfl) (by decide) ?_
        exact law_c11 C0 X0 hi hL hW hT hU (by omega) (by omega) hl hend
      have n11 := iv_ne (X := x.toInt) (Y := 11) rfl (by decide) h11
      by_cases h12 : x = 12
      · have k2 := iv_eq (X := x.toInt) (Y := 12) rfl (by decide) h12
        refine lv_tableIn (tgt := 684) (off := 651) hx hb dLaw_33 (by omega) (by omega) (by rw [k2]; rfl) (by decide) ?_
        exact law_c12 C0 X0 hi hL hW hT hU (by omega) (by omega) hl hend
      have n12 := iv_ne (X := x.toInt) (Y := 12) rfl (by decide) h12
      by_cases h13 : x = 13
      · have k2 := iv_eq (X := x.toInt) (Y := 13) rfl (by decide) h13
        refine lv_tableIn (tgt := 697) (off := 664) hx hb dLaw_33 (by omega) (by omega) (by rw [k2]; rfl) (by decide) ?_
        exact law_c13 C0 X0 hi hL hW hT hU (by omega) (by omega) hl hend
      have n13 := iv_ne (X := x.toInt) (Y := 13) rfl (by decide) h13
      by_cases h14 : x = 14
      · have k2 := iv_eq (X := x.toInt) (Y := 14) rfl (by decide) h14
        refine lv_tableIn (tgt := 710) (off := 677) hx hb dLaw_33 (by omega) (by omega) (by rw [k2]; rfl) (by decide) ?_
        exact law_c14 C0 X0 hi hL hW hT hU (by omega) (by omega) hl hend
      have n14 := iv_ne (X := x.toInt) (Y := 14) rfl (by decide) h14
      by_cases h15 : x = 15
      · have k2 := iv_eq (X := x.toInt) (Y := 15) rfl (by decide) h15
        refine lv_tableIn (tgt := 733) (off := 700) hx hb dLaw_33 (by omega) (by omega) (by rw [k2]; rfl) (by decide) ?_
        exact law_c15 C0 X0 hi hL hW hT hU (by omega) (by omega) hl hend
      have n15 := iv_ne (X := x.toInt) (Y := 15) rfl (by decide) h15
      by_cases h16 : x = 16
      · have k2 := iv_eq (X := x.toInt) (Y := 16) rfl (by decide) h16
        refine lv_tableIn (tgt := 766) (off := 733) hx hb dLaw_33 (by omega) (by omega) (by rw [k2]; rfl) (by decide) ?_
        exact law_c16 C0 X0 hi hL hW hT hU (by omega) (by omega) hl hend
      have n16 := iv_ne (X := x.toInt) (Y := 16) rfl (by decide) h16
      by_cases h17 : x = 17
      · have k2 := iv_eq (X := x.toInt) (Y := 17) rfl (by decide) h17
        refine lv_tableIn (tgt := 809) (off := 776) hx hb dLaw_33 (by omega) (by omega) (by rw [k2]; rfl) (by decide) ?_
        exact law_c17 C0 X0 hi hL hW hT hU (by omega) (by omega) hl hend
      have n17 := iv_ne (X := x.toInt) (Y := 17) rfl (by decide) h17
      by_cases h18 : x = 18
      · have k2 := iv_eq (X := x.toInt) (Y := 18) rfl (by decide) h18
        refine lv_tableIn (tgt := 852) (off := 819) hx hb dLaw_33 (by omega) (by omega) (by rw [k2]; rfl) (by decide) ?_
        exact law_c18 C0 X0 hi hL hW hT hU (by omega) (by omega) hl hend
      have n18 := iv_ne (X := x.toInt) (Y := 18) rfl (by decide) h18
      by_cases h19 : x = 19
      · have k2 := iv_eq (X := x.toInt) (Y := 19) rfl (by decide) h19
        refine lv_tableIn (tgt := 895) (off := 862) hx hb dLaw_33 (by omega) (by omega) (by rw [k2]; rfl) (by decide) ?_
        exact law_c19 C0 X0 hi hL hW hT hU (by omega) (by omega) hl hend
      have n19 := iv_ne (X := x.toInt) (Y := 19) rfl (by decide) h19
      by_cases h20 : x = 20
      · have k2 := iv_eq (X := x.toInt) (Y := 20) rfl (by decide) h20
        refine lv_tableIn (tgt := 938) (off := 905) hx hb dLaw_33 (by omega) (by omega) (by rw [k2]; rfl) (by decide) ?_
        exact law_c20 C0 X0 hi hL hW hT hU (by omega) (by omega) hl hend
      have n20 := iv_ne (X := x.toInt) (Y := 20) rfl (by decide) h20
      by_cases h21 : x = 21
      · have k2 := iv_eq (X := x.toInt) (Y := 21) rfl (by decide) h21
        refine lv_tableIn (tgt := 971) (off := 938) hx hb dLaw_33 (by omega) (by omega) (by rw [k2]; rfl) (by decide) ?_
        exact law_c21 C0 X0 hi hL hW hT hU (by omega) (by omega) hl hend
      have n21 := iv_ne (X := x.toInt) (Y := 21) rfl (by decide) h21
      by_cases h22 : x = 22
      · have k2 := iv_eq (X := x.toInt) (Y := 22) rfl (by decide) h22
        refine lv_tableIn (tgt := 1014) (off := 981) hx hb dLaw_33 (by omega) (by omega) (by rw [k2]; rfl) (by decide) ?_
        exact law_c22 C0 X0 hi hL hW hT hU (by omega) (by omega) hl hend
      have n22 := iv_ne (X := x.toInt) (Y := 22) rfl (by decide) h22
      by_cases h23 : x = 23
      · have k2 := iv_eq (X := x.toInt) (Y := 23) rfl (by decide) h23
        refine lv_tableIn (tgt := 1057) (off := 1024) hx hb dLaw_33 (by omega) (by omega) (by rw [k2]; rfl) (by decide) ?_
        exact law_c23 C0 X0 hi hL hW hT hU (by omega) (by omega) hl hend
      have n23 := iv_ne (X := x.toInt) (Y := 23) rfl (by decide) h23
      by_cases h24 : x = 24
      · have k2 := iv_eq (X := x.toInt) (Y := 24) rfl (by decide) h24
        refine lv_tableIn (tgt := 1100) (off := 1067) hx hb dLaw_33 (by omega) (by omega) (by rw [k2]; rfl) (by decide) ?_
        exact law_c24 C0 X0 hi hL hW hT hU (by omega) (by omega) hl hend
      have n24 := iv_ne (X := x.toInt) (Y := 24) rfl (by decide) h24
      by_cases h25 : x = 25
      · have k2 := iv_eq (X := x.toInt) (Y := 25) rfl (by decide) h25
        refine lv_tableIn (tgt := 1153) (off := 1120) hx hb dLaw_33 (by omega) (by omega) (by rw [k2]; rfl) (by decide) ?_
        exact law_c25 C0 X0 hi hL hW hT hU (by omega) (by omega) hl hend
      have n25 := iv_ne (X := x.toInt) (Y := 25) rfl (by decide) h25
      by_cases h26 : x = 26
      · have k2 := iv_eq (X := x.toInt) (Y := 26) rfl (by decide) h26
        refine lv_tableIn (tgt := 1166) (off := 1133) hx hb dLaw_33 (by omega) (by omega) (by rw [k2]; rfl) (by decide) ?_
        exact law_c26 C0 X0 hi hL hW hT hU (by omega) (by omega) hl hend
      have n26 := iv_ne (X := x.toInt) (Y := 26) rfl (by decide) h26
      by_cases h27 : x = 27
      · have k2 := iv_eq (X := x.toInt) (Y := 27) rfl (by decide) h27
        refine lv_tableIn (tgt := 1209) (off := 1176) hx hb dLaw_33 (by omega) (by omega) (by rw [k2]; rfl) (by decide) ?_
        exact law_c27 C0 X0 hi hL hW hT hU (by omega) (by omega) hl hend
      have n27 := iv_ne (X := x.toInt) (Y := 27) rfl (by decide) h27
      by_cases h28 : x = 28
      · have k2 := iv_eq (X := x.toInt) (Y := 28) rfl (by decide) h28
        refine lv_tableIn (tgt := 1252) (off := 1219) hx hb dLaw_33 (by omega) (by omega) (by rw [k2]; rfl) (by decide) ?_
        exact law_c28 C0 X0 hi hL hW hT hU (by omega) (by omega) hl hend
      have n28 := iv_ne (X := x.toInt) (Y := 28) rfl (by decide) h28
      by_cases h29 : x = 29
      · have k2 := iv_eq (X := x.toInt) (Y := 29) rfl (by decide) h29
        refine lv_tableIn (tgt := 1295) (off := 1262) hx hb dLaw_33 (by omega) (by omega) (by rw [k2]; rfl) (by decide) ?_
        exact law_c29 C0 X0 hi hL hW hT hU (by omega) (by omega) hl hend
      have n29 := iv_ne (X := x.toInt) (Y := 29) rfl (by decide) h29
      by_cases h30 : x = 30
      · have k2 := iv_eq (X := x.toInt) (Y := 30) rfl (by decide) h30
        refine lv_tableIn (tgt := 1358) (off := 1325) hx hb dLaw_33 (by omega) (by omega) (by rw [k2]; rfl) (by decide) ?_
        exact law_c30 C0 X0 hi hL hW hT hU (by omega) (by omega) hl hend
      have n30 := iv_ne (X := x.toInt) (Y := 30) rfl (by decide) h30
      by_cases h31 : x = 31
      · have k2 := iv_eq (X := x.toInt) (Y := 31) rfl (by decide) h31
        refine lv_tableIn (tgt := 1411) (off := 1378) hx hb dLaw_33 (by omega) (by omega) (by rw [k2]; rfl) (by decide) ?_
        exact law_c31 C0 X0 hi hL hW hT hU (by omega) (by omega) hl hend
      have n31 := iv_ne (X := x.toInt) (Y := 31) rfl (by decide) h31
      by_cases h32 : x = 32
      · have k2 := iv_eq (X := x.toInt) (Y := 32) rfl (by decide) h32
        refine lv_tableIn (tgt := 1424) (off := 1391) hx hb dLaw_33 (by omega) (by omega) (by rw [k2]; rfl) (by decide) ?_
        exact law_c32 C0 X0 hi hL hW hT hU (by omega) (by omega) hl hend
      have n32 := iv_ne (X := x.toInt) (Y := 32) rfl (by decide) h32
      by_cases h33 : x = 33
      · have k2 := iv_eq (X := x.toInt) (Y := 33) rfl (by decide) h33
        refine lv_tableIn (tgt := 1447) (off := 1414) hx hb dLaw_33 (by omega) (by omega) (by rw [k2]; rfl) (by decide) ?_
        exact law_c33 C0 X0 hi hL hW hT hU (by omega) (by omega) hl hend
      have n33 := iv_ne (X := x.toInt) (Y := 33) rfl (by decide) h33
      by_cases h34 : x = 34
      · have k2 := iv_eq (X := x.toInt) (Y := 34) rfl (by decide) h34
        refine lv_tableIn (tgt := 1480) (off := 1447) hx hb dLaw_33 (by omega) (by omega) (by rw [k2]; rfl) (by decide) ?_
        exact law_c34 C0 X0 hi hL hW hT hU (by omega) (by omega) hl hend
      have n34 := iv_ne (X := x.toInt) (Y := 34) rfl (by decide) h34
      by_cases h35 : x = 35
      · have k2 := iv_eq (X := x.toInt) (Y := 35) rfl (by decide) h35
        refine lv_tableIn (tgt := 1503) (off := 1470) hx hb dLaw_33 (by omega) (by omega) (by rw [k2]; rfl) (by decide) ?_
        exact law_c35 C0 X0 hi hL hW hT hU (by omega) (by omega) hl hend
      have n35 := iv_ne (X := x.toInt) (Y := 35) rfl (by decide) h35
      by_cases h36 : x = 36
      · have k2 := iv_eq (X := x.toInt) (Y := 36) rfl (by decide) h36
        refine lv_tableIn (tgt := 1546) (off := 1513) hx hb dLaw_33 (by omega) (by omega) (by rw [k2]; rfl) (by decide) ?_
        exact law_c36 C0 X0 hi hL hW hT hU (by omega) (by omega) hl hend
      have n36 := iv_ne (X := x.toInt) (Y := 36) rfl (by decide) h36
      by_cases h37 : x = 37
      · have k2 := iv_eq (X := x.toInt) (Y := 37) rfl (by decide) h37
        refine lv_tableIn (tgt := 1559) (off := 1526) hx hb dLaw_33 (by omega) (by omega) (by rw [k2]; rfl) (by decide) ?_
        exact law_c37 C0 X0 hi hL hW hT hU (by omega) (by omega) hl hend
      have n37 := iv_ne (X := x.toInt) (Y := 37) rfl (by decide) h37
      by_cases h38 : x = 38
      · have k2 := iv_eq (X := x.toInt) (Y := 38) rfl (by decide) h38
        refine lv_tableIn (tgt := 1582) (off := 1549) hx hb dLaw_33 (by omega) (by omega) (by rw [k2]; rfl) (by decide) ?_
        exact law_c38 C0 X0 hi hL hW hT hU (by omega) (by omega) hl hend
      have n38 := iv_ne (X := x.toInt) (Y := 38) rfl (by decide) h38
      by_cases h39 : x = 39
      · have k2 := iv_eq (X := x.toInt) (Y := 39) rfl (by decide) h39
        refine lv_tableIn (tgt := 1635) (off := 1602) hx hb dLaw_33 (by omega) (by omega) (by rw [k2]; rfl) (by decide) ?_
        exact law_c39 C0 X0 hi hL hW hT hU (by omega) (by omega) hl hend
      have n39 := iv_ne (X := x.toInt) (Y := 39) rfl (by decide) h39
      by_cases h40 : x = 40
      · have k2 := iv_eq (X := x.toInt) (Y := 40) rfl (by decide) h40
        refine lv_tableIn (tgt := 1678) (off := 1645) hx hb dLaw_33 (by omega) (by omega) (by rw [k2]; rfl) (by decide) ?_
        exact law_c40 C0 X0 hi hL hW hT hU (by omega) (by omega) hl hend
      have n40 := iv_ne (X := x.toInt) (Y := 40) rfl (by decide) h40
      by_cases h41 : x = 41
      · have k2 := iv_eq (X := x.toInt) (Y := 41) rfl (by decide) h41
        refine lv_tableIn (tgt := 1731) (off := 1698) hx hb dLaw_33 (by omega) (by omega) (by rw [k2]; rfl) (by decide) ?_
        exact law_c41 C0 X0 hi hL hW hT hU (by omega) (by omega) hl hend
      have n41 := iv_ne (X := x.toInt) (Y := 41) rfl (by decide) h41
      by_cases h42 : x = 42
      · have k2 := iv_eq (X := x.toInt) (Y := 42) rfl (by decide) h42
        refine lv_tableIn (tgt := 1784) (off := 1751) hx hb dLaw_33 (by omega) (by omega) (by rw [k2]; rfl) (by decide) ?_
        exact law_c42 C0 X0 hi hL hW hT hU (by omega) (by omega) hl hend
      have n42 := iv_ne (X := x.toInt) (Y := 42) rfl (by decide) h42
      by_cases h43 : x = 43
      · have k2 := iv_eq (X := x.toInt) (Y := 43) rfl (by decide) h43
        refine lv_tableIn (tgt := 1797) (off := 1764) hx hb dLaw_33 (by omega) (by omega) (by rw [k2]; rfl) (by decide) ?_
        exact law_c43 C0 X0 hi hL hW hT hU (by omega) (by omega) hl hend
      have n43 := iv_ne (X := x.toInt) (Y := 43) rfl (by decide) h43
      by_cases h44 : x = 44
      · have k2 := iv_eq (X := x.toInt) (Y := 44) rfl (by decide) h44
        refine lv_tableIn (tgt := 1810) (off := 1777) hx hb dLaw_33 (by omega) (by omega) (by rw [k2]; rfl) (by decide) ?_
        exact law_c44 C0 X0 hi hL hW hT hU (by omega) (by omega) hl hend
      have n44 := iv_ne (X := x.toInt) (Y := 44) rfl (by decide) h44
      by_cases h45 : x = 45
      · have k2 := iv_eq (X := x.toInt) (Y := 45) rfl (by decide) h45
        refine lv_tableIn (tgt := 1843) (off := 1810) hx hb dLaw_33 (by omega) (by omega) (by rw [k2]; rfl) (by decide) ?_
        exact law_c45 C0 X0 hi hL hW hT hU (by omega) (by omega) hl hend
      have n45 := iv_ne (X := x.toInt) (Y := 45) rfl (by decide) h45
      by_cases h46 : x = 46
      · have k2 := iv_eq (X := x.toInt) (Y := 46) rfl (by decide) h46
        refine lv_tableIn (tgt := 1866) (off := 1833) hx hb dLaw_33 (by omega) (by omega) (by rw [k2]; rfl) (by decide) ?_
        exact law_c46 C0 X0 hi hL hW hT hU (by omega) (by omega) hl hend
      have n46 := iv_ne (X := x.toInt) (Y := 46) rfl (by decide) h46
      by_cases h47 : x = 47
      · have k2 := iv_eq (X := x.toInt) (Y := 47) rfl (by decide) h47
        refine lv_tableIn (tgt := 1899) (off := 1866) hx hb dLaw_33 (by omega) (by omega) (by rw [k2]; rfl) (by decide) ?_
        exact law_c47 C0 X0 hi hL hW hT hU (by omega) (by omega) hl hend
      have n47 := iv_ne (X := x.toInt) (Y := 47) rfl (by decide) h47
      by_cases h48 : x = 48
      · have k2 := iv_eq (X := x.toInt) (Y := 48) rfl (by decide) h48
        refine lv_tableIn (tgt := 1922) (off := 1889) hx hb dLaw_33 (by omega) (by omega) (by rw [k2]; rfl) (by decide) ?_
        exact law_c48 C0 X0 hi hL hW hT hU (by omega) (by omega) hl hend
      have n48 := iv_ne (X := x.toInt) (Y := 48) rfl (by decide) h48
      by_cases h49 : x = 49
      · have k2 := iv_eq (X := x.toInt) (Y := 49) rfl (by decide) h49
        refine lv_tableIn (tgt := 1945) (off := 1912) hx hb dLaw_33 (by omega) (by omega) (by rw [k2]; rfl) (by decide) ?_
        exact law_c49 C0 X0 hi hL hW hT hU (by omega) (by omega) hl hend
      have n49 := iv_ne (X := x.toInt) (Y := 49) rfl (by decide) h49
      by_cases h50 : x = 50
      · have k2 := iv_eq (X := x.toInt) (Y := 50) rfl (by decide) h50
        refine lv_tableIn (tgt := 1968) (off := 1935) hx hb dLaw_33 (by omega) (by omega) (by rw [k2]; rfl) (by decide) ?_
        exact law_c50 C0 X0 hi hL hW hT hU (by omega) (by omega) hl hend
      have n50 := iv_ne (X := x.toInt) (Y := 50) rfl (by decide) h50
      by_cases h51 : x = 51
      · have k2 := iv_eq (X := x.toInt) (Y := 51) rfl (by decide) h51
        refine lv_tableIn (tgt := 1991) (off := 1958) hx hb dLaw_33 (by omega) (by omega) (by rw [k2]; rfl) (by decide) ?_
        exact law_c51 C0 X0 hi hL hW hT hU (by omega) (by omega) hl hend
      have n51 := iv_ne (X := x.toInt) (Y := 51) rfl (by decide) h51
      refine lv_tableOut (tgt := 2004) hx hb dLaw_33 (by omega) (by decide) ?_
      exact W.widen (by omega) (by omega) (hend _ _ _ _ _ X0 hW hT)
