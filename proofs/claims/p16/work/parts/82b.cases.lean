set_option maxHeartbeats 4000000 in
set_option maxRecDepth 100000 in
theorem law_c5 {p : Program} {e : Env} {s : State} {m : MethodId} {below : List Frame} {meth : Method} {c : Code} {l : Launch} {b L : Nat} {xs : Nat → Int32} (C0 : lw_At p s m meth c b L xs) {E : Nat → Nat} {D : va_G} {adK adV : Nat → Nat} (X0 : LCx E D adK adV s) {xa ma i : Nat} (hi : i + 7 ≤ L) (hL : L ≤ 3584) {Gc Gm : th_G} {nn : Nat} {H : Heap} {locs : List Loc} (hW : LWs E D s xa ma Gc Gm nn H locs) (hT : TI E Gc xa nn) (hU : UQ Gm 1 ∧ UQ Gm 2 ∧ UQ Gm 11 ∧ UQ Gm 4 ∧ UQ Gm 10) {cells slots : Nat} (hc1 : cells + 18 ≤ 600000) (hc2 : slots + 441 ≤ 7302250) {ls : Array Slot} (hl : lv_has ls 4 [(3, .int (nI i)), (2, .ref ma), (1, .ref xa), (0, .ref b)]) (kk : ∀ (E : Nat → Nat) (Gc : th_G) (nn : Nat) (H : Heap) (locs : List Loc), LCx E D adK adV s → LWs E D s xa ma Gc Gm nn H locs → TI E Gc xa nn → W p l e room_1 s m #[Value.ref b] below meth c H locs (cells + 18) (slots + 441) (lw_Z below #[Value.ref b] s) (F0 m 2004 ls [])) : W p l e room_1 s m #[Value.ref b] below meth c H locs cells slots (lw_Z below #[Value.ref b] s) (F0 m 473 ls []) := by
  obtain ⟨hx, hb, hr, hml, hown, hts0, hX, hbl, hlocks, hgv⟩ := id C0
  obtain ⟨hN, hK, hWS, hCL, hAO⟩ := id X0
  have hbA : ¬ LWa s b := Nat.not_le.mpr hbl
  have hts := lw_tb (w := Cond.initialized RX12) wd_13 hts0
  have hR1 : room_1.cells = 600000 := rfl
  have hR2 : room_1.slots = 7302250 := rfl
  have ti : (nI i).toInt = (i : Int) := nI_toInt (by omega)
  refine lv_aload_n hx hb dLaw_473 rfl (lv_at hl 2 rfl) ?_
  refine lv_aload_n hx hb dLaw_474 rfl (lv_at hl 3 rfl) ?_
  refine lv_iload_n hx hb dLaw_475 rfl (lv_at hl 0 rfl) ?_
  refine lv_iconst (v := 1) hx hb dLaw_476 (by decide) ?_
  refine lv_iadd hx hb dLaw_477 ?_
  refine lv_topi (fun z41 ez41 => ?_)
  have tz41 := iv_add (Y := 1) ti (by decide) ez41 (by omega) (by omega)
  refine va_sld hx hb hX hbl hbA hW.2.2.2.2.2.2.2 (iv_in (X := (i : Int) + 1) (by omega) (by omega) (by omega)) dLaw_478 ?_
  rw [show z41.toNatClampNeg = i + 1 from by show z41.toInt.toNat = _; omega]
  refine lc_i (As := [.int (xs (i + 1))]) (rest := []) (n := 1) (d := 3) ⟨hx, hb, hml, hown, hts⟩ (c_X11_mill l E D Gc xa nn hW.2.1 (xs (i + 1))) wd_510 wd_511 wd_512 wd_1 wd_513 (by decide +kernel) ⟨Nat.le_of_ble_eq_true rfl, Nat.le_of_ble_eq_true rfl⟩ hW hN hK rfl hl.1 rfl (Nat.le_of_ble_eq_true rfl) dLaw_479 ⟨by rw [hR1]; omega, by rw [hR2]; omega⟩ (fun r42 H locs hr42 hW => ?_)
  refine lv_pop hx hb dLaw_482 rfl ?_
  refine lv_aload_n hx hb dLaw_483 rfl (lv_at hl 1 rfl) ?_
  refine lv_aload_n hx hb dLaw_484 rfl (lv_at hl 3 rfl) ?_
  refine lv_iload_n hx hb dLaw_485 rfl (lv_at hl 0 rfl) ?_
  refine lv_iconst (v := 1) hx hb dLaw_486 (by decide) ?_
  refine lv_iadd hx hb dLaw_487 ?_
  refine lv_topi (fun z43 ez43 => ?_)
  have tz43 := iv_add (Y := 1) ti (by decide) ez43 (by omega) (by omega)
  refine va_sld hx hb hX hbl hbA hW.2.2.2.2.2.2.2 (iv_in (X := (i : Int) + 1) (by omega) (by omega) (by omega)) dLaw_488 ?_
  rw [show z43.toNatClampNeg = i + 1 from by show z43.toInt.toNat = _; omega]
  refine lm_i (post := fun _ => True) (As := [.int (xs (i + 1))]) (rest := []) (n := 1) (d := 2) ⟨hx, hb, hml, hown, hts⟩ (c_X12_mill l E D Gm ma hW.2.2.2.1 (xs (i + 1))) wd_1443 wd_1444 wd_1445 wd_13 wd_1446 (by decide +kernel) ⟨Nat.le_of_ble_eq_true rfl, Nat.le_of_ble_eq_true rfl⟩ hW hN hK rfl hl.1 rfl (Nat.le_of_ble_eq_true rfl) dLaw_489 ⟨by rw [hR1]; omega, by rw [hR2]; omega⟩ (fun r44 H locs hr44 hW => ?_)
  refine lv_pop hx hb dLaw_492 rfl ?_
  refine lv_goto (tgt := 2004) hx hb dLaw_493 (by decide) ?_
  exact W.widen (k := cells + 18) (n := slots + 441) (by omega) (by omega) (kk _ _ _ _ _ X0 hW hT)
set_option maxHeartbeats 4000000 in
set_option maxRecDepth 100000 in
theorem law_c6 {p : Program} {e : Env} {s : State} {m : MethodId} {below : List Frame} {meth : Method} {c : Code} {l : Launch} {b L : Nat} {xs : Nat → Int32} (C0 : lw_At p s m meth c b L xs) {E : Nat → Nat} {D : va_G} {adK adV : Nat → Nat} (X0 : LCx E D adK adV s) {xa ma i : Nat} (hi : i + 7 ≤ L) (hL : L ≤ 3584) {Gc Gm : th_G} {nn : Nat} {H : Heap} {locs : List Loc} (hW : LWs E D s xa ma Gc Gm nn H locs) (hT : TI E Gc xa nn) (hU : UQ Gm 1 ∧ UQ Gm 2 ∧ UQ Gm 11 ∧ UQ Gm 4 ∧ UQ Gm 10) {cells slots : Nat} (hc1 : cells + 18 ≤ 600000) (hc2 : slots + 441 ≤ 7302250) {ls : Array Slot} (hl : lv_has ls 4 [(3, .int (nI i)), (2, .ref ma), (1, .ref xa), (0, .ref b)]) (kk : ∀ (E : Nat → Nat) (Gc : th_G) (nn : Nat) (H : Heap) (locs : List Loc), LCx E D adK adV s → LWs E D s xa ma Gc Gm nn H locs → TI E Gc xa nn → W p l e room_1 s m #[Value.ref b] below meth c H locs (cells + 18) (slots + 441) (lw_Z below #[Value.ref b] s) (F0 m 2004 ls [])) : W p l e room_1 s m #[Value.ref b] below meth c H locs cells slots (lw_Z below #[Value.ref b] s) (F0 m 496 ls []) := by
  obtain ⟨hx, hb, hr, hml, hown, hts0, hX, hbl, hlocks, hgv⟩ := id C0
  obtain ⟨hN, hK, hWS, hCL, hAO⟩ := id X0
  have hbA : ¬ LWa s b := Nat.not_le.mpr hbl
  have hts := lw_tb (w := Cond.initialized RX12) wd_13 hts0
  have hR1 : room_1.cells = 600000 := rfl
  have hR2 : room_1.slots = 7302250 := rfl
  have ti : (nI i).toInt = (i : Int) := nI_toInt (by omega)
  refine lv_aload_n hx hb dLaw_496 rfl (lv_at hl 2 rfl) ?_
  refine lv_aload_n hx hb dLaw_497 rfl (lv_at hl 3 rfl) ?_
  refine lv_iload_n hx hb dLaw_498 rfl (lv_at hl 0 rfl) ?_
  refine lv_iconst (v := 1) hx hb dLaw_499 (by decide) ?_
  refine lv_iadd hx hb dLaw_500 ?_
  refine lv_topi (fun z45 ez45 => ?_)
  have tz45 := iv_add (Y := 1) ti (by decide) ez45 (by omega) (by omega)
  refine va_sld hx hb hX hbl hbA hW.2.2.2.2.2.2.2 (iv_in (X := (i : Int) + 1) (by omega) (by omega) (by omega)) dLaw_501 ?_
  rw [show z45.toNatClampNeg = i + 1 from by show z45.toInt.toNat = _; omega]
  refine lv_aload_n hx hb dLaw_502 rfl (lv_at hl 3 rfl) ?_
  refine lv_iload_n hx hb dLaw_503 rfl (lv_at hl 0 rfl) ?_
  refine lv_iconst (v := 2) hx hb dLaw_504 (by decide) ?_
  refine lv_iadd hx hb dLaw_505 ?_
  refine lv_topi (fun z46 ez46 => ?_)
  have tz46 := iv_add (Y := 2) ti (by decide) ez46 (by omega) (by omega)
  refine va_sld hx hb hX hbl hbA hW.2.2.2.2.2.2.2 (iv_in (X := (i : Int) + 2) (by omega) (by omega) (by omega)) dLaw_506 ?_
  rw [show z46.toNatClampNeg = i + 2 from by show z46.toInt.toNat = _; omega]
  refine lv_aload_n hx hb dLaw_507 rfl (lv_at hl 3 rfl) ?_
  refine lv_iload_n hx hb dLaw_508 rfl (lv_at hl 0 rfl) ?_
  refine lv_iconst (v := 3) hx hb dLaw_509 (by decide) ?_
  refine lv_iadd hx hb dLaw_510 ?_
  refine lv_topi (fun z47 ez47 => ?_)
  have tz47 := iv_add (Y := 3) ti (by decide) ez47 (by omega) (by omega)
  refine va_sld hx hb hX hbl hbA hW.2.2.2.2.2.2.2 (iv_in (X := (i : Int) + 3) (by omega) (by omega) (by omega)) dLaw_511 ?_
  rw [show z47.toNatClampNeg = i + 3 from by show z47.toInt.toNat = _; omega]
  refine lc_i (As := [.int (xs (i + 1)), .int (xs (i + 2)), .int (xs (i + 3))]) (rest := []) (n := 3) (d := 7) ⟨hx, hb, hml, hown, hts⟩ (c_X11_grinds l E D Gc xa nn hW.2.1 (xs (i + 1)) (xs (i + 2)) (xs (i + 3))) wd_514 wd_515 wd_516 wd_1 wd_517 (by decide +kernel) ⟨Nat.le_of_ble_eq_true rfl, Nat.le_of_ble_eq_true rfl⟩ hW hN hK rfl hl.1 rfl (Nat.le_of_ble_eq_true rfl) dLaw_512 ⟨by rw [hR1]; omega, by rw [hR2]; omega⟩ (fun r48 H locs hr48 hW => ?_)
  refine lv_pop hx hb dLaw_515 rfl ?_
  refine lv_aload_n hx hb dLaw_516 rfl (lv_at hl 1 rfl) ?_
  refine lv_aload_n hx hb dLaw_517 rfl (lv_at hl 3 rfl) ?_
  refine lv_iload_n hx hb dLaw_518 rfl (lv_at hl 0 rfl) ?_
  refine lv_iconst (v := 1) hx hb dLaw_519 (by decide) ?_
  refine lv_iadd hx hb dLaw_520 ?_
  refine lv_topi (fun z49 ez49 => ?_)
  have tz49 := iv_add (Y := 1) ti (by decide) ez49 (by omega) (by omega)
  refine va_sld hx hb hX hbl hbA hW.2.2.2.2.2.2.2 (iv_in (X := (i : Int) + 1) (by omega) (by omega) (by omega)) dLaw_521 ?_
  rw [show z49.toNatClampNeg = i + 1 from by show z49.toInt.toNat = _; omega]
  refine lv_aload_n hx hb dLaw_522 rfl (lv_at hl 3 rfl) ?_
  refine lv_iload_n hx hb dLaw_523 rfl (lv_at hl 0 rfl) ?_
  refine lv_iconst (v := 2) hx hb dLaw_524 (by decide) ?_
  refine lv_iadd hx hb dLaw_525 ?_
  refine lv_topi (fun z50 ez50 => ?_)
  have tz50 := iv_add (Y := 2) ti (by decide) ez50 (by omega) (by omega)
  refine va_sld hx hb hX hbl hbA hW.2.2.2.2.2.2.2 (iv_in (X := (i : Int) + 2) (by omega) (by omega) (by omega)) dLaw_526 ?_
  rw [show z50.toNatClampNeg = i + 2 from by show z50.toInt.toNat = _; omega]
  refine lv_aload_n hx hb dLaw_527 rfl (lv_at hl 3 rfl) ?_
  refine lv_iload_n hx hb dLaw_528 rfl (lv_at hl 0 rfl) ?_
  refine lv_iconst (v := 3) hx hb dLaw_529 (by decide) ?_
  refine lv_iadd hx hb dLaw_530 ?_
  refine lv_topi (fun z51 ez51 => ?_)
  have tz51 := iv_add (Y := 3) ti (by decide) ez51 (by omega) (by omega)
  refine va_sld hx hb hX hbl hbA hW.2.2.2.2.2.2.2 (iv_in (X := (i : Int) + 3) (by omega) (by omega) (by omega)) dLaw_531 ?_
  rw [show z51.toNatClampNeg = i + 3 from by show z51.toInt.toNat = _; omega]
  refine lm_i (post := fun _ => True) (As := [.int (xs (i + 1)), .int (xs (i + 2)), .int (xs (i + 3))]) (rest := []) (n := 3) (d := 69) ⟨hx, hb, hml, hown, hts⟩ (c_X12_grinds l E D Gm ma hW.2.2.2.1 (xs (i + 1)) (xs (i + 2)) (xs (i + 3))) wd_1647 wd_1648 wd_1649 wd_13 wd_1650 (by decide +kernel) ⟨Nat.le_of_ble_eq_true rfl, Nat.le_of_ble_eq_true rfl⟩ hW hN hK rfl hl.1 rfl (Nat.le_of_ble_eq_true rfl) dLaw_532 ⟨by rw [hR1]; omega, by rw [hR2]; omega⟩ (fun r52 H locs hr52 hW => ?_)
  refine lv_pop hx hb dLaw_535 rfl ?_
  refine lv_goto (tgt := 2004) hx hb dLaw_536 (by decide) ?_
  exact W.widen (k := cells + 18) (n := slots + 441) (by omega) (by omega) (kk _ _ _ _ _ X0 hW hT)
set_option maxHeartbeats 4000000 in
set_option maxRecDepth 100000 in
theorem law_c7 {p : Program} {e : Env} {s : State} {m : MethodId} {below : List Frame} {meth : Method} {c : Code} {l : Launch} {b L : Nat} {xs : Nat → Int32} (C0 : lw_At p s m meth c b L xs) {E : Nat → Nat} {D : va_G} {adK adV : Nat → Nat} (X0 : LCx E D adK adV s) {xa ma i : Nat} (hi : i + 7 ≤ L) (hL : L ≤ 3584) {Gc Gm : th_G} {nn : Nat} {H : Heap} {locs : List Loc} (hW : LWs E D s xa ma Gc Gm nn H locs) (hT : TI E Gc xa nn) (hU : UQ Gm 1 ∧ UQ Gm 2 ∧ UQ Gm 11 ∧ UQ Gm 4 ∧ UQ Gm 10) {cells slots : Nat} (hc1 : cells + 18 ≤ 600000) (hc2 : slots + 441 ≤ 7302250) {ls : Array Slot} (hl : lv_has ls 4 [(3, .int (nI i)), (2, .ref ma), (1, .ref xa), (0, .ref b)]) (kk : ∀ (E : Nat → Nat) (Gc : th_G) (nn : Nat) (H : Heap) (locs : List Loc), LCx E D adK adV s → LWs E D s xa ma Gc Gm nn H locs → TI E Gc xa nn → W p l e room_1 s m #[Value.ref b] below meth c H locs (cells + 18) (slots + 441) (lw_Z below #[Value.ref b] s) (F0 m 2004 ls [])) : W p l e room_1 s m #[Value.ref b] below meth c H locs cells slots (lw_Z below #[Value.ref b] s) (F0 m 539 ls []) := by
  obtain ⟨hx, hb, hr, hml, hown, hts0, hX, hbl, hlocks, hgv⟩ := id C0
  obtain ⟨hN, hK, hWS, hCL, hAO⟩ := id X0
  have hbA : ¬ LWa s b := Nat.not_le.mpr hbl
  have hts := lw_tb (w := Cond.initialized RX12) wd_13 hts0
  have hR1 : room_1.cells = 600000 := rfl
  have hR2 : room_1.slots = 7302250 := rfl
  have ti : (nI i).toInt = (i : Int) := nI_toInt (by omega)
  refine lv_aload_n hx hb dLaw_539 rfl (lv_at hl 2 rfl) ?_
  refine lv_aload_n hx hb dLaw_540 rfl (lv_at hl 3 rfl) ?_
  refine lv_iload_n hx hb dLaw_541 rfl (lv_at hl 0 rfl) ?_
  refine lv_iconst (v := 1) hx hb dLaw_542 (by decide) ?_
  refine lv_iadd hx hb dLaw_543 ?_
  refine lv_topi (fun z53 ez53 => ?_)
  have tz53 := iv_add (Y := 1) ti (by decide) ez53 (by omega) (by omega)
  refine va_sld hx hb hX hbl hbA hW.2.2.2.2.2.2.2 (iv_in (X := (i : Int) + 1) (by omega) (by omega) (by omega)) dLaw_544 ?_
  rw [show z53.toNatClampNeg = i + 1 from by show z53.toInt.toNat = _; omega]
  refine lv_aload_n hx hb dLaw_545 rfl (lv_at hl 3 rfl) ?_
  refine lv_iload_n hx hb dLaw_546 rfl (lv_at hl 0 rfl) ?_
  refine lv_iconst (v := 2) hx hb dLaw_547 (by decide) ?_
  refine lv_iadd hx hb dLaw_548 ?_
  refine lv_topi (fun z54 ez54 => ?_)
  have tz54 := iv_add (Y := 2) ti (by decide) ez54 (by omega) (by omega)
  refine va_sld hx hb hX hbl hbA hW.2.2.2.2.2.2.2 (iv_in (X := (i : Int) + 2) (by omega) (by omega) (by omega)) dLaw_549 ?_
  rw [show z54.toNatClampNeg = i + 2 from by show z54.toInt.toNat = _; omega]
  refine lc_i (As := [.int (xs (i + 1)), .int (xs (i + 2))]) (rest := []) (n := 2) (d := 3) ⟨hx, hb, hml, hown, hts⟩ (c_X11_terms l E D Gc xa nn hW.2.1 (xs (i + 1)) (xs (i + 2))) wd_593 wd_594 wd_595 wd_1 wd_596 (by decide +kernel) ⟨Nat.le_of_ble_eq_true rfl, Nat.le_of_ble_eq_true rfl⟩ hW hN hK rfl hl.1 rfl (Nat.le_of_ble_eq_true rfl) dLaw_550 ⟨by rw [hR1]; omega, by rw [hR2]; omega⟩ (fun r55 H locs hr55 hW => ?_)
  refine lv_pop hx hb dLaw_553 rfl ?_
  refine lv_aload_n hx hb dLaw_554 rfl (lv_at hl 1 rfl) ?_
  refine lv_aload_n hx hb dLaw_555 rfl (lv_at hl 3 rfl) ?_
  refine lv_iload_n hx hb dLaw_556 rfl (lv_at hl 0 rfl) ?_
  refine lv_iconst (v := 1) hx hb dLaw_557 (by decide) ?_
  refine lv_iadd hx hb dLaw_558 ?_
  refine lv_topi (fun z56 ez56 => ?_)
  have tz56 := iv_add (Y := 1) ti (by decide) ez56 (by omega) (by omega)
  refine va_sld hx hb hX hbl hbA hW.2.2.2.2.2.2.2 (iv_in (X := (i : Int) + 1) (by omega) (by omega) (by omega)) dLaw_559 ?_
  rw [show z56.toNatClampNeg = i + 1 from by show z56.toInt.toNat = _; omega]
  refine lv_aload_n hx hb dLaw_560 rfl (lv_at hl 3 rfl) ?_
  refine lv_iload_n hx hb dLaw_561 rfl (lv_at hl 0 rfl) ?_
  refine lv_iconst (v := 2) hx hb dLaw_562 (by decide) ?_
  refine lv_iadd hx hb dLaw_563 ?_
  refine lv_topi (fun z57 ez57 => ?_)
  have tz57 := iv_add (Y := 2) ti (by decide) ez57 (by omega) (by omega)
  refine va_sld hx hb hX hbl hbA hW.2.2.2.2.2.2.2 (iv_in (X := (i : Int) + 2) (by omega) (by omega) (by omega)) dLaw_564 ?_
  rw [show z57.toNatClampNeg = i + 2 from by show z57.toInt.toNat = _; omega]
  refine lm_i (post := fun _ => True) (As := [.int (xs (i + 1)), .int (xs (i + 2))]) (rest := []) (n := 2) (d := 1) ⟨hx, hb, hml, hown, hts⟩ (c_X12_terms l E D Gm ma hW.2.2.2.1 (xs (i + 1)) (xs (i + 2))) wd_1447 wd_1448 wd_1449 wd_13 wd_1450 (by decide +kernel) ⟨Nat.le_of_ble_eq_true rfl, Nat.le_of_ble_eq_true rfl⟩ hW hN hK rfl hl.1 rfl (Nat.le_of_ble_eq_true rfl) dLaw_565 ⟨by rw [hR1]; omega, by rw [hR2]; omega⟩ (fun r58 H locs hr58 hW => ?_)
  refine lv_pop hx hb dLaw_568 rfl ?_
  refine lv_goto (tgt := 2004) hx hb dLaw_569 (by decide) ?_
  exact W.widen (k := cells + 18) (n := slots + 441) (by omega) (by omega) (kk _ _ _ _ _ X0 hW hT)
set_option maxHeartbeats 4000000 in
set_option maxRecDepth 100000 in
theorem law_c8 {p : Program} {e : Env} {s : State} {m : MethodId} {below : List Frame} {meth : Method} {c : Code} {l : Launch} {b L : Nat} {xs : Nat → Int32} (C0 : lw_At p s m meth c b L xs) {E : Nat → Nat} {D : va_G} {adK adV : Nat → Nat} (X0 : LCx E D adK adV s) {xa ma i : Nat} (hi : i + 7 ≤ L) (hL : L ≤ 3584) {Gc Gm : th_G} {nn : Nat} {H : Heap} {locs : List Loc} (hW : LWs E D s xa ma Gc Gm nn H locs) (hT : TI E Gc xa nn) (hU : UQ Gm 1 ∧ UQ Gm 2 ∧ UQ Gm 11 ∧ UQ Gm 4 ∧ UQ Gm 10) {cells slots : Nat} (hc1 : cells + 18 ≤ 600000) (hc2 : slots + 441 ≤ 7302250) {ls : Array Slot} (hl : lv_has ls 4 [(3, .int (nI i)), (2, .ref ma), (1, .ref xa), (0, .ref b)]) (kk : ∀ (E : Nat → Nat) (Gc : th_G) (nn : Nat) (H : Heap) (locs : List Loc), LCx E D adK adV s → LWs E D s xa ma Gc Gm nn H locs → TI E Gc xa nn → W p l e room_1 s m #[Value.ref b] below meth c H locs (cells + 18) (slots + 441) (lw_Z below #[Value.ref b] s) (F0 m 2004 ls [])) : W p l e room_1 s m #[Value.ref b] below meth c H locs cells slots (lw_Z below #[Value.ref b] s) (F0 m 572 ls []) := by
  obtain ⟨hx, hb, hr, hml, hown, hts0, hX, hbl, hlocks, hgv⟩ := id C0
  obtain ⟨hN, hK, hWS, hCL, hAO⟩ := id X0
  have hbA : ¬ LWa s b := Nat.not_le.mpr hbl
  have hts := lw_tb (w := Cond.initialized RX12) wd_13 hts0
  have hR1 : room_1.cells = 600000 := rfl
  have hR2 : room_1.slots = 7302250 := rfl
  have ti : (nI i).toInt = (i : Int) := nI_toInt (by omega)
  refine lv_aload_n hx hb dLaw_572 rfl (lv_at hl 2 rfl) ?_
  refine lv_aload_n hx hb dLaw_573 rfl (lv_at hl 3 rfl) ?_
  refine lv_iload_n hx hb dLaw_574 rfl (lv_at hl 0 rfl) ?_
  refine lv_iconst (v := 1) hx hb dLaw_575 (by decide) ?_
  refine lv_iadd hx hb dLaw_576 ?_
  refine lv_topi (fun z59 ez59 => ?_)
  have tz59 := iv_add (Y := 1) ti (by decide) ez59 (by omega) (by omega)
  refine va_sld hx hb hX hbl hbA hW.2.2.2.2.2.2.2 (iv_in (X := (i : Int) + 1) (by omega) (by omega) (by omega)) dLaw_577 ?_
  rw [show z59.toNatClampNeg = i + 1 from by show z59.toInt.toNat = _; omega]
  refine lv_aload_n hx hb dLaw_578 rfl (lv_at hl 3 rfl) ?_
  refine lv_iload_n hx hb dLaw_579 rfl (lv_at hl 0 rfl) ?_
  refine lv_iconst (v := 2) hx hb dLaw_580 (by decide) ?_
  refine lv_iadd hx hb dLaw_581 ?_
  refine lv_topi (fun z60 ez60 => ?_)
  have tz60 := iv_add (Y := 2) ti (by decide) ez60 (by omega) (by omega)
  refine va_sld hx hb hX hbl hbA hW.2.2.2.2.2.2.2 (iv_in (X := (i : Int) + 2) (by omega) (by omega) (by omega)) dLaw_582 ?_
  rw [show z60.toNatClampNeg = i + 2 from by show z60.toInt.toNat = _; omega]
  refine lv_aload_n hx hb dLaw_583 rfl (lv_at hl 3 rfl) ?_
  refine lv_iload_n hx hb dLaw_584 rfl (lv_at hl 0 rfl) ?_
  refine lv_iconst (v := 3) hx hb dLaw_585 (by decide) ?_
  refine lv_iadd hx hb dLaw_586 ?_
  refine lv_topi (fun z61 ez61 => ?_)
  have tz61 := iv_add (Y := 3) ti (by decide) ez61 (by omega) (by omega)
  refine va_sld hx hb hX hbl hbA hW.2.2.2.2.2.2.2 (iv_in (X := (i : Int) + 3) (by omega) (by omega) (by omega)) dLaw_587 ?_
  rw [show z61.toNatClampNeg = i + 3 from by show z61.toInt.toNat = _; omega]
  refine lv_aload_n hx hb dLaw_588 rfl (lv_at hl 3 rfl) ?_
  refine lv_iload_n hx hb dLaw_589 rfl (lv_at hl 0 rfl) ?_
  refine lv_iconst (v := 4) hx hb dLaw_590 (by decide) ?_
  refine lv_iadd hx hb dLaw_591 ?_
  refine lv_topi (fun z62 ez62 => ?_)
  have tz62 := iv_add (Y := 4) ti (by decide) ez62 (by omega) (by omega)
  refine va_sld hx hb hX hbl hbA hW.2.2.2.2.2.2.2 (iv_in (X := (i : Int) + 4) (by omega) (by omega) (by omega)) dLaw_592 ?_
  rw [show z62.toNatClampNeg = i + 4 from by show z62.toInt.toNat = _; omega]
  refine lv_aload_n hx hb dLaw_593 rfl (lv_at hl 3 rfl) ?_
  refine lv_iload_n hx hb dLaw_594 rfl (lv_at hl 0 rfl) ?_
  refine lv_iconst (v := 5) hx hb dLaw_595 (by decide) ?_
  refine lv_iadd hx hb dLaw_596 ?_
  refine lv_topi (fun z63 ez63 => ?_)
  have tz63 := iv_add (Y := 5) ti (by decide) ez63 (by omega) (by omega)
  refine va_sld hx hb hX hbl hbA hW.2.2.2.2.2.2.2 (iv_in (X := (i : Int) + 5) (by omega) (by omega) (by omega)) dLaw_597 ?_
  rw [show z63.toNatClampNeg = i + 5 from by show z63.toInt.toNat = _; omega]
  obtain ⟨⟨sa, hTS⟩, ta, ra, hTP⟩ := id hT
  refine lc_e (As := [.int (xs (i + 1)), .int (xs (i + 2)), .int (xs (i + 3)), .int (xs (i + 4)), .int (xs (i + 5))]) (rest := []) (n := 5) (d := 1) ⟨hx, hb, hml, hown, hts⟩ (c_X11_feed l E D Gc xa nn hW.2.1 (xs (i + 1)) (xs (i + 2)) (xs (i + 3)) (xs (i + 4)) (xs (i + 5)) ta (E (1001 + 512 * xa)) hTP.1 rfl) (fun j hj => fN_ne (by omega) (by omega)) wd_597 wd_598 wd_599 wd_1 wd_600 (by decide +kernel) ⟨Nat.le_of_ble_eq_true rfl, Nat.le_of_ble_eq_true rfl⟩ hW hN hK rfl hl.1 rfl (Nat.le_of_ble_eq_true rfl) dLaw_598 ⟨by rw [hR1]; omega, by rw [hR2]; omega⟩ (fun r64 H locs E1 hE1 hr64 hW => ?_)
  have XE1 := LCx_eq (E' := E1) (fun j hj => by rw [hE1]; exact fN_ne (by omega) (by omega)) X0
  obtain ⟨hN, hK, hWS, hCL, hAO⟩ := id XE1
  refine lv_pop hx hb dLaw_601 rfl ?_
  refine lv_aload_n hx hb dLaw_602 rfl (lv_at hl 1 rfl) ?_
  refine lv_aload_n hx hb dLaw_603 rfl (lv_at hl 3 rfl) ?_
  refine lv_iload_n hx hb dLaw_604 rfl (lv_at hl 0 rfl) ?_
  refine lv_iconst (v := 1) hx hb dLaw_605 (by decide) ?_
  refine lv_iadd hx hb dLaw_606 ?_
  refine lv_topi (fun z65 ez65 => ?_)
  have tz65 := iv_add (Y := 1) ti (by decide) ez65 (by omega) (by omega)
  refine va_sld hx hb hX hbl hbA hW.2.2.2.2.2.2.2 (iv_in (X := (i : Int) + 1) (by omega) (by omega) (by omega)) dLaw_607 ?_
  rw [show z65.toNatClampNeg = i + 1 from by show z65.toInt.toNat = _; omega]
  refine lv_aload_n hx hb dLaw_608 rfl (lv_at hl 3 rfl) ?_
  refine lv_iload_n hx hb dLaw_609 rfl (lv_at hl 0 rfl) ?_
  refine lv_iconst (v := 2) hx hb dLaw_610 (by decide) ?_
  refine lv_iadd hx hb dLaw_611 ?_
  refine lv_topi (fun z66 ez66 => ?_)
  have tz66 := iv_add (Y := 2) ti (by decide) ez66 (by omega) (by omega)
  refine va_sld hx hb hX hbl hbA hW.2.2.2.2.2.2.2 (iv_in (X := (i : Int) + 2) (by omega) (by omega) (by omega)) dLaw_612 ?_
  rw [show z66.toNatClampNeg = i + 2 from by show z66.toInt.toNat = _; omega]
  refine lv_aload_n hx hb dLaw_613 rfl (lv_at hl 3 rfl) ?_
  refine lv_iload_n hx hb dLaw_614 rfl (lv_at hl 0 rfl) ?_
  refine lv_iconst (v := 3) hx hb dLaw_615 (by decide) ?_
  refine lv_iadd hx hb dLaw_616 ?_
  refine lv_topi (fun z67 ez67 => ?_)
  have tz67 := iv_add (Y := 3) ti (by decide) ez67 (by omega) (by omega)
  refine va_sld hx hb hX hbl hbA hW.2.2.2.2.2.2.2 (iv_in (X := (i : Int) + 3) (by omega) (by omega) (by omega)) dLaw_617 ?_
  rw [show z67.toNatClampNeg = i + 3 from by show z67.toInt.toNat = _; omega]
  refine lv_aload_n hx hb dLaw_618 rfl (lv_at hl 3 rfl) ?_
  refine lv_iload_n hx hb dLaw_619 rfl (lv_at hl 0 rfl) ?_
  refine lv_iconst (v := 4) hx hb dLaw_620 (by decide) ?_
  refine lv_iadd hx hb dLaw_621 ?_
  refine lv_topi (fun z68 ez68 => ?_)
  have tz68 := iv_add (Y := 4) ti (by decide) ez68 (by omega) (by omega)
  refine va_sld hx hb hX hbl hbA hW.2.2.2.2.2.2.2 (iv_in (X := (i : Int) + 4) (by omega) (by omega) (by omega)) dLaw_622 ?_
  rw [show z68.toNatClampNeg = i + 4 from by show z68.toInt.toNat = _; omega]
  refine lv_aload_n hx hb dLaw_623 rfl (lv_at hl 3 rfl) ?_
  refine lv_iload_n hx hb dLaw_624 rfl (lv_at hl 0 rfl) ?_
  refine lv_iconst (v := 5) hx hb dLaw_625 (by decide) ?_
  refine lv_iadd hx hb dLaw_626 ?_
  refine lv_topi (fun z69 ez69 => ?_)
  have tz69 := iv_add (Y := 5) ti (by decide) ez69 (by omega) (by omega)
  refine va_sld hx hb hX hbl hbA hW.2.2.2.2.2.2.2 (iv_in (X := (i : Int) + 5) (by omega) (by omega) (by omega)) dLaw_627 ?_
  rw [show z69.toNatClampNeg = i + 5 from by show z69.toInt.toNat = _; omega]
  refine lm_e (As := [.int (xs (i + 1)), .int (xs (i + 2)), .int (xs (i + 3)), .int (xs (i + 4)), .int (xs (i + 5))]) (rest := []) (n := 5) (d := 0) ⟨hx, hb, hml, hown, hts⟩ (c_X12_feed l E1 D Gm ma hW.2.2.2.1 (xs (i + 1)) (xs (i + 2)) (xs (i + 3)) (xs (i + 4)) (xs (i + 5)) hU.2.2.2.1 hU.2.2.2.2) (fun j hj => fN_ne (by omega) (by omega)) wd_1552 wd_1553 wd_1554 wd_13 wd_1555 (by decide +kernel) ⟨Nat.le_of_ble_eq_true rfl, Nat.le_of_ble_eq_true rfl⟩ hW hN hK rfl hl.1 rfl (Nat.le_of_ble_eq_true rfl) dLaw_628 ⟨by rw [hR1]; omega, by rw [hR2]; omega⟩ (fun r70 H locs E2 hE2 hr70 hW => ?_)
  have XE2 := LCx_eq (E' := E2) (fun j hj => by rw [hE2]; exact fN_ne (by omega) (by omega)) XE1
  obtain ⟨hN, hK, hWS, hCL, hAO⟩ := id XE2
  have h15 : E1 15 = E (1001 + 512 * xa) := by rw [hE1, fN_ne (by omega) (by omega)]; exact hTP.2.2.2.1.symm
  have hT : TI E2 Gc xa nn := by rw [hE2, hE1]; exact TI_feed ⟨sa, hTS⟩ hTP
  refine lv_pop hx hb dLaw_631 rfl ?_
  refine lv_goto (tgt := 2004) hx hb dLaw_632 (by decide) ?_
  exact W.widen (k := cells + 18) (n := slots + 441) (by omega) (by omega) (kk _ _ _ _ _ XE2 hW hT)
set_option maxHeartbeats 4000000 in
set_option maxRecDepth 100000 in
theorem law_c9 {p : Program} {e : Env} {s : State} {m : MethodId} {below : List Frame} {meth : Method} {c : Code} {l : Launch} {b L : Nat} {xs : Nat → Int32} (C0 : lw_At p s m meth c b L xs) {E : Nat → Nat} {D : va_G} {adK adV : Nat → Nat} (X0 : LCx E D adK adV s) {xa ma i : Nat} (hi : i + 7 ≤ L) (hL : L ≤ 3584) {Gc Gm : th_G} {nn : Nat} {H : Heap} {locs : List Loc} (hW : LWs E D s xa ma Gc Gm nn H locs) (hT : TI E Gc xa nn) (hU : UQ Gm 1 ∧ UQ Gm 2 ∧ UQ Gm 11 ∧ UQ Gm 4 ∧ UQ Gm 10) {cells slots : Nat} (hc1 : cells + 18 ≤ 600000) (hc2 : slots + 441 ≤ 7302250) {ls : Array Slot} (hl : lv_has ls 4 [(3, .int (nI i)), (2, .ref ma), (1, .ref xa), (0, .ref b)]) (kk : ∀ (E : Nat → Nat) (Gc : th_G) (nn : Nat) (H : Heap) (locs : List Loc), LCx E D adK adV s → LWs E D s xa ma Gc Gm nn H locs → TI E Gc xa nn → W p l e room_1 s m #[Value.ref b] below meth c H locs (cells + 18) (slots + 441) (lw_Z below #[Value.ref b] s) (F0 m 2004 ls [])) : W p l e room_1 s m #[Value.ref b] below meth c H locs cells slots (lw_Z below #[Value.ref b] s) (F0 m 635 ls []) := by
  obtain ⟨hx, hb, hr, hml, hown, hts0, hX, hbl, hlocks, hgv⟩ := id C0
  obtain ⟨hN, hK, hWS, hCL, hAO⟩ := id X0
  have hbA : ¬ LWa s b := Nat.not_le.mpr hbl
  have hts := lw_tb (w := Cond.initialized RX12) wd_13 hts0
  have hR1 : room_1.cells = 600000 := rfl
  have hR2 : room_1.slots = 7302250 := rfl
  have ti : (nI i).toInt = (i : Int) := nI_toInt (by omega)
  refine lv_aload_n hx hb dLaw_635 rfl (lv_at hl 2 rfl) ?_
  refine lv_aload_n hx hb dLaw_636 rfl (lv_at hl 3 rfl) ?_
  refine lv_iload_n hx hb dLaw_637 rfl (lv_at hl 0 rfl) ?_
  refine lv_iconst (v := 1) hx hb dLaw_638 (by decide) ?_
  refine lv_iadd hx hb dLaw_639 ?_
  refine lv_topi (fun z71 ez71 => ?_)
  have tz71 := iv_add (Y := 1) ti (by decide) ez71 (by omega) (by omega)
  refine va_sld hx hb hX hbl hbA hW.2.2.2.2.2.2.2 (iv_in (X := (i : Int) + 1) (by omega) (by omega) (by omega)) dLaw_640 ?_
  rw [show z71.toNatClampNeg = i + 1 from by show z71.toInt.toNat = _; omega]
  obtain ⟨⟨sa, hTS⟩, ta, ra, hTP⟩ := id hT
  refine lc_e (As := [.int (xs (i + 1))]) (rest := []) (n := 1) (d := 0) ⟨hx, hb, hml, hown, hts⟩ (c_X11_end l E D Gc xa nn hW.2.1 (xs (i + 1)) ) (fun j hj => eu_ne (by omega)) wd_605 wd_606 wd_607 wd_1 wd_608 (by decide +kernel) ⟨Nat.le_of_ble_eq_true rfl, Nat.le_of_ble_eq_true rfl⟩ hW hN hK rfl hl.1 rfl (Nat.le_of_ble_eq_true rfl) dLaw_641 ⟨by rw [hR1]; omega, by rw [hR2]; omega⟩ (fun r72 H locs E1 hE1 hr72 hW => ?_)
  have XE1 := LCx_eq (E' := E1) (fun j hj => by rw [hE1]; exact eu_ne (by omega)) X0
  obtain ⟨hN, hK, hWS, hCL, hAO⟩ := id XE1
  refine lv_pop hx hb dLaw_644 rfl ?_
  refine lv_aload_n hx hb dLaw_645 rfl (lv_at hl 1 rfl) ?_
  refine lv_aload_n hx hb dLaw_646 rfl (lv_at hl 3 rfl) ?_
  refine lv_iload_n hx hb dLaw_647 rfl (lv_at hl 0 rfl) ?_
  refine lv_iconst (v := 1) hx hb dLaw_648 (by decide) ?_
  refine lv_iadd hx hb dLaw_649 ?_
  refine lv_topi (fun z73 ez73 => ?_)
  have tz73 := iv_add (Y := 1) ti (by decide) ez73 (by omega) (by omega)
  refine va_sld hx hb hX hbl hbA hW.2.2.2.2.2.2.2 (iv_in (X := (i : Int) + 1) (by omega) (by omega) (by omega)) dLaw_650 ?_
  rw [show z73.toNatClampNeg = i + 1 from by show z73.toInt.toNat = _; omega]
  refine lm_e (As := [.int (xs (i + 1))]) (rest := []) (n := 1) (d := 1) ⟨hx, hb, hml, hown, hts⟩ (c_X12_end l E1 D Gm ma hW.2.2.2.1 (xs (i + 1)) hU.2.2.2.2) (fun j hj => eu_ne (by omega)) wd_1556 wd_1557 wd_1558 wd_13 wd_1559 (by decide +kernel) ⟨Nat.le_of_ble_eq_true rfl, Nat.le_of_ble_eq_true rfl⟩ hW hN hK rfl hl.1 rfl (Nat.le_of_ble_eq_true rfl) dLaw_651 ⟨by rw [hR1]; omega, by rw [hR2]; omega⟩ (fun r74 H locs E2 hE2 hr74 hW => ?_)
  have XE2 := LCx_eq (E' := E2) (fun j hj => by rw [hE2]; exact eu_ne (by omega)) XE1
  obtain ⟨hN, hK, hWS, hCL, hAO⟩ := id XE2
  have h15 : E1 15 = E (1001 + 512 * xa) := by rw [hE1, eu_ne (by omega)]; exact hTP.2.2.2.1.symm
  have hT : TI E2 Gc xa nn := by rw [hE2, h15, hE1]; exact TI_size ⟨sa, hTS⟩ hTP
  refine lv_pop hx hb dLaw_654 rfl ?_
  refine lv_goto (tgt := 2004) hx hb dLaw_655 (by decide) ?_
  exact W.widen (k := cells + 18) (n := slots + 441) (by omega) (by omega) (kk _ _ _ _ _ XE2 hW hT)
