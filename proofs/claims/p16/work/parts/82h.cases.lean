set_option maxHeartbeats 4000000 in
set_option maxRecDepth 100000 in
theorem law_c35 {p : Program} {e : Env} {s : State} {m : MethodId} {below : List Frame} {meth : Method} {c : Code} {l : Launch} {b L : Nat} {xs : Nat → Int32} (C0 : lw_At p s m meth c b L xs) {E : Nat → Nat} {D : va_G} {adK adV : Nat → Nat} (X0 : LCx E D adK adV s) {xa ma i : Nat} (hi : i + 7 ≤ L) (hL : L ≤ 3584) {Gc Gm : th_G} {nn : Nat} {H : Heap} {locs : List Loc} (hW : LWs E D s xa ma Gc Gm nn H locs) (hT : TI E Gc xa nn) (hU : UQ Gm 1 ∧ UQ Gm 2 ∧ UQ Gm 11 ∧ UQ Gm 4 ∧ UQ Gm 10) {cells slots : Nat} (hc1 : cells + 18 ≤ 600000) (hc2 : slots + 441 ≤ 7302250) {ls : Array Slot} (hl : lv_has ls 4 [(3, .int (nI i)), (2, .ref ma), (1, .ref xa), (0, .ref b)]) (kk : ∀ (E : Nat → Nat) (Gc : th_G) (nn : Nat) (H : Heap) (locs : List Loc), LCx E D adK adV s → LWs E D s xa ma Gc Gm nn H locs → TI E Gc xa nn → W p l e room_1 s m #[Value.ref b] below meth c H locs (cells + 18) (slots + 441) (lw_Z below #[Value.ref b] s) (F0 m 2004 ls [])) : W p l e room_1 s m #[Value.ref b] below meth c H locs cells slots (lw_Z below #[Value.ref b] s) (F0 m 1503 ls []) := by
  obtain ⟨hx, hb, hr, hml, hown, hts0, hX, hbl, hlocks, hgv⟩ := id C0
  obtain ⟨hN, hK, hWS, hCL, hAO⟩ := id X0
  have hbA : ¬ LWa s b := Nat.not_le.mpr hbl
  have hts := lw_tb (w := Cond.initialized RX12) wd_13 hts0
  have hR1 : room_1.cells = 600000 := rfl
  have hR2 : room_1.slots = 7302250 := rfl
  have ti : (nI i).toInt = (i : Int) := nI_toInt (by omega)
  refine lv_aload_n hx hb dLaw_1503 rfl (lv_at hl 2 rfl) ?_
  refine lv_aload_n hx hb dLaw_1504 rfl (lv_at hl 3 rfl) ?_
  refine lv_iload_n hx hb dLaw_1505 rfl (lv_at hl 0 rfl) ?_
  refine lv_iconst (v := 1) hx hb dLaw_1506 (by decide) ?_
  refine lv_iadd hx hb dLaw_1507 ?_
  refine lv_topi (fun z229 ez229 => ?_)
  have tz229 := iv_add (Y := 1) ti (by decide) ez229 (by omega) (by omega)
  refine va_sld hx hb hX hbl hbA hW.2.2.2.2.2.2.2 (iv_in (X := (i : Int) + 1) (by omega) (by omega) (by omega)) dLaw_1508 ?_
  rw [show z229.toNatClampNeg = i + 1 from by show z229.toInt.toNat = _; omega]
  refine lv_aload_n hx hb dLaw_1509 rfl (lv_at hl 3 rfl) ?_
  refine lv_iload_n hx hb dLaw_1510 rfl (lv_at hl 0 rfl) ?_
  refine lv_iconst (v := 2) hx hb dLaw_1511 (by decide) ?_
  refine lv_iadd hx hb dLaw_1512 ?_
  refine lv_topi (fun z230 ez230 => ?_)
  have tz230 := iv_add (Y := 2) ti (by decide) ez230 (by omega) (by omega)
  refine va_sld hx hb hX hbl hbA hW.2.2.2.2.2.2.2 (iv_in (X := (i : Int) + 2) (by omega) (by omega) (by omega)) dLaw_1513 ?_
  rw [show z230.toNatClampNeg = i + 2 from by show z230.toInt.toNat = _; omega]
  refine lv_aload_n hx hb dLaw_1514 rfl (lv_at hl 3 rfl) ?_
  refine lv_iload_n hx hb dLaw_1515 rfl (lv_at hl 0 rfl) ?_
  refine lv_iconst (v := 3) hx hb dLaw_1516 (by decide) ?_
  refine lv_iadd hx hb dLaw_1517 ?_
  refine lv_topi (fun z231 ez231 => ?_)
  have tz231 := iv_add (Y := 3) ti (by decide) ez231 (by omega) (by omega)
  refine va_sld hx hb hX hbl hbA hW.2.2.2.2.2.2.2 (iv_in (X := (i : Int) + 3) (by omega) (by omega) (by omega)) dLaw_1518 ?_
  rw [show z231.toNatClampNeg = i + 3 from by show z231.toInt.toNat = _; omega]
  refine lc_i (As := [.int (xs (i + 1)), .int (xs (i + 2)), .int (xs (i + 3))]) (rest := []) (n := 3) (d := 2) ⟨hx, hb, hml, hown, hts⟩ (c_X11_job l E D Gc xa nn hW.2.1 (xs (i + 1)) (xs (i + 2)) (xs (i + 3))) wd_1042 wd_1043 wd_1044 wd_1 wd_1045 (by decide +kernel) ⟨Nat.le_of_ble_eq_true rfl, Nat.le_of_ble_eq_true rfl⟩ hW hN hK rfl hl.1 rfl (Nat.le_of_ble_eq_true rfl) dLaw_1519 ⟨by rw [hR1]; omega, by rw [hR2]; omega⟩ (fun r232 H locs hr232 hW => ?_)
  refine lv_pop hx hb dLaw_1522 rfl ?_
  refine lv_aload_n hx hb dLaw_1523 rfl (lv_at hl 1 rfl) ?_
  refine lv_aload_n hx hb dLaw_1524 rfl (lv_at hl 3 rfl) ?_
  refine lv_iload_n hx hb dLaw_1525 rfl (lv_at hl 0 rfl) ?_
  refine lv_iconst (v := 1) hx hb dLaw_1526 (by decide) ?_
  refine lv_iadd hx hb dLaw_1527 ?_
  refine lv_topi (fun z233 ez233 => ?_)
  have tz233 := iv_add (Y := 1) ti (by decide) ez233 (by omega) (by omega)
  refine va_sld hx hb hX hbl hbA hW.2.2.2.2.2.2.2 (iv_in (X := (i : Int) + 1) (by omega) (by omega) (by omega)) dLaw_1528 ?_
  rw [show z233.toNatClampNeg = i + 1 from by show z233.toInt.toNat = _; omega]
  refine lv_aload_n hx hb dLaw_1529 rfl (lv_at hl 3 rfl) ?_
  refine lv_iload_n hx hb dLaw_1530 rfl (lv_at hl 0 rfl) ?_
  refine lv_iconst (v := 2) hx hb dLaw_1531 (by decide) ?_
  refine lv_iadd hx hb dLaw_1532 ?_
  refine lv_topi (fun z234 ez234 => ?_)
  have tz234 := iv_add (Y := 2) ti (by decide) ez234 (by omega) (by omega)
  refine va_sld hx hb hX hbl hbA hW.2.2.2.2.2.2.2 (iv_in (X := (i : Int) + 2) (by omega) (by omega) (by omega)) dLaw_1533 ?_
  rw [show z234.toNatClampNeg = i + 2 from by show z234.toInt.toNat = _; omega]
  refine lv_aload_n hx hb dLaw_1534 rfl (lv_at hl 3 rfl) ?_
  refine lv_iload_n hx hb dLaw_1535 rfl (lv_at hl 0 rfl) ?_
  refine lv_iconst (v := 3) hx hb dLaw_1536 (by decide) ?_
  refine lv_iadd hx hb dLaw_1537 ?_
  refine lv_topi (fun z235 ez235 => ?_)
  have tz235 := iv_add (Y := 3) ti (by decide) ez235 (by omega) (by omega)
  refine va_sld hx hb hX hbl hbA hW.2.2.2.2.2.2.2 (iv_in (X := (i : Int) + 3) (by omega) (by omega) (by omega)) dLaw_1538 ?_
  rw [show z235.toNatClampNeg = i + 3 from by show z235.toInt.toNat = _; omega]
  refine lm_i (post := fun _ => True) (As := [.int (xs (i + 1)), .int (xs (i + 2)), .int (xs (i + 3))]) (rest := []) (n := 3) (d := 2) ⟨hx, hb, hml, hown, hts⟩ (c_X12_job l E D Gm ma hW.2.2.2.1 (xs (i + 1)) (xs (i + 2)) (xs (i + 3))) wd_1773 wd_1774 wd_1775 wd_13 wd_1776 (by decide +kernel) ⟨Nat.le_of_ble_eq_true rfl, Nat.le_of_ble_eq_true rfl⟩ hW hN hK rfl hl.1 rfl (Nat.le_of_ble_eq_true rfl) dLaw_1539 ⟨by rw [hR1]; omega, by rw [hR2]; omega⟩ (fun r236 H locs hr236 hW => ?_)
  refine lv_pop hx hb dLaw_1542 rfl ?_
  refine lv_goto (tgt := 2004) hx hb dLaw_1543 (by decide) ?_
  exact W.widen (k := cells + 18) (n := slots + 441) (by omega) (by omega) (kk _ _ _ _ _ X0 hW hT)
set_option maxHeartbeats 4000000 in
set_option maxRecDepth 100000 in
theorem law_c36 {p : Program} {e : Env} {s : State} {m : MethodId} {below : List Frame} {meth : Method} {c : Code} {l : Launch} {b L : Nat} {xs : Nat → Int32} (C0 : lw_At p s m meth c b L xs) {E : Nat → Nat} {D : va_G} {adK adV : Nat → Nat} (X0 : LCx E D adK adV s) {xa ma i : Nat} (hi : i + 7 ≤ L) (hL : L ≤ 3584) {Gc Gm : th_G} {nn : Nat} {H : Heap} {locs : List Loc} (hW : LWs E D s xa ma Gc Gm nn H locs) (hT : TI E Gc xa nn) (hU : UQ Gm 1 ∧ UQ Gm 2 ∧ UQ Gm 11 ∧ UQ Gm 4 ∧ UQ Gm 10) {cells slots : Nat} (hc1 : cells + 18 ≤ 600000) (hc2 : slots + 441 ≤ 7302250) {ls : Array Slot} (hl : lv_has ls 4 [(3, .int (nI i)), (2, .ref ma), (1, .ref xa), (0, .ref b)]) (kk : ∀ (E : Nat → Nat) (Gc : th_G) (nn : Nat) (H : Heap) (locs : List Loc), LCx E D adK adV s → LWs E D s xa ma Gc Gm nn H locs → TI E Gc xa nn → W p l e room_1 s m #[Value.ref b] below meth c H locs (cells + 18) (slots + 441) (lw_Z below #[Value.ref b] s) (F0 m 2004 ls [])) : W p l e room_1 s m #[Value.ref b] below meth c H locs cells slots (lw_Z below #[Value.ref b] s) (F0 m 1546 ls []) := by
  obtain ⟨hx, hb, hr, hml, hown, hts0, hX, hbl, hlocks, hgv⟩ := id C0
  obtain ⟨hN, hK, hWS, hCL, hAO⟩ := id X0
  have hbA : ¬ LWa s b := Nat.not_le.mpr hbl
  have hts := lw_tb (w := Cond.initialized RX12) wd_13 hts0
  have hR1 : room_1.cells = 600000 := rfl
  have hR2 : room_1.slots = 7302250 := rfl
  have ti : (nI i).toInt = (i : Int) := nI_toInt (by omega)
  refine lv_aload_n hx hb dLaw_1546 rfl (lv_at hl 2 rfl) ?_
  refine lc_i (As := []) (rest := []) (n := 0) (d := 2) ⟨hx, hb, hml, hown, hts⟩ (c_X11_hang l E D Gc xa nn hW.2.1 ) wd_1046 wd_1047 wd_1048 wd_1 wd_1049 (by decide +kernel) ⟨Nat.le_of_ble_eq_true rfl, Nat.le_of_ble_eq_true rfl⟩ hW hN hK rfl hl.1 rfl (Nat.le_of_ble_eq_true rfl) dLaw_1547 ⟨by rw [hR1]; omega, by rw [hR2]; omega⟩ (fun r237 H locs hr237 hW => ?_)
  refine lv_pop hx hb dLaw_1550 rfl ?_
  refine lv_aload_n hx hb dLaw_1551 rfl (lv_at hl 1 rfl) ?_
  refine lm_i (post := fun _ => True) (As := []) (rest := []) (n := 0) (d := 1) ⟨hx, hb, hml, hown, hts⟩ (c_X12_hang l E D Gm ma hW.2.2.2.1 ) wd_1777 wd_1778 wd_1779 wd_13 wd_1780 (by decide +kernel) ⟨Nat.le_of_ble_eq_true rfl, Nat.le_of_ble_eq_true rfl⟩ hW hN hK rfl hl.1 rfl (Nat.le_of_ble_eq_true rfl) dLaw_1552 ⟨by rw [hR1]; omega, by rw [hR2]; omega⟩ (fun r238 H locs hr238 hW => ?_)
  refine lv_pop hx hb dLaw_1555 rfl ?_
  refine lv_goto (tgt := 2004) hx hb dLaw_1556 (by decide) ?_
  exact W.widen (k := cells + 18) (n := slots + 441) (by omega) (by omega) (kk _ _ _ _ _ X0 hW hT)
set_option maxHeartbeats 4000000 in
set_option maxRecDepth 100000 in
theorem law_c37 {p : Program} {e : Env} {s : State} {m : MethodId} {below : List Frame} {meth : Method} {c : Code} {l : Launch} {b L : Nat} {xs : Nat → Int32} (C0 : lw_At p s m meth c b L xs) {E : Nat → Nat} {D : va_G} {adK adV : Nat → Nat} (X0 : LCx E D adK adV s) {xa ma i : Nat} (hi : i + 7 ≤ L) (hL : L ≤ 3584) {Gc Gm : th_G} {nn : Nat} {H : Heap} {locs : List Loc} (hW : LWs E D s xa ma Gc Gm nn H locs) (hT : TI E Gc xa nn) (hU : UQ Gm 1 ∧ UQ Gm 2 ∧ UQ Gm 11 ∧ UQ Gm 4 ∧ UQ Gm 10) {cells slots : Nat} (hc1 : cells + 18 ≤ 600000) (hc2 : slots + 441 ≤ 7302250) {ls : Array Slot} (hl : lv_has ls 4 [(3, .int (nI i)), (2, .ref ma), (1, .ref xa), (0, .ref b)]) (kk : ∀ (E : Nat → Nat) (Gc : th_G) (nn : Nat) (H : Heap) (locs : List Loc), LCx E D adK adV s → LWs E D s xa ma Gc Gm nn H locs → TI E Gc xa nn → W p l e room_1 s m #[Value.ref b] below meth c H locs (cells + 18) (slots + 441) (lw_Z below #[Value.ref b] s) (F0 m 2004 ls [])) : W p l e room_1 s m #[Value.ref b] below meth c H locs cells slots (lw_Z below #[Value.ref b] s) (F0 m 1559 ls []) := by
  obtain ⟨hx, hb, hr, hml, hown, hts0, hX, hbl, hlocks, hgv⟩ := id C0
  obtain ⟨hN, hK, hWS, hCL, hAO⟩ := id X0
  have hbA : ¬ LWa s b := Nat.not_le.mpr hbl
  have hts := lw_tb (w := Cond.initialized RX12) wd_13 hts0
  have hR1 : room_1.cells = 600000 := rfl
  have hR2 : room_1.slots = 7302250 := rfl
  have ti : (nI i).toInt = (i : Int) := nI_toInt (by omega)
  refine lv_aload_n hx hb dLaw_1559 rfl (lv_at hl 2 rfl) ?_
  refine lv_aload_n hx hb dLaw_1560 rfl (lv_at hl 3 rfl) ?_
  refine lv_iload_n hx hb dLaw_1561 rfl (lv_at hl 0 rfl) ?_
  refine lv_iconst (v := 1) hx hb dLaw_1562 (by decide) ?_
  refine lv_iadd hx hb dLaw_1563 ?_
  refine lv_topi (fun z239 ez239 => ?_)
  have tz239 := iv_add (Y := 1) ti (by decide) ez239 (by omega) (by omega)
  refine va_sld hx hb hX hbl hbA hW.2.2.2.2.2.2.2 (iv_in (X := (i : Int) + 1) (by omega) (by omega) (by omega)) dLaw_1564 ?_
  rw [show z239.toNatClampNeg = i + 1 from by show z239.toInt.toNat = _; omega]
  refine lc_i (As := [.int (xs (i + 1))]) (rest := []) (n := 1) (d := 11) ⟨hx, hb, hml, hown, hts⟩ (c_X11_laundry l E D Gc xa nn hW.2.1 (xs (i + 1))) wd_1050 wd_1051 wd_1052 wd_1 wd_1053 (by decide +kernel) ⟨Nat.le_of_ble_eq_true rfl, Nat.le_of_ble_eq_true rfl⟩ hW hN hK rfl hl.1 rfl (Nat.le_of_ble_eq_true rfl) dLaw_1565 ⟨by rw [hR1]; omega, by rw [hR2]; omega⟩ (fun r240 H locs hr240 hW => ?_)
  refine lv_pop hx hb dLaw_1568 rfl ?_
  refine lv_aload_n hx hb dLaw_1569 rfl (lv_at hl 1 rfl) ?_
  refine lv_aload_n hx hb dLaw_1570 rfl (lv_at hl 3 rfl) ?_
  refine lv_iload_n hx hb dLaw_1571 rfl (lv_at hl 0 rfl) ?_
  refine lv_iconst (v := 1) hx hb dLaw_1572 (by decide) ?_
  refine lv_iadd hx hb dLaw_1573 ?_
  refine lv_topi (fun z241 ez241 => ?_)
  have tz241 := iv_add (Y := 1) ti (by decide) ez241 (by omega) (by omega)
  refine va_sld hx hb hX hbl hbA hW.2.2.2.2.2.2.2 (iv_in (X := (i : Int) + 1) (by omega) (by omega) (by omega)) dLaw_1574 ?_
  rw [show z241.toNatClampNeg = i + 1 from by show z241.toInt.toNat = _; omega]
  refine lm_i (post := fun _ => True) (As := [.int (xs (i + 1))]) (rest := []) (n := 1) (d := 69) ⟨hx, hb, hml, hown, hts⟩ (c_X12_laundry l E D Gm ma hW.2.2.2.1 (xs (i + 1))) wd_1781 wd_1782 wd_1783 wd_13 wd_1784 (by decide +kernel) ⟨Nat.le_of_ble_eq_true rfl, Nat.le_of_ble_eq_true rfl⟩ hW hN hK rfl hl.1 rfl (Nat.le_of_ble_eq_true rfl) dLaw_1575 ⟨by rw [hR1]; omega, by rw [hR2]; omega⟩ (fun r242 H locs hr242 hW => ?_)
  refine lv_pop hx hb dLaw_1578 rfl ?_
  refine lv_goto (tgt := 2004) hx hb dLaw_1579 (by decide) ?_
  exact W.widen (k := cells + 18) (n := slots + 441) (by omega) (by omega) (kk _ _ _ _ _ X0 hW hT)
set_option maxHeartbeats 4000000 in
set_option maxRecDepth 100000 in
theorem law_c38 {p : Program} {e : Env} {s : State} {m : MethodId} {below : List Frame} {meth : Method} {c : Code} {l : Launch} {b L : Nat} {xs : Nat → Int32} (C0 : lw_At p s m meth c b L xs) {E : Nat → Nat} {D : va_G} {adK adV : Nat → Nat} (X0 : LCx E D adK adV s) {xa ma i : Nat} (hi : i + 7 ≤ L) (hL : L ≤ 3584) {Gc Gm : th_G} {nn : Nat} {H : Heap} {locs : List Loc} (hW : LWs E D s xa ma Gc Gm nn H locs) (hT : TI E Gc xa nn) (hU : UQ Gm 1 ∧ UQ Gm 2 ∧ UQ Gm 11 ∧ UQ Gm 4 ∧ UQ Gm 10) {cells slots : Nat} (hc1 : cells + 18 ≤ 600000) (hc2 : slots + 441 ≤ 7302250) {ls : Array Slot} (hl : lv_has ls 4 [(3, .int (nI i)), (2, .ref ma), (1, .ref xa), (0, .ref b)]) (kk : ∀ (E : Nat → Nat) (Gc : th_G) (nn : Nat) (H : Heap) (locs : List Loc), LCx E D adK adV s → LWs E D s xa ma Gc Gm nn H locs → TI E Gc xa nn → W p l e room_1 s m #[Value.ref b] below meth c H locs (cells + 18) (slots + 441) (lw_Z below #[Value.ref b] s) (F0 m 2004 ls [])) : W p l e room_1 s m #[Value.ref b] below meth c H locs cells slots (lw_Z below #[Value.ref b] s) (F0 m 1582 ls []) := by
  obtain ⟨hx, hb, hr, hml, hown, hts0, hX, hbl, hlocks, hgv⟩ := id C0
  obtain ⟨hN, hK, hWS, hCL, hAO⟩ := id X0
  have hbA : ¬ LWa s b := Nat.not_le.mpr hbl
  have hts := lw_tb (w := Cond.initialized RX12) wd_13 hts0
  have hR1 : room_1.cells = 600000 := rfl
  have hR2 : room_1.slots = 7302250 := rfl
  have ti : (nI i).toInt = (i : Int) := nI_toInt (by omega)
  refine lv_aload_n hx hb dLaw_1582 rfl (lv_at hl 2 rfl) ?_
  refine lv_aload_n hx hb dLaw_1583 rfl (lv_at hl 3 rfl) ?_
  refine lv_iload_n hx hb dLaw_1584 rfl (lv_at hl 0 rfl) ?_
  refine lv_iconst (v := 1) hx hb dLaw_1585 (by decide) ?_
  refine lv_iadd hx hb dLaw_1586 ?_
  refine lv_topi (fun z243 ez243 => ?_)
  have tz243 := iv_add (Y := 1) ti (by decide) ez243 (by omega) (by omega)
  refine va_sld hx hb hX hbl hbA hW.2.2.2.2.2.2.2 (iv_in (X := (i : Int) + 1) (by omega) (by omega) (by omega)) dLaw_1587 ?_
  rw [show z243.toNatClampNeg = i + 1 from by show z243.toInt.toNat = _; omega]
  refine lv_aload_n hx hb dLaw_1588 rfl (lv_at hl 3 rfl) ?_
  refine lv_iload_n hx hb dLaw_1589 rfl (lv_at hl 0 rfl) ?_
  refine lv_iconst (v := 2) hx hb dLaw_1590 (by decide) ?_
  refine lv_iadd hx hb dLaw_1591 ?_
  refine lv_topi (fun z244 ez244 => ?_)
  have tz244 := iv_add (Y := 2) ti (by decide) ez244 (by omega) (by omega)
  refine va_sld hx hb hX hbl hbA hW.2.2.2.2.2.2.2 (iv_in (X := (i : Int) + 2) (by omega) (by omega) (by omega)) dLaw_1592 ?_
  rw [show z244.toNatClampNeg = i + 2 from by show z244.toInt.toNat = _; omega]
  refine lv_aload_n hx hb dLaw_1593 rfl (lv_at hl 3 rfl) ?_
  refine lv_iload_n hx hb dLaw_1594 rfl (lv_at hl 0 rfl) ?_
  refine lv_iconst (v := 3) hx hb dLaw_1595 (by decide) ?_
  refine lv_iadd hx hb dLaw_1596 ?_
  refine lv_topi (fun z245 ez245 => ?_)
  have tz245 := iv_add (Y := 3) ti (by decide) ez245 (by omega) (by omega)
  refine va_sld hx hb hX hbl hbA hW.2.2.2.2.2.2.2 (iv_in (X := (i : Int) + 3) (by omega) (by omega) (by omega)) dLaw_1597 ?_
  rw [show z245.toNatClampNeg = i + 3 from by show z245.toInt.toNat = _; omega]
  refine lv_aload_n hx hb dLaw_1598 rfl (lv_at hl 3 rfl) ?_
  refine lv_iload_n hx hb dLaw_1599 rfl (lv_at hl 0 rfl) ?_
  refine lv_iconst (v := 4) hx hb dLaw_1600 (by decide) ?_
  refine lv_iadd hx hb dLaw_1601 ?_
  refine lv_topi (fun z246 ez246 => ?_)
  have tz246 := iv_add (Y := 4) ti (by decide) ez246 (by omega) (by omega)
  refine va_sld hx hb hX hbl hbA hW.2.2.2.2.2.2.2 (iv_in (X := (i : Int) + 4) (by omega) (by omega) (by omega)) dLaw_1602 ?_
  rw [show z246.toNatClampNeg = i + 4 from by show z246.toInt.toNat = _; omega]
  refine lc_i (As := [.int (xs (i + 1)), .int (xs (i + 2)), .int (xs (i + 3)), .int (xs (i + 4))]) (rest := []) (n := 4) (d := 8) ⟨hx, hb, hml, hown, hts⟩ (c_X11_lovers l E D Gc xa nn hW.2.1 (xs (i + 1)) (xs (i + 2)) (xs (i + 3)) (xs (i + 4))) wd_1080 wd_1081 wd_1082 wd_1 wd_1083 (by decide +kernel) ⟨Nat.le_of_ble_eq_true rfl, Nat.le_of_ble_eq_true rfl⟩ hW hN hK rfl hl.1 rfl (Nat.le_of_ble_eq_true rfl) dLaw_1603 ⟨by rw [hR1]; omega, by rw [hR2]; omega⟩ (fun r247 H locs hr247 hW => ?_)
  refine lv_pop hx hb dLaw_1606 rfl ?_
  refine lv_aload_n hx hb dLaw_1607 rfl (lv_at hl 1 rfl) ?_
  refine lv_aload_n hx hb dLaw_1608 rfl (lv_at hl 3 rfl) ?_
  refine lv_iload_n hx hb dLaw_1609 rfl (lv_at hl 0 rfl) ?_
  refine lv_iconst (v := 1) hx hb dLaw_1610 (by decide) ?_
  refine lv_iadd hx hb dLaw_1611 ?_
  refine lv_topi (fun z248 ez248 => ?_)
  have tz248 := iv_add (Y := 1) ti (by decide) ez248 (by omega) (by omega)
  refine va_sld hx hb hX hbl hbA hW.2.2.2.2.2.2.2 (iv_in (X := (i : Int) + 1) (by omega) (by omega) (by omega)) dLaw_1612 ?_
  rw [show z248.toNatClampNeg = i + 1 from by show z248.toInt.toNat = _; omega]
  refine lv_aload_n hx hb dLaw_1613 rfl (lv_at hl 3 rfl) ?_
  refine lv_iload_n hx hb dLaw_1614 rfl (lv_at hl 0 rfl) ?_
  refine lv_iconst (v := 2) hx hb dLaw_1615 (by decide) ?_
  refine lv_iadd hx hb dLaw_1616 ?_
  refine lv_topi (fun z249 ez249 => ?_)
  have tz249 := iv_add (Y := 2) ti (by decide) ez249 (by omega) (by omega)
  refine va_sld hx hb hX hbl hbA hW.2.2.2.2.2.2.2 (iv_in (X := (i : Int) + 2) (by omega) (by omega) (by omega)) dLaw_1617 ?_
  rw [show z249.toNatClampNeg = i + 2 from by show z249.toInt.toNat = _; omega]
  refine lv_aload_n hx hb dLaw_1618 rfl (lv_at hl 3 rfl) ?_
  refine lv_iload_n hx hb dLaw_1619 rfl (lv_at hl 0 rfl) ?_
  refine lv_iconst (v := 3) hx hb dLaw_1620 (by decide) ?_
  refine lv_iadd hx hb dLaw_1621 ?_
  refine lv_topi (fun z250 ez250 => ?_)
  have tz250 := iv_add (Y := 3) ti (by decide) ez250 (by omega) (by omega)
  refine va_sld hx hb hX hbl hbA hW.2.2.2.2.2.2.2 (iv_in (X := (i : Int) + 3) (by omega) (by omega) (by omega)) dLaw_1622 ?_
  rw [show z250.toNatClampNeg = i + 3 from by show z250.toInt.toNat = _; omega]
  refine lv_aload_n hx hb dLaw_1623 rfl (lv_at hl 3 rfl) ?_
  refine lv_iload_n hx hb dLaw_1624 rfl (lv_at hl 0 rfl) ?_
  refine lv_iconst (v := 4) hx hb dLaw_1625 (by decide) ?_
  refine lv_iadd hx hb dLaw_1626 ?_
  refine lv_topi (fun z251 ez251 => ?_)
  have tz251 := iv_add (Y := 4) ti (by decide) ez251 (by omega) (by omega)
  refine va_sld hx hb hX hbl hbA hW.2.2.2.2.2.2.2 (iv_in (X := (i : Int) + 4) (by omega) (by omega) (by omega)) dLaw_1627 ?_
  rw [show z251.toNatClampNeg = i + 4 from by show z251.toInt.toNat = _; omega]
  refine lm_i (post := fun _ => True) (As := [.int (xs (i + 1)), .int (xs (i + 2)), .int (xs (i + 3)), .int (xs (i + 4))]) (rest := []) (n := 4) (d := 69) ⟨hx, hb, hml, hown, hts⟩ (c_X12_lovers l E D Gm ma hW.2.2.2.1 (xs (i + 1)) (xs (i + 2)) (xs (i + 3)) (xs (i + 4))) wd_1796 wd_1797 wd_1798 wd_13 wd_1799 (by decide +kernel) ⟨Nat.le_of_ble_eq_true rfl, Nat.le_of_ble_eq_true rfl⟩ hW hN hK rfl hl.1 rfl (Nat.le_of_ble_eq_true rfl) dLaw_1628 ⟨by rw [hR1]; omega, by rw [hR2]; omega⟩ (fun r252 H locs hr252 hW => ?_)
  refine lv_pop hx hb dLaw_1631 rfl ?_
  refine lv_goto (tgt := 2004) hx hb dLaw_1632 (by decide) ?_
  exact W.widen (k := cells + 18) (n := slots + 441) (by omega) (by omega) (kk _ _ _ _ _ X0 hW hT)
set_option maxHeartbeats 4000000 in
set_option maxRecDepth 100000 in
theorem law_c39 {p : Program} {e : Env} {s : State} {m : MethodId} {below : List Frame} {meth : Method} {c : Code} {l : Launch} {b L : Nat} {xs : Nat → Int32} (C0 : lw_At p s m meth c b L xs) {E : Nat → Nat} {D : va_G} {adK adV : Nat → Nat} (X0 : LCx E D adK adV s) {xa ma i : Nat} (hi : i + 7 ≤ L) (hL : L ≤ 3584) {Gc Gm : th_G} {nn : Nat} {H : Heap} {locs : List Loc} (hW : LWs E D s xa ma Gc Gm nn H locs) (hT : TI E Gc xa nn) (hU : UQ Gm 1 ∧ UQ Gm 2 ∧ UQ Gm 11 ∧ UQ Gm 4 ∧ UQ Gm 10) {cells slots : Nat} (hc1 : cells + 18 ≤ 600000) (hc2 : slots + 441 ≤ 7302250) {ls : Array Slot} (hl : lv_has ls 4 [(3, .int (nI i)), (2, .ref ma), (1, .ref xa), (0, .ref b)]) (kk : ∀ (E : Nat → Nat) (Gc : th_G) (nn : Nat) (H : Heap) (locs : List Loc), LCx E D adK adV s → LWs E D s xa ma Gc Gm nn H locs → TI E Gc xa nn → W p l e room_1 s m #[Value.ref b] below meth c H locs (cells + 18) (slots + 441) (lw_Z below #[Value.ref b] s) (F0 m 2004 ls [])) : W p l e room_1 s m #[Value.ref b] below meth c H locs cells slots (lw_Z below #[Value.ref b] s) (F0 m 1635 ls []) := by
  obtain ⟨hx, hb, hr, hml, hown, hts0, hX, hbl, hlocks, hgv⟩ := id C0
  obtain ⟨hN, hK, hWS, hCL, hAO⟩ := id X0
  have hbA : ¬ LWa s b := Nat.not_le.mpr hbl
  have hts := lw_tb (w := Cond.initialized RX12) wd_13 hts0
  have hR1 : room_1.cells = 600000 := rfl
  have hR2 : room_1.slots = 7302250 := rfl
  have ti : (nI i).toInt = (i : Int) := nI_toInt (by omega)
  refine lv_aload_n hx hb dLaw_1635 rfl (lv_at hl 2 rfl) ?_
  refine lv_aload_n hx hb dLaw_1636 rfl (lv_at hl 3 rfl) ?_
  refine lv_iload_n hx hb dLaw_1637 rfl (lv_at hl 0 rfl) ?_
  refine lv_iconst (v := 1) hx hb dLaw_1638 (by decide) ?_
  refine lv_iadd hx hb dLaw_1639 ?_
  refine lv_topi (fun z253 ez253 => ?_)
  have tz253 := iv_add (Y := 1) ti (by decide) ez253 (by omega) (by omega)
  refine va_sld hx hb hX hbl hbA hW.2.2.2.2.2.2.2 (iv_in (X := (i : Int) + 1) (by omega) (by omega) (by omega)) dLaw_1640 ?_
  rw [show z253.toNatClampNeg = i + 1 from by show z253.toInt.toNat = _; omega]
  refine lv_aload_n hx hb dLaw_1641 rfl (lv_at hl 3 rfl) ?_
  refine lv_iload_n hx hb dLaw_1642 rfl (lv_at hl 0 rfl) ?_
  refine lv_iconst (v := 2) hx hb dLaw_1643 (by decide) ?_
  refine lv_iadd hx hb dLaw_1644 ?_
  refine lv_topi (fun z254 ez254 => ?_)
  have tz254 := iv_add (Y := 2) ti (by decide) ez254 (by omega) (by omega)
  refine va_sld hx hb hX hbl hbA hW.2.2.2.2.2.2.2 (iv_in (X := (i : Int) + 2) (by omega) (by omega) (by omega)) dLaw_1645 ?_
  rw [show z254.toNatClampNeg = i + 2 from by show z254.toInt.toNat = _; omega]
  refine lv_aload_n hx hb dLaw_1646 rfl (lv_at hl 3 rfl) ?_
  refine lv_iload_n hx hb dLaw_1647 rfl (lv_at hl 0 rfl) ?_
  refine lv_iconst (v := 3) hx hb dLaw_1648 (by decide) ?_
  refine lv_iadd hx hb dLaw_1649 ?_
  refine lv_topi (fun z255 ez255 => ?_)
  have tz255 := iv_add (Y := 3) ti (by decide) ez255 (by omega) (by omega)
  refine va_sld hx hb hX hbl hbA hW.2.2.2.2.2.2.2 (iv_in (X := (i : Int) + 3) (by omega) (by omega) (by omega)) dLaw_1650 ?_
  rw [show z255.toNatClampNeg = i + 3 from by show z255.toInt.toNat = _; omega]
  refine lc_i (As := [.int (xs (i + 1)), .int (xs (i + 2)), .int (xs (i + 3))]) (rest := []) (n := 3) (d := 7) ⟨hx, hb, hml, hown, hts⟩ (c_X11_duck l E D Gc xa nn hW.2.1 (xs (i + 1)) (xs (i + 2)) (xs (i + 3))) wd_1094 wd_1095 wd_1096 wd_1 wd_1097 (by decide +kernel) ⟨Nat.le_of_ble_eq_true rfl, Nat.le_of_ble_eq_true rfl⟩ hW hN hK rfl hl.1 rfl (Nat.le_of_ble_eq_true rfl) dLaw_1651 ⟨by rw [hR1]; omega, by rw [hR2]; omega⟩ (fun r256 H locs hr256 hW => ?_)
  refine lv_pop hx hb dLaw_1654 rfl ?_
  refine lv_aload_n hx hb dLaw_1655 rfl (lv_at hl 1 rfl) ?_
  refine lv_aload_n hx hb dLaw_1656 rfl (lv_at hl 3 rfl) ?_
  refine lv_iload_n hx hb dLaw_1657 rfl (lv_at hl 0 rfl) ?_
  refine lv_iconst (v := 1) hx hb dLaw_1658 (by decide) ?_
  refine lv_iadd hx hb dLaw_1659 ?_
  refine lv_topi (fun z257 ez257 => ?_)
  have tz257 := iv_add (Y := 1) ti (by decide) ez257 (by omega) (by omega)
  refine va_sld hx hb hX hbl hbA hW.2.2.2.2.2.2.2 (iv_in (X := (i : Int) + 1) (by omega) (by omega) (by omega)) dLaw_1660 ?_
  rw [show z257.toNatClampNeg = i + 1 from by show z257.toInt.toNat = _; omega]
  refine lv_aload_n hx hb dLaw_1661 rfl (lv_at hl 3 rfl) ?_
  refine lv_iload_n hx hb dLaw_1662 rfl (lv_at hl 0 rfl) ?_
  refine lv_iconst (v := 2) hx hb dLaw_1663 (by decide) ?_
  refine lv_iadd hx hb dLaw_1664 ?_
  refine lv_topi (fun z258 ez258 => ?_)
  have tz258 := iv_add (Y := 2) ti (by decide) ez258 (by omega) (by omega)
  refine va_sld hx hb hX hbl hbA hW.2.2.2.2.2.2.2 (iv_in (X := (i : Int) + 2) (by omega) (by omega) (by omega)) dLaw_1665 ?_
  rw [show z258.toNatClampNeg = i + 2 from by show z258.toInt.toNat = _; omega]
  refine lv_aload_n hx hb dLaw_1666 rfl (lv_at hl 3 rfl) ?_
  refine lv_iload_n hx hb dLaw_1667 rfl (lv_at hl 0 rfl) ?_
  refine lv_iconst (v := 3) hx hb dLaw_1668 (by decide) ?_
  refine lv_iadd hx hb dLaw_1669 ?_
  refine lv_topi (fun z259 ez259 => ?_)
  have tz259 := iv_add (Y := 3) ti (by decide) ez259 (by omega) (by omega)
  refine va_sld hx hb hX hbl hbA hW.2.2.2.2.2.2.2 (iv_in (X := (i : Int) + 3) (by omega) (by omega) (by omega)) dLaw_1670 ?_
  rw [show z259.toNatClampNeg = i + 3 from by show z259.toInt.toNat = _; omega]
  refine lm_i (post := fun _ => True) (As := [.int (xs (i + 1)), .int (xs (i + 2)), .int (xs (i + 3))]) (rest := []) (n := 3) (d := 69) ⟨hx, hb, hml, hown, hts⟩ (c_X12_duck l E D Gm ma hW.2.2.2.1 (xs (i + 1)) (xs (i + 2)) (xs (i + 3))) wd_1804 wd_1805 wd_1806 wd_13 wd_1807 (by decide +kernel) ⟨Nat.le_of_ble_eq_true rfl, Nat.le_of_ble_eq_true rfl⟩ hW hN hK rfl hl.1 rfl (Nat.le_of_ble_eq_true rfl) dLaw_1671 ⟨by rw [hR1]; omega, by rw [hR2]; omega⟩ (fun r260 H locs hr260 hW => ?_)
  refine lv_pop hx hb dLaw_1674 rfl ?_
  refine lv_goto (tgt := 2004) hx hb dLaw_1675 (by decide) ?_
  exact W.widen (k := cells + 18) (n := slots + 441) (by omega) (by omega) (kk _ _ _ _ _ X0 hW hT)
