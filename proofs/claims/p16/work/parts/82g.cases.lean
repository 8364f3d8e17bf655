set_option maxHeartbeats 4000000 in
set_option maxRecDepth 100000 in
theorem law_c30 {p : Program} {e : Env} {s : State} {m : MethodId} {below : List Frame} {meth : Method} {c : Code} {l : Launch} {b L : Nat} {xs : Nat → Int32} (C0 : lw_At p s m meth c b L xs) {E : Nat → Nat} {D : va_G} {adK adV : Nat → Nat} (X0 : LCx E D adK adV s) {xa ma i : Nat} (hi : i + 7 ≤ L) (hL : L ≤ 3584) {Gc Gm : th_G} {nn : Nat} {H : Heap} {locs : List Loc} (hW : LWs E D s xa ma Gc Gm nn H locs) (hT : TI E Gc xa nn) (hU : UQ Gm 1 ∧ UQ Gm 2 ∧ UQ Gm 11 ∧ UQ Gm 4 ∧ UQ Gm 10) {cells slots : Nat} (hc1 : cells + 18 ≤ 600000) (hc2 : slots + 441 ≤ 7302250) {ls : Array Slot} (hl : lv_has ls 4 [(3, .int (nI i)), (2, .ref ma), (1, .ref xa), (0, .ref b)]) (kk : ∀ (E : Nat → Nat) (Gc : th_G) (nn : Nat) (H : Heap) (locs : List Loc), LCx E D adK adV s → LWs E D s xa ma Gc Gm nn H locs → TI E Gc xa nn → W p l e room_1 s m #[Value.ref b] below meth c H locs (cells + 18) (slots + 441) (lw_Z below #[Value.ref b] s) (F0 m 2004 ls [])) : W p l e room_1 s m #[Value.ref b] below meth c H locs cells slots (lw_Z below #[Value.ref b] s) (F0 m 1358 ls []) := by
  obtain ⟨hx, hb, hr, hml, hown, hts0, hX, hbl, hlocks, hgv⟩ := id C0
  obtain ⟨hN, hK, hWS, hCL, hAO⟩ := id X0
  have hbA : ¬ LWa s b := Nat.not_le.mpr hbl
  have hts := lw_tb (w := Cond.initialized RX12) wd_13 hts0
  have hR1 : room_1.cells = 600000 := rfl
  have hR2 : room_1.slots = 7302250 := rfl
  have ti : (nI i).toInt = (i : Int) := nI_toInt (by omega)
  refine lv_aload_n hx hb dLaw_1358 rfl (lv_at hl 2 rfl) ?_
  refine lv_aload_n hx hb dLaw_1359 rfl (lv_at hl 3 rfl) ?_
  refine lv_iload_n hx hb dLaw_1360 rfl (lv_at hl 0 rfl) ?_
  refine lv_iconst (v := 1) hx hb dLaw_1361 (by decide) ?_
  refine lv_iadd hx hb dLaw_1362 ?_
  refine lv_topi (fun z203 ez203 => ?_)
  have tz203 := iv_add (Y := 1) ti (by decide) ez203 (by omega) (by omega)
  refine va_sld hx hb hX hbl hbA hW.2.2.2.2.2.2.2 (iv_in (X := (i : Int) + 1) (by omega) (by omega) (by omega)) dLaw_1363 ?_
  rw [show z203.toNatClampNeg = i + 1 from by show z203.toInt.toNat = _; omega]
  refine lv_aload_n hx hb dLaw_1364 rfl (lv_at hl 3 rfl) ?_
  refine lv_iload_n hx hb dLaw_1365 rfl (lv_at hl 0 rfl) ?_
  refine lv_iconst (v := 2) hx hb dLaw_1366 (by decide) ?_
  refine lv_iadd hx hb dLaw_1367 ?_
  refine lv_topi (fun z204 ez204 => ?_)
  have tz204 := iv_add (Y := 2) ti (by decide) ez204 (by omega) (by omega)
  refine va_sld hx hb hX hbl hbA hW.2.2.2.2.2.2.2 (iv_in (X := (i : Int) + 2) (by omega) (by omega) (by omega)) dLaw_1368 ?_
  rw [show z204.toNatClampNeg = i + 2 from by show z204.toInt.toNat = _; omega]
  refine lv_aload_n hx hb dLaw_1369 rfl (lv_at hl 3 rfl) ?_
  refine lv_iload_n hx hb dLaw_1370 rfl (lv_at hl 0 rfl) ?_
  refine lv_iconst (v := 3) hx hb dLaw_1371 (by decide) ?_
  refine lv_iadd hx hb dLaw_1372 ?_
  refine lv_topi (fun z205 ez205 => ?_)
  have tz205 := iv_add (Y := 3) ti (by decide) ez205 (by omega) (by omega)
  refine va_sld hx hb hX hbl hbA hW.2.2.2.2.2.2.2 (iv_in (X := (i : Int) + 3) (by omega) (by omega) (by omega)) dLaw_1373 ?_
  rw [show z205.toNatClampNeg = i + 3 from by show z205.toInt.toNat = _; omega]
  refine lv_aload_n hx hb dLaw_1374 rfl (lv_at hl 3 rfl) ?_
  refine lv_iload_n hx hb dLaw_1375 rfl (lv_at hl 0 rfl) ?_
  refine lv_iconst (v := 4) hx hb dLaw_1376 (by decide) ?_
  refine lv_iadd hx hb dLaw_1377 ?_
  refine lv_topi (fun z206 ez206 => ?_)
  have tz206 := iv_add (Y := 4) ti (by decide) ez206 (by omega) (by omega)
  refine va_sld hx hb hX hbl hbA hW.2.2.2.2.2.2.2 (iv_in (X := (i : Int) + 4) (by omega) (by omega) (by omega)) dLaw_1378 ?_
  rw [show z206.toNatClampNeg = i + 4 from by show z206.toInt.toNat = _; omega]
  refine lc_i (As := [.int (xs (i + 1)), .int (xs (i + 2)), .int (xs (i + 3)), .int (xs (i + 4))]) (rest := []) (n := 4) (d := 2) ⟨hx, hb, hml, hown, hts⟩ (c_X11_sight l E D Gc xa nn hW.2.1 (xs (i + 1)) (xs (i + 2)) (xs (i + 3)) (xs (i + 4))) wd_975 wd_976 wd_977 wd_1 wd_978 (by decide +kernel) ⟨Nat.le_of_ble_eq_true rfl, Nat.le_of_ble_eq_true rfl⟩ hW hN hK rfl hl.1 rfl (Nat.le_of_ble_eq_true rfl) dLaw_1379 ⟨by rw [hR1]; omega, by rw [hR2]; omega⟩ (fun r207 H locs hr207 hW => ?_)
  refine lv_pop hx hb dLaw_1382 rfl ?_
  refine lv_aload_n hx hb dLaw_1383 rfl (lv_at hl 1 rfl) ?_
  refine lv_aload_n hx hb dLaw_1384 rfl (lv_at hl 3 rfl) ?_
  refine lv_iload_n hx hb dLaw_1385 rfl (lv_at hl 0 rfl) ?_
  refine lv_iconst (v := 1) hx hb dLaw_1386 (by decide) ?_
  refine lv_iadd hx hb dLaw_1387 ?_
  refine lv_topi (fun z208 ez208 => ?_)
  have tz208 := iv_add (Y := 1) ti (by decide) ez208 (by omega) (by omega)
  refine va_sld hx hb hX hbl hbA hW.2.2.2.2.2.2.2 (iv_in (X := (i : Int) + 1) (by omega) (by omega) (by omega)) dLaw_1388 ?_
  rw [show z208.toNatClampNeg = i + 1 from by show z208.toInt.toNat = _; omega]
  refine lv_aload_n hx hb dLaw_1389 rfl (lv_at hl 3 rfl) ?_
  refine lv_iload_n hx hb dLaw_1390 rfl (lv_at hl 0 rfl) ?_
  refine lv_iconst (v := 2) hx hb dLaw_1391 (by decide) ?_
  refine lv_iadd hx hb dLaw_1392 ?_
  refine lv_topi (fun z209 ez209 => ?_)
  have tz209 := iv_add (Y := 2) ti (by decide) ez209 (by omega) (by omega)
  refine va_sld hx hb hX hbl hbA hW.2.2.2.2.2.2.2 (iv_in (X := (i : Int) + 2) (by omega) (by omega) (by omega)) dLaw_1393 ?_
  rw [show z209.toNatClampNeg = i + 2 from by show z209.toInt.toNat = _; omega]
  refine lv_aload_n hx hb dLaw_1394 rfl (lv_at hl 3 rfl) ?_
  refine lv_iload_n hx hb dLaw_1395 rfl (lv_at hl 0 rfl) ?_
  refine lv_iconst (v := 3) hx hb dLaw_1396 (by decide) ?_
  refine lv_iadd hx hb dLaw_1397 ?_
  refine lv_topi (fun z210 ez210 => ?_)
  have tz210 := iv_add (Y := 3) ti (by decide) ez210 (by omega) (by omega)
  refine va_sld hx hb hX hbl hbA hW.2.2.2.2.2.2.2 (iv_in (X := (i : Int) + 3) (by omega) (by omega) (by omega)) dLaw_1398 ?_
  rw [show z210.toNatClampNeg = i + 3 from by show z210.toInt.toNat = _; omega]
  refine lv_aload_n hx hb dLaw_1399 rfl (lv_at hl 3 rfl) ?_
  refine lv_iload_n hx hb dLaw_1400 rfl (lv_at hl 0 rfl) ?_
  refine lv_iconst (v := 4) hx hb dLaw_1401 (by decide) ?_
  refine lv_iadd hx hb dLaw_1402 ?_
  refine lv_topi (fun z211 ez211 => ?_)
  have tz211 := iv_add (Y := 4) ti (by decide) ez211 (by omega) (by omega)
  refine va_sld hx hb hX hbl hbA hW.2.2.2.2.2.2.2 (iv_in (X := (i : Int) + 4) (by omega) (by omega) (by omega)) dLaw_1403 ?_
  rw [show z211.toNatClampNeg = i + 4 from by show z211.toInt.toNat = _; omega]
  refine lm_i (post := fun _ => True) (As := [.int (xs (i + 1)), .int (xs (i + 2)), .int (xs (i + 3)), .int (xs (i + 4))]) (rest := []) (n := 4) (d := 2) ⟨hx, hb, hml, hown, hts⟩ (c_X12_sight l E D Gm ma hW.2.2.2.1 (xs (i + 1)) (xs (i + 2)) (xs (i + 3)) (xs (i + 4))) wd_1741 wd_1742 wd_1743 wd_13 wd_1744 (by decide +kernel) ⟨Nat.le_of_ble_eq_true rfl, Nat.le_of_ble_eq_true rfl⟩ hW hN hK rfl hl.1 rfl (Nat.le_of_ble_eq_true rfl) dLaw_1404 ⟨by rw [hR1]; omega, by rw [hR2]; omega⟩ (fun r212 H locs hr212 hW => ?_)
  refine lv_pop hx hb dLaw_1407 rfl ?_
  refine lv_goto (tgt := 2004) hx hb dLaw_1408 (by decide) ?_
  exact W.widen (k := cells + 18) (n := slots + 441) (by omega) (by omega) (kk _ _ _ _ _ X0 hW hT)
set_option maxHeartbeats 4000000 in
set_option maxRecDepth 100000 in
theorem law_c31 {p : Program} {e : Env} {s : State} {m : MethodId} {below : List Frame} {meth : Method} {c : Code} {l : Launch} {b L : Nat} {xs : Nat → Int32} (C0 : lw_At p s m meth c b L xs) {E : Nat → Nat} {D : va_G} {adK adV : Nat → Nat} (X0 : LCx E D adK adV s) {xa ma i : Nat} (hi : i + 7 ≤ L) (hL : L ≤ 3584) {Gc Gm : th_G} {nn : Nat} {H : Heap} {locs : List Loc} (hW : LWs E D s xa ma Gc Gm nn H locs) (hT : TI E Gc xa nn) (hU : UQ Gm 1 ∧ UQ Gm 2 ∧ UQ Gm 11 ∧ UQ Gm 4 ∧ UQ Gm 10) {cells slots : Nat} (hc1 : cells + 18 ≤ 600000) (hc2 : slots + 441 ≤ 7302250) {ls : Array Slot} (hl : lv_has ls 4 [(3, .int (nI i)), (2, .ref ma), (1, .ref xa), (0, .ref b)]) (kk : ∀ (E : Nat → Nat) (Gc : th_G) (nn : Nat) (H : Heap) (locs : List Loc), LCx E D adK adV s → LWs E D s xa ma Gc Gm nn H locs → TI E Gc xa nn → W p l e room_1 s m #[Value.ref b] below meth c H locs (cells + 18) (slots + 441) (lw_Z below #[Value.ref b] s) (F0 m 2004 ls [])) : W p l e room_1 s m #[Value.ref b] below meth c H locs cells slots (lw_Z below #[Value.ref b] s) (F0 m 1411 ls []) := by
  obtain ⟨hx, hb, hr, hml, hown, hts0, hX, hbl, hlocks, hgv⟩ := id C0
  obtain ⟨hN, hK, hWS, hCL, hAO⟩ := id X0
  have hbA : ¬ LWa s b := Nat.not_le.mpr hbl
  have hts := lw_tb (w := Cond.initialized RX12) wd_13 hts0
  have hR1 : room_1.cells = 600000 := rfl
  have hR2 : room_1.slots = 7302250 := rfl
  have ti : (nI i).toInt = (i : Int) := nI_toInt (by omega)
  refine lv_aload_n hx hb dLaw_1411 rfl (lv_at hl 2 rfl) ?_
  refine lc_i (As := []) (rest := []) (n := 0) (d := 2) ⟨hx, hb, hml, hown, hts⟩ (c_X11_forget l E D Gc xa nn hW.2.1 ) wd_979 wd_980 wd_981 wd_1 wd_982 (by decide +kernel) ⟨Nat.le_of_ble_eq_true rfl, Nat.le_of_ble_eq_true rfl⟩ hW hN hK rfl hl.1 rfl (Nat.le_of_ble_eq_true rfl) dLaw_1412 ⟨by rw [hR1]; omega, by rw [hR2]; omega⟩ (fun r213 H locs hr213 hW => ?_)
  refine lv_pop hx hb dLaw_1415 rfl ?_
  refine lv_aload_n hx hb dLaw_1416 rfl (lv_at hl 1 rfl) ?_
  refine lm_i (post := fun _ => True) (As := []) (rest := []) (n := 0) (d := 1) ⟨hx, hb, hml, hown, hts⟩ (c_X12_forget l E D Gm ma hW.2.2.2.1 ) wd_1745 wd_1746 wd_1747 wd_13 wd_1748 (by decide +kernel) ⟨Nat.le_of_ble_eq_true rfl, Nat.le_of_ble_eq_true rfl⟩ hW hN hK rfl hl.1 rfl (Nat.le_of_ble_eq_true rfl) dLaw_1417 ⟨by rw [hR1]; omega, by rw [hR2]; omega⟩ (fun r214 H locs hr214 hW => ?_)
  refine lv_pop hx hb dLaw_1420 rfl ?_
  refine lv_goto (tgt := 2004) hx hb dLaw_1421 (by decide) ?_
  exact W.widen (k := cells + 18) (n := slots + 441) (by omega) (by omega) (kk _ _ _ _ _ X0 hW hT)
set_option maxHeartbeats 4000000 in
set_option maxRecDepth 100000 in
theorem law_c32 {p : Program} {e : Env} {s : State} {m : MethodId} {below : List Frame} {meth : Method} {c : Code} {l : Launch} {b L : Nat} {xs : Nat → Int32} (C0 : lw_At p s m meth c b L xs) {E : Nat → Nat} {D : va_G} {adK adV : Nat → Nat} (X0 : LCx E D adK adV s) {xa ma i : Nat} (hi : i + 7 ≤ L) (hL : L ≤ 3584) {Gc Gm : th_G} {nn : Nat} {H : Heap} {locs : List Loc} (hW : LWs E D s xa ma Gc Gm nn H locs) (hT : TI E Gc xa nn) (hU : UQ Gm 1 ∧ UQ Gm 2 ∧ UQ Gm 11 ∧ UQ Gm 4 ∧ UQ Gm 10) {cells slots : Nat} (hc1 : cells + 18 ≤ 600000) (hc2 : slots + 441 ≤ 7302250) {ls : Array Slot} (hl : lv_has ls 4 [(3, .int (nI i)), (2, .ref ma), (1, .ref xa), (0, .ref b)]) (kk : ∀ (E : Nat → Nat) (Gc : th_G) (nn : Nat) (H : Heap) (locs : List Loc), LCx E D adK adV s → LWs E D s xa ma Gc Gm nn H locs → TI E Gc xa nn → W p l e room_1 s m #[Value.ref b] below meth c H locs (cells + 18) (slots + 441) (lw_Z below #[Value.ref b] s) (F0 m 2004 ls [])) : W p l e room_1 s m #[Value.ref b] below meth c H locs cells slots (lw_Z below #[Value.ref b] s) (F0 m 1424 ls []) := by
  obtain ⟨hx, hb, hr, hml, hown, hts0, hX, hbl, hlocks, hgv⟩ := id C0
  obtain ⟨hN, hK, hWS, hCL, hAO⟩ := id X0
  have hbA : ¬ LWa s b := Nat.not_le.mpr hbl
  have hts := lw_tb (w := Cond.initialized RX12) wd_13 hts0
  have hR1 : room_1.cells = 600000 := rfl
  have hR2 : room_1.slots = 7302250 := rfl
  have ti : (nI i).toInt = (i : Int) := nI_toInt (by omega)
  refine lv_aload_n hx hb dLaw_1424 rfl (lv_at hl 2 rfl) ?_
  refine lv_aload_n hx hb dLaw_1425 rfl (lv_at hl 3 rfl) ?_
  refine lv_iload_n hx hb dLaw_1426 rfl (lv_at hl 0 rfl) ?_
  refine lv_iconst (v := 1) hx hb dLaw_1427 (by decide) ?_
  refine lv_iadd hx hb dLaw_1428 ?_
  refine lv_topi (fun z215 ez215 => ?_)
  have tz215 := iv_add (Y := 1) ti (by decide) ez215 (by omega) (by omega)
  refine va_sld hx hb hX hbl hbA hW.2.2.2.2.2.2.2 (iv_in (X := (i : Int) + 1) (by omega) (by omega) (by omega)) dLaw_1429 ?_
  rw [show z215.toNatClampNeg = i + 1 from by show z215.toInt.toNat = _; omega]
  refine lc_i (As := [.int (xs (i + 1))]) (rest := []) (n := 1) (d := 8) ⟨hx, hb, hml, hown, hts⟩ (c_X11_so l E D Gc xa nn hW.2.1 (xs (i + 1))) wd_987 wd_988 wd_989 wd_1 wd_990 (by decide +kernel) ⟨Nat.le_of_ble_eq_true rfl, Nat.le_of_ble_eq_true rfl⟩ hW hN hK rfl hl.1 rfl (Nat.le_of_ble_eq_true rfl) dLaw_1430 ⟨by rw [hR1]; omega, by rw [hR2]; omega⟩ (fun r216 H locs hr216 hW => ?_)
  refine lv_pop hx hb dLaw_1433 rfl ?_
  refine lv_aload_n hx hb dLaw_1434 rfl (lv_at hl 1 rfl) ?_
  refine lv_aload_n hx hb dLaw_1435 rfl (lv_at hl 3 rfl) ?_
  refine lv_iload_n hx hb dLaw_1436 rfl (lv_at hl 0 rfl) ?_
  refine lv_iconst (v := 1) hx hb dLaw_1437 (by decide) ?_
  refine lv_iadd hx hb dLaw_1438 ?_
  refine lv_topi (fun z217 ez217 => ?_)
  have tz217 := iv_add (Y := 1) ti (by decide) ez217 (by omega) (by omega)
  refine va_sld hx hb hX hbl hbA hW.2.2.2.2.2.2.2 (iv_in (X := (i : Int) + 1) (by omega) (by omega) (by omega)) dLaw_1439 ?_
  rw [show z217.toNatClampNeg = i + 1 from by show z217.toInt.toNat = _; omega]
  refine lm_i (post := fun _ => True) (As := [.int (xs (i + 1))]) (rest := []) (n := 1) (d := 69) ⟨hx, hb, hml, hown, hts⟩ (c_X12_so l E D Gm ma hW.2.2.2.1 (xs (i + 1))) wd_1753 wd_1754 wd_1755 wd_13 wd_1756 (by decide +kernel) ⟨Nat.le_of_ble_eq_true rfl, Nat.le_of_ble_eq_true rfl⟩ hW hN hK rfl hl.1 rfl (Nat.le_of_ble_eq_true rfl) dLaw_1440 ⟨by rw [hR1]; omega, by rw [hR2]; omega⟩ (fun r218 H locs hr218 hW => ?_)
  refine lv_pop hx hb dLaw_1443 rfl ?_
  refine lv_goto (tgt := 2004) hx hb dLaw_1444 (by decide) ?_
  exact W.widen (k := cells + 18) (n := slots + 441) (by omega) (by omega) (kk _ _ _ _ _ X0 hW hT)
set_option maxHeartbeats 4000000 in
set_option maxRecDepth 100000 in
theorem law_c33 {p : Program} {e : Env} {s : State} {m : MethodId} {below : List Frame} {meth : Method} {c : Code} {l : Launch} {b L : Nat} {xs : Nat → Int32} (C0 : lw_At p s m meth c b L xs) {E : Nat → Nat} {D : va_G} {adK adV : Nat → Nat} (X0 : LCx E D adK adV s) {xa ma i : Nat} (hi : i + 7 ≤ L) (hL : L ≤ 3584) {Gc Gm : th_G} {nn : Nat} {H : Heap} {locs : List Loc} (hW : LWs E D s xa ma Gc Gm nn H locs) (hT : TI E Gc xa nn) (hU : UQ Gm 1 ∧ UQ Gm 2 ∧ UQ Gm 11 ∧ UQ Gm 4 ∧ UQ Gm 10) {cells slots : Nat} (hc1 : cells + 18 ≤ 600000) (hc2 : slots + 441 ≤ 7302250) {ls : Array Slot} (hl : lv_has ls 4 [(3, .int (nI i)), (2, .ref ma), (1, .ref xa), (0, .ref b)]) (kk : ∀ (E : Nat → Nat) (Gc : th_G) (nn : Nat) (H : Heap) (locs : List Loc), LCx E D adK adV s → LWs E D s xa ma Gc Gm nn H locs → TI E Gc xa nn → W p l e room_1 s m #[Value.ref b] below meth c H locs (cells + 18) (slots + 441) (lw_Z below #[Value.ref b] s) (F0 m 2004 ls [])) : W p l e room_1 s m #[Value.ref b] below meth c H locs cells slots (lw_Z below #[Value.ref b] s) (F0 m 1447 ls []) := by
  obtain ⟨hx, hb, hr, hml, hown, hts0, hX, hbl, hlocks, hgv⟩ := id C0
  obtain ⟨hN, hK, hWS, hCL, hAO⟩ := id X0
  have hbA : ¬ LWa s b := Nat.not_le.mpr hbl
  have hts := lw_tb (w := Cond.initialized RX12) wd_13 hts0
  have hR1 : room_1.cells = 600000 := rfl
  have hR2 : room_1.slots = 7302250 := rfl
  have ti : (nI i).toInt = (i : Int) := nI_toInt (by omega)
  refine lv_aload_n hx hb dLaw_1447 rfl (lv_at hl 2 rfl) ?_
  refine lv_aload_n hx hb dLaw_1448 rfl (lv_at hl 3 rfl) ?_
  refine lv_iload_n hx hb dLaw_1449 rfl (lv_at hl 0 rfl) ?_
  refine lv_iconst (v := 1) hx hb dLaw_1450 (by decide) ?_
  refine lv_iadd hx hb dLaw_1451 ?_
  refine lv_topi (fun z219 ez219 => ?_)
  have tz219 := iv_add (Y := 1) ti (by decide) ez219 (by omega) (by omega)
  refine va_sld hx hb hX hbl hbA hW.2.2.2.2.2.2.2 (iv_in (X := (i : Int) + 1) (by omega) (by omega) (by omega)) dLaw_1452 ?_
  rw [show z219.toNatClampNeg = i + 1 from by show z219.toInt.toNat = _; omega]
  refine lv_aload_n hx hb dLaw_1453 rfl (lv_at hl 3 rfl) ?_
  refine lv_iload_n hx hb dLaw_1454 rfl (lv_at hl 0 rfl) ?_
  refine lv_iconst (v := 2) hx hb dLaw_1455 (by decide) ?_
  refine lv_iadd hx hb dLaw_1456 ?_
  refine lv_topi (fun z220 ez220 => ?_)
  have tz220 := iv_add (Y := 2) ti (by decide) ez220 (by omega) (by omega)
  refine va_sld hx hb hX hbl hbA hW.2.2.2.2.2.2.2 (iv_in (X := (i : Int) + 2) (by omega) (by omega) (by omega)) dLaw_1457 ?_
  rw [show z220.toNatClampNeg = i + 2 from by show z220.toInt.toNat = _; omega]
  refine lc_i (As := [.int (xs (i + 1)), .int (xs (i + 2))]) (rest := []) (n := 2) (d := 8) ⟨hx, hb, hml, hown, hts⟩ (c_X11_suspects l E D Gc xa nn hW.2.1 (xs (i + 1)) (xs (i + 2))) wd_991 wd_992 wd_993 wd_1 wd_994 (by decide +kernel) ⟨Nat.le_of_ble_eq_true rfl, Nat.le_of_ble_eq_true rfl⟩ hW hN hK rfl hl.1 rfl (Nat.le_of_ble_eq_true rfl) dLaw_1458 ⟨by rw [hR1]; omega, by rw [hR2]; omega⟩ (fun r221 H locs hr221 hW => ?_)
  refine lv_pop hx hb dLaw_1461 rfl ?_
  refine lv_aload_n hx hb dLaw_1462 rfl (lv_at hl 1 rfl) ?_
  refine lv_aload_n hx hb dLaw_1463 rfl (lv_at hl 3 rfl) ?_
  refine lv_iload_n hx hb dLaw_1464 rfl (lv_at hl 0 rfl) ?_
  refine lv_iconst (v := 1) hx hb dLaw_1465 (by decide) ?_
  refine lv_iadd hx hb dLaw_1466 ?_
  refine lv_topi (fun z222 ez222 => ?_)
  have tz222 := iv_add (Y := 1) ti (by decide) ez222 (by omega) (by omega)
  refine va_sld hx hb hX hbl hbA hW.2.2.2.2.2.2.2 (iv_in (X := (i : Int) + 1) (by omega) (by omega) (by omega)) dLaw_1467 ?_
  rw [show z222.toNatClampNeg = i + 1 from by show z222.toInt.toNat = _; omega]
  refine lv_aload_n hx hb dLaw_1468 rfl (lv_at hl 3 rfl) ?_
  refine lv_iload_n hx hb dLaw_1469 rfl (lv_at hl 0 rfl) ?_
  refine lv_iconst (v := 2) hx hb dLaw_1470 (by decide) ?_
  refine lv_iadd hx hb dLaw_1471 ?_
  refine lv_topi (fun z223 ez223 => ?_)
  have tz223 := iv_add (Y := 2) ti (by decide) ez223 (by omega) (by omega)
  refine va_sld hx hb hX hbl hbA hW.2.2.2.2.2.2.2 (iv_in (X := (i : Int) + 2) (by omega) (by omega) (by omega)) dLaw_1472 ?_
  rw [show z223.toNatClampNeg = i + 2 from by show z223.toInt.toNat = _; omega]
  refine lm_i (post := fun _ => True) (As := [.int (xs (i + 1)), .int (xs (i + 2))]) (rest := []) (n := 2) (d := 69) ⟨hx, hb, hml, hown, hts⟩ (c_X12_suspects l E D Gm ma hW.2.2.2.1 (xs (i + 1)) (xs (i + 2))) wd_1757 wd_1758 wd_1759 wd_13 wd_1760 (by decide +kernel) ⟨Nat.le_of_ble_eq_true rfl, Nat.le_of_ble_eq_true rfl⟩ hW hN hK rfl hl.1 rfl (Nat.le_of_ble_eq_true rfl) dLaw_1473 ⟨by rw [hR1]; omega, by rw [hR2]; omega⟩ (fun r224 H locs hr224 hW => ?_)
  refine lv_pop hx hb dLaw_1476 rfl ?_
  refine lv_goto (tgt := 2004) hx hb dLaw_1477 (by decide) ?_
  exact W.widen (k := cells + 18) (n := slots + 441) (by omega) (by omega) (kk _ _ _ _ _ X0 hW hT)
set_option maxHeartbeats 4000000 in
set_option maxRecDepth 100000 in
theorem law_c34 {p : Program} {e : Env} {s : State} {m : MethodId} {below : List Frame} {meth : Method} {c : Code} {l : Launch} {b L : Nat} {xs : Nat → Int32} (C0 : lw_At p s m meth c b L xs) {E : Nat → Nat} {D : va_G} {adK adV : Nat → Nat} (X0 : LCx E D adK adV s) {xa ma i : Nat} (hi : i + 7 ≤ L) (hL : L ≤ 3584) {Gc Gm : th_G} {nn : Nat} {H : Heap} {locs : List Loc} (hW : LWs E D s xa ma Gc Gm nn H locs) (hT : TI E Gc xa nn) (hU : UQ Gm 1 ∧ UQ Gm 2 ∧ UQ Gm 11 ∧ UQ Gm 4 ∧ UQ Gm 10) {cells slots : Nat} (hc1 : cells + 18 ≤ 600000) (hc2 : slots + 441 ≤ 7302250) {ls : Array Slot} (hl : lv_has ls 4 [(3, .int (nI i)), (2, .ref ma), (1, .ref xa), (0, .ref b)]) (kk : ∀ (E : Nat → Nat) (Gc : th_G) (nn : Nat) (H : Heap) (locs : List Loc), LCx E D adK adV s → LWs E D s xa ma Gc Gm nn H locs → TI E Gc xa nn → W p l e room_1 s m #[Value.ref b] below meth c H locs (cells + 18) (slots + 441) (lw_Z below #[Value.ref b] s) (F0 m 2004 ls [])) : W p l e room_1 s m #[Value.ref b] below meth c H locs cells slots (lw_Z below #[Value.ref b] s) (F0 m 1480 ls []) := by
  obtain ⟨hx, hb, hr, hml, hown, hts0, hX, hbl, hlocks, hgv⟩ := id C0
  obtain ⟨hN, hK, hWS, hCL, hAO⟩ := id X0
  have hbA : ¬ LWa s b := Nat.not_le.mpr hbl
  have hts := lw_tb (w := Cond.initialized RX12) wd_13 hts0
  have hR1 : room_1.cells = 600000 := rfl
  have hR2 : room_1.slots = 7302250 := rfl
  have ti : (nI i).toInt = (i : Int) := nI_toInt (by omega)
  refine lv_aload_n hx hb dLaw_1480 rfl (lv_at hl 2 rfl) ?_
  refine lv_aload_n hx hb dLaw_1481 rfl (lv_at hl 3 rfl) ?_
  refine lv_iload_n hx hb dLaw_1482 rfl (lv_at hl 0 rfl) ?_
  refine lv_iconst (v := 1) hx hb dLaw_1483 (by decide) ?_
  refine lv_iadd hx hb dLaw_1484 ?_
  refine lv_topi (fun z225 ez225 => ?_)
  have tz225 := iv_add (Y := 1) ti (by decide) ez225 (by omega) (by omega)
  refine va_sld hx hb hX hbl hbA hW.2.2.2.2.2.2.2 (iv_in (X := (i : Int) + 1) (by omega) (by omega) (by omega)) dLaw_1485 ?_
  rw [show z225.toNatClampNeg = i + 1 from by show z225.toInt.toNat = _; omega]
  refine lc_i (As := [.int (xs (i + 1))]) (rest := []) (n := 1) (d := 8) ⟨hx, hb, hml, hown, hts⟩ (c_X11_pairs l E D Gc xa nn hW.2.1 (xs (i + 1))) wd_1020 wd_1021 wd_1022 wd_1 wd_1023 (by decide +kernel) ⟨Nat.le_of_ble_eq_true rfl, Nat.le_of_ble_eq_true rfl⟩ hW hN hK rfl hl.1 rfl (Nat.le_of_ble_eq_true rfl) dLaw_1486 ⟨by rw [hR1]; omega, by rw [hR2]; omega⟩ (fun r226 H locs hr226 hW => ?_)
  refine lv_pop hx hb dLaw_1489 rfl ?_
  refine lv_aload_n hx hb dLaw_1490 rfl (lv_at hl 1 rfl) ?_
  refine lv_aload_n hx hb dLaw_1491 rfl (lv_at hl 3 rfl) ?_
  refine lv_iload_n hx hb dLaw_1492 rfl (lv_at hl 0 rfl) ?_
  refine lv_iconst (v := 1) hx hb dLaw_1493 (by decide) ?_
  refine lv_iadd hx hb dLaw_1494 ?_
  refine lv_topi (fun z227 ez227 => ?_)
  have tz227 := iv_add (Y := 1) ti (by decide) ez227 (by omega) (by omega)
  refine va_sld hx hb hX hbl hbA hW.2.2.2.2.2.2.2 (iv_in (X := (i : Int) + 1) (by omega) (by omega) (by omega)) dLaw_1495 ?_
  rw [show z227.toNatClampNeg = i + 1 from by show z227.toInt.toNat = _; omega]
  refine lm_i (post := fun _ => True) (As := [.int (xs (i + 1))]) (rest := []) (n := 1) (d := 69) ⟨hx, hb, hml, hown, hts⟩ (c_X12_pairs l E D Gm ma hW.2.2.2.1 (xs (i + 1))) wd_1769 wd_1770 wd_1771 wd_13 wd_1772 (by decide +kernel) ⟨Nat.le_of_ble_eq_true rfl, Nat.le_of_ble_eq_true rfl⟩ hW hN hK rfl hl.1 rfl (Nat.le_of_ble_eq_true rfl) dLaw_1496 ⟨by rw [hR1]; omega, by rw [hR2]; omega⟩ (fun r228 H locs hr228 hW => ?_)
  refine lv_pop hx hb dLaw_1499 rfl ?_
  refine lv_goto (tgt := 2004) hx hb dLaw_1500 (by decide) ?_
  exact W.widen (k := cells + 18) (n := slots + 441) (by omega) (by omega) (kk _ _ _ _ _ X0 hW hT)
