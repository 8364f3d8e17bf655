set_option maxHeartbeats 4000000 in
set_option maxRecDepth 100000 in
theorem law_c39 {p : Program} {e : Env} {s : State} {m : MethodId} {below : List Frame} {meth : Method} {c : Code} {l : Launch} {b L : Nat} {xs : Nat → Int32} (C0 : lw_At p s m meth c b L xs) {E : Nat → Nat} {D : va_G} {adK adV : Nat → Nat} (X0 : LCx E D adK adV s) {xa ma i : Nat} (hi : i + 7 ≤ L) (hL : L ≤ 3584) {Gc Gm : th_G} {nn : Nat} {H : Heap} {locs : List Loc} (hW : LWs E D s xa ma Gc Gm nn H locs) (hT : TI E Gc xa nn) (hU : UQ Gm 1 ∧ UQ Gm 2 ∧ UQ Gm 11) {cells slots : Nat} (hc1 : cells + 18 ≤ 600000) (hc2 : slots + 441 ≤ 7302250) {ls : Array Slot} (hl : lv_has ls 4 [(3, .int (nI i)), (2, .ref ma), (1, .ref xa), (0, .ref b)]) (kk : ∀ (E : Nat → Nat) (Gc : th_G) (nn : Nat) (H : Heap) (locs : List Loc), LCx E D adK adV s → LWs E D s xa ma Gc Gm nn H locs → TI E Gc xa nn → W p l e room_1 s m #[Value.ref b] below meth c H locs (cells + 18) (slots + 441) (lw_Z below #[Value.ref b] s) (F0 m 2004 ls [])) : W p l e room_1 s m #[Value.ref b] below meth c H locs cells slots (lw_Z below #[Value.ref b] s) (F0 m 1635 ls []) := by
  obtain ⟨hx, hb, hr, hml, hown, hts0, hX, hbl, hlocks, hgv⟩ := id C0
  obtain ⟨hN, hK, hWS, hCL, hAO⟩ := id X0
  have hbA : ¬ LWa s b := Nat.not_le.mpr hbl
  have hts := lw_tb (w := Cond.initialized RX12) wd_13 hts0
  have hR1 : room_1.cells = 600000 := rfl
  have hR2 : room_1.slots = 7302250 := rfl
  have ti : (nI i).toInt = (i : Int) := nI_toInt (by omega)
  refine lv_aload_n hx hb dLaw_1635 rfl (lv_at hl 2 rfl) ?_
  refine lv_aload_n hx hb dLaw_1636 rfl (lv_at hl 3 rfl) ?_
  refine lv_iload_n hx hb dLaw_1637 rfl (lv_at hl 0 rfl) ?_
  refine lv_iconst (v := 1) hx hb dLaw_1638 (by decide) ?_
  refine lv_iadd hx hb dLaw_1639 ?_
  refine lv_topi (fun z253 ez253 => ?_)
  have tz253 := iv_add (Y := 1) ti (by decide) ez253 (by omega) (by omega)
  refine va_sld hx hb hX hbl hbA hW.2.2.2.2.2.2.2 (iv_in (X := (i : Int) + 1) (by omega) (by omega) (by omega)) dLaw_1640 ?_
  rw [show z253.toNatClampNeg = i + 1 from by show z253.toInt.toNat = _; omega]
  refine lv_aload_n hx hb dLaw_1641 rfl (lv_at hl 3 rfl) ?_
  refine lv_iload_n hx hb dLaw_1642 rfl (lv_at hl 0 rfl) ?_
  refine lv_iconst (v := 2) hx hb dLaw_1643 (by decide) ?_
  refine lv_iadd hx hb dLaw_1644 ?_
  refine lv_topi (fun z254 ez254 => ?_)
  have tz254 := iv_add (Y := 2) ti (by decide) ez254 (by omega) (by omega)
  refine va_sld hx hb hX hbl hbA hW.2.2.2.2.2.2.2 (iv_in (X := (i : Int) + 2) (by omega) (by omega) (by omega)) dLaw_1645 ?_
  rw [show z254.toNatClampNeg = i + 2 from by show z254.toInt.toNat = _; omega]
  refine lv_aload_n hx hb dLaw_1646 rfl (lv_at hl 3 rfl) ?_
  refine lv_iload_n hx hb dLaw_1647 rfl (lv_at hl 0 rfl) ?_
  refine lv_iconst (v := 3) hx hb dLaw_1648 (by decide) ?_
  refine lv_iadd hx hb dLaw_1649 ?_
  refine lv_topi (fun z255 ez255 => ?_)
  have tz255 := iv_add (Y := 3) ti (by decide) ez255 (by omega) (by omega)
  refine va_sld hx hb hX hbl hbA hW.2.2.2.2.2.2.2 (iv_in (X := (i : Int) + 3) (by omega) (by omega) (by omega)) dLaw_1650 ?_
  rw [show z255.toNatClampNeg = i + 3 from by show z255.toInt.toNat = _; omega]
  refine lc_i (As := [.int (xs (i + 1)), .int (xs (i + 2)), .int (xs (i + 3))]) (rest := []) (n := 3) (d := 7) ⟨hx, hb, hml, hown, hts⟩ (c_X11_duck l E D Gc xa nn hW.2.1 (xs (i + 1)) (xs (i + 2)) (xs (i + 3))) wd_1094 wd_1095 wd_1096 wd_1 wd_1097 (by decide +kernel) ⟨Nat.le_of_ble_eq_true rfl, Nat.le_of_ble_eq_true rfl⟩ hW hN hK rfl hl.1 rfl (Nat.le_of_ble_eq_true rfl) dLaw_1651 ⟨by rw [hR1]; omega, by rw [hR2]; omega⟩ (fun r256 H locs hr256 hW => ?_)
  refine lv_pop hx hb dLaw_1654 rfl ?_
  refine lv_aload_n hx hb dLaw_1655 rfl (lv_at hl 1 rfl) ?_
  refine lv_aload_n hx hb dLaw_1656 rfl (lv_at hl 3 rfl) ?_
  refine lv_iload_n hx hb dLaw_1657 rfl (lv_at hl 0 rfl) ?_
  refine lv_iconst (v := 1) hx hb dLaw_1658 (by decide) ?_
  refine lv_iadd hx hb dLaw_1659 ?_
  refine lv_topi (fun z257 ez257 => ?_)
  have tz257 := iv_add (Y := 1) ti (by decide) ez257 (by omega) (by omega)
  refine va_sld hx hb hX hbl hbA hW.2.2.2.2.2.2.2 (iv_in (X := (i : Int) + 1) (by omega) (by omega) (by omega)) dLaw_1660 ?_
  rw [show z257.toNatClampNeg = i + 1 from by show z257.toInt.toNat = _; omega]
  refine lv_aload_n hx hb dLaw_1661 rfl (lv_at hl 3 rfl) ?_
  refine lv_iload_n hx hb dLaw_1662 rfl (lv_at hl 0 rfl) ?_
  refine lv_iconst (v := 2) hx hb dLaw_1663 (by decide) ?_
  refine lv_iadd hx hb dLaw_1664 ?_
  refine lv_topi (fun z258 ez258 => ?_)
  have tz258 := iv_add (Y := 2) ti (by decide) ez258 (by omega) (by omega)
  refine va_sld hx hb hX hbl hbA hW.2.2.2.2.2.2.2 (iv_in (X := (i : Int) + 2) (by omega) (by omega) (by omega)) dLaw_1665 ?_
  rw [show z258.toNatClampNeg = i + 2 from by show z258.toInt.toNat = _; omega]
  refine lv_aload_n hx hb dLaw_1666 rfl (lv_at hl 3 rfl) ?_
  refine lv_iload_n hx hb dLaw_1667 rfl (lv_at hl 0 rfl) ?_
  refine lv_iconst (v := 3) hx hb dLaw_1668 (by decide) ?_
  refine lv_iadd hx hb dLaw_1669 ?_
  refine lv_topi (fun z259 ez259 => ?_)
  have tz259 := iv_add (Y := 3) ti (by decide) ez259 (by omega) (by omega)
  refine va_sld hx hb hX hbl hbA hW.2.2.2.2.2.2.2 (iv_in (X := (i : Int) + 3) (by omega) (by omega) (by omega)) dLaw_1670 ?_
  rw [show z259.toNatClampNeg = i + 3 from by show z259.toInt.toNat = _; omega]
  refine lm_i (post := fun _ => True) (As := [.int (xs (i + 1)), .int (xs (i + 2)), .int (xs (i + 3))]) (rest := []) (n := 3) (d := 69) ⟨hx, hb, hml, hown, hts⟩ (c_X12_duck l E D Gm ma hW.2.2.2.1 (xs (i + 1)) (xs (i + 2)) (xs (i + 3))) wd_1804 wd_1805 wd_1806 wd_13 wd_1807 (by decide +kernel) ⟨Nat.le_of_ble_eq_true rfl, Nat.le_of_ble_eq_true rfl⟩ hW hN hK rfl hl.1 rfl (Nat.le_of_ble_eq_true rfl) dLaw_1671 ⟨by rw [hR1]; omega, by rw [hR2]; omega⟩ (fun r260 H locs hr260 hW => ?_)
  refine lv_pop hx hb dLaw_1674 rfl ?_
  refine lv_goto (tgt := 2004) hx hb dLaw_1675 (by decide) ?_
  exact W.widen (k := cells + 18) (n := slots + 441) (by omega) (by omega) (kk _ _ _ _ _ X0 hW hT)
set_option maxHeartbeats 4000000 in
set_option maxRecDepth 100000 in
theorem law_c40 {p : Program} {e : Env} {s : State} {m : MethodId} {below : List Frame} {meth : Method} {c : Code} {l : Launch} {b L : Nat} {xs : Nat → Int32} (C0 : lw_At p s m meth c b L xs) {E : Nat → Nat} {D : va_G} {adK adV : Nat → Nat} (X0 : LCx E D adK adV s) {xa ma i : Nat} (hi : i + 7 ≤ L) (hL : L ≤ 3584) {Gc Gm : th_G} {nn : Nat} {H : Heap} {locs : List Loc} (hW : LWs E D s xa ma Gc Gm nn H locs) (hT : TI E Gc xa nn) (hU : UQ Gm 1 ∧ UQ Gm 2 ∧ UQ Gm 11) {cells slots : Nat} (hc1 : cells + 18 ≤ 600000) (hc2 : slots + 441 ≤ 7302250) {ls : Array Slot} (hl : lv_has ls 4 [(3, .int (nI i)), (2, .ref ma), (1, .ref xa), (0, .ref b)]) (kk : ∀ (E : Nat → Nat) (Gc : th_G) (nn : Nat) (H : Heap) (locs : List Loc), LCx E D adK adV s → LWs E D s xa ma Gc Gm nn H locs → TI E Gc xa nn → W p l e room_1 s m #[Value.ref b] below meth c H locs (cells + 18) (slots + 441) (lw_Z below #[Value.ref b] s) (F0 m 2004 ls [])) : W p l e room_1 s m #[Value.ref b] below meth c H locs cells slots (lw_Z below #[Value.ref b] s) (F0 m 1678 ls []) := by
  obtain ⟨hx, hb, hr, hml, hown, hts0, hX, hbl, hlocks, hgv⟩ := id C0
  obtain ⟨hN, hK, hWS, hCL, hAO⟩ := id X0
  have hbA : ¬ LWa s b := Nat.not_le.mpr hbl
  have hts := lw_tb (w := Cond.initialized RX12) wd_13 hts0
  have hR1 : room_1.cells = 600000 := rfl
  have hR2 : room_1.slots = 7302250 := rfl
  have ti : (nI i).toInt = (i : Int) := nI_toInt (by omega)
  refine lv_aload_n hx hb dLaw_1678 rfl (lv_at hl 2 rfl) ?_
  refine lv_aload_n hx hb dLaw_1679 rfl (lv_at hl 3 rfl) ?_
  refine lv_iload_n hx hb dLaw_1680 rfl (lv_at hl 0 rfl) ?_
  refine lv_iconst (v := 1) hx hb dLaw_1681 (by decide) ?_
  refine lv_iadd hx hb dLaw_1682 ?_
  refine lv_topi (fun z261 ez261 => ?_)
  have tz261 := iv_add (Y := 1) ti (by decide) ez261 (by omega) (by omega)
  refine va_sld hx hb hX hbl hbA hW.2.2.2.2.2.2.2 (iv_in (X := (i : Int) + 1) (by omega) (by omega) (by omega)) dLaw_1683 ?_
  rw [show z261.toNatClampNeg = i + 1 from by show z261.toInt.toNat = _; omega]
  refine lv_aload_n hx hb dLaw_1684 rfl (lv_at hl 3 rfl) ?_
  refine lv_iload_n hx hb dLaw_1685 rfl (lv_at hl 0 rfl) ?_
  refine lv_iconst (v := 2) hx hb dLaw_1686 (by decide) ?_
  refine lv_iadd hx hb dLaw_1687 ?_
  refine lv_topi (fun z262 ez262 => ?_)
  have tz262 := iv_add (Y := 2) ti (by decide) ez262 (by omega) (by omega)
  refine va_sld hx hb hX hbl hbA hW.2.2.2.2.2.2.2 (iv_in (X := (i : Int) + 2) (by omega) (by omega) (by omega)) dLaw_1688 ?_
  rw [show z262.toNatClampNeg = i + 2 from by show z262.toInt.toNat = _; omega]
  refine lv_aload_n hx hb dLaw_1689 rfl (lv_at hl 3 rfl) ?_
  refine lv_iload_n hx hb dLaw_1690 rfl (lv_at hl 0 rfl) ?_
  refine lv_iconst (v := 3) hx hb dLaw_1691 (by decide) ?_
  refine lv_iadd hx hb dLaw_1692 ?_
  refine lv_topi (fun z263 ez263 => ?_)
  have tz263 := iv_add (Y := 3) ti (by decide) ez263 (by omega) (by omega)
  refine va_sld hx hb hX hbl hbA hW.2.2.2.2.2.2.2 (iv_in (X := (i : Int) + 3) (by omega) (by omega) (by omega)) dLaw_1693 ?_
  rw [show z263.toNatClampNeg = i + 3 from by show z263.toInt.toNat = _; omega]
  refine lv_aload_n hx hb dLaw_1694 rfl (lv_at hl 3 rfl) ?_
  refine lv_iload_n hx hb dLaw_1695 rfl (lv_at hl 0 rfl) ?_
  refine lv_iconst (v := 4) hx hb dLaw_1696 (by decide) ?_
  refine lv_iadd hx hb dLaw_1697 ?_
  refine lv_topi (fun z264 ez264 => ?_)
  have tz264 := iv_add (Y := 4) ti (by decide) ez264 (by omega) (by omega)
  refine va_sld hx hb hX hbl hbA hW.2.2.2.2.2.2.2 (iv_in (X := (i : Int) + 4) (by omega) (by omega) (by omega)) dLaw_1698 ?_
  rw [show z264.toNatClampNeg = i + 4 from by show z264.toInt.toNat = _; omega]
  refine lc_i (As := [.int (xs (i + 1)), .int (xs (i + 2)), .int (xs (i + 3)), .int (xs (i + 4))]) (rest := []) (n := 4) (d := 7) ⟨hx, hb, hml, hown, hts⟩ (c_X11_matters l E D Gc xa nn hW.2.1 (xs (i + 1)) (xs (i + 2)) (xs (i + 3)) (xs (i + 4))) wd_1105 wd_1106 wd_1107 wd_1 wd_1108 (by decide +kernel) ⟨Nat.le_of_ble_eq_true rfl, Nat.le_of_ble_eq_true rfl⟩ hW hN hK rfl hl.1 rfl (Nat.le_of_ble_eq_true rfl) dLaw_1699 ⟨by rw [hR1]; omega, by rw [hR2]; omega⟩ (fun r265 H locs hr265 hW => ?_)
  refine lv_pop hx hb dLaw_1702 rfl ?_
  refine lv_aload_n hx hb dLaw_1703 rfl (lv_at hl 1 rfl) ?_
  refine lv_aload_n hx hb dLaw_1704 rfl (lv_at hl 3 rfl) ?_
  refine lv_iload_n hx hb dLaw_1705 rfl (lv_at hl 0 rfl) ?_
  refine lv_iconst (v := 1) hx hb dLaw_1706 (by decide) ?_
  refine lv_iadd hx hb dLaw_1707 ?_
  refine lv_topi (fun z266 ez266 => ?_)
  have tz266 := iv_add (Y := 1) ti (by decide) ez266 (by omega) (by omega)
  refine va_sld hx hb hX hbl hbA hW.2.2.2.2.2.2.2 (iv_in (X := (i : Int) + 1) (by omega) (by omega) (by omega)) dLaw_1708 ?_
  rw [show z266.toNatClampNeg = i + 1 from by show z266.toInt.toNat = _; omega]
  refine lv_aload_n hx hb dLaw_1709 rfl (lv_at hl 3 rfl) ?_
  refine lv_iload_n hx hb dLaw_1710 rfl (lv_at hl 0 rfl) ?_
  refine lv_iconst (v := 2) hx hb dLaw_1711 (by decide) ?_
  refine lv_iadd hx hb dLaw_1712 ?_
  refine lv_topi (fun z267 ez267 => ?_)
  have tz267 := iv_add (Y := 2) ti (by decide) ez267 (by omega) (by omega)
  refine va_sld hx hb hX hbl hbA hW.2.2.2.2.2.2.2 (iv_in (X := (i : Int) + 2) (by omega) (by omega) (by omega)) dLaw_1713 ?_
  rw [show z267.toNatClampNeg = i + 2 from by show z267.toInt.toNat = _; omega]
  refine lv_aload_n hx hb dLaw_1714 rfl (lv_at hl 3 rfl) ?_
  refine lv_iload_n hx hb dLaw_1715 rfl (lv_at hl 0 rfl) ?_
  refine lv_iconst (v := 3) hx hb dLaw_1716 (by decide) ?_
  refine lv_iadd hx hb dLaw_1717 ?_
  refine lv_topi (fun z268 ez268 => ?_)
  have tz268 := iv_add (Y := 3) ti (by decide) ez268 (by omega) (by omega)
  refine va_sld hx hb hX hbl hbA hW.2.2.2.2.2.2.2 (iv_in (X := (i : Int) + 3) (by omega) (by omega) (by omega)) dLaw_1718 ?_
  rw [show z268.toNatClampNeg = i + 3 from by show z268.toInt.toNat = _; omega]
  refine lv_aload_n hx hb dLaw_1719 rfl (lv_at hl 3 rfl) ?_
  refine lv_iload_n hx hb dLaw_1720 rfl (lv_at hl 0 rfl) ?_
  refine lv_iconst (v := 4) hx hb dLaw_1721 (by decide) ?_
  refine lv_iadd hx hb dLaw_1722 ?_
  refine lv_topi (fun z269 ez269 => ?_)
  have tz269 := iv_add (Y := 4) ti (by decide) ez269 (by omega) (by omega)
  refine va_sld hx hb hX hbl hbA hW.2.2.2.2.2.2.2 (iv_in (X := (i : Int) + 4) (by omega) (by omega) (by omega)) dLaw_1723 ?_
  rw [show z269.toNatClampNeg = i + 4 from by show z269.toInt.toNat = _; omega]
  refine lm_i (post := fun _ => True) (As := [.int (xs (i + 1)), .int (xs (i + 2)), .int (xs (i + 3)), .int (xs (i + 4))]) (rest := []) (n := 4) (d := 69) ⟨hx, hb, hml, hown, hts⟩ (c_X12_matters l E D Gm ma hW.2.2.2.1 (xs (i + 1)) (xs (i + 2)) (xs (i + 3)) (xs (i + 4))) wd_1808 wd_1809 wd_1810 wd_13 wd_1811 (by decide +kernel) ⟨Nat.le_of_ble_eq_true rfl, Nat.le_of_ble_eq_true rfl⟩ hW hN hK rfl hl.1 rfl (Nat.le_of_ble_eq_true rfl) dLaw_1724 ⟨by rw [hR1]; omega, by rw [hR2]; omega⟩ (fun r270 H locs hr270 hW => ?_)
  refine lv_pop hx hb dLaw_1727 rfl ?_
  refine lv_goto (tgt := 2004) hx hb dLaw_1728 (by decide) ?_
  exact W.widen (k := cells + 18) (n := slots + 441) (by omega) (by omega) (kk _ _ _ _ _ X0 hW hT)
set_option maxHeartbeats 4000000 in
set_option maxRecDepth 100000 in
theorem law_c41 {p : Program} {e : Env} {s : State} {m : MethodId} {below : List Frame} {meth : Method} {c : Code} {l : Launch} {b L : Nat} {xs : Nat → Int32} (C0 : lw_At p s m meth c b L xs) {E : Nat → Nat} {D : va_G} {adK adV : Nat → Nat} (X0 : LCx E D adK adV s) {xa ma i : Nat} (hi : i + 7 ≤ L) (hL : L ≤ 3584) {Gc Gm : th_G} {nn : Nat} {H : Heap} {locs : List Loc} (hW : LWs E D s xa ma Gc Gm nn H locs) (hT : TI E Gc xa nn) (hU : UQ Gm 1 ∧ UQ Gm 2 ∧ UQ Gm 11) {cells slots : Nat} (hc1 : cells + 18 ≤ 600000) (hc2 : slots + 441 ≤ 7302250) {ls : Array Slot} (hl : lv_has ls 4 [(3, .int (nI i)), (2, .ref ma), (1, .ref xa), (0, .ref b)]) (kk : ∀ (E : Nat → Nat) (Gc : th_G) (nn : Nat) (H : Heap) (locs : List Loc), LCx E D adK adV s → LWs E D s xa ma Gc Gm nn H locs → TI E Gc xa nn → W p l e room_1 s m #[Value.ref b] below meth c H locs (cells + 18) (slots + 441) (lw_Z below #[Value.ref b] s) (F0 m 2004 ls [])) : W p l e room_1 s m #[Value.ref b] below meth c H locs cells slots (lw_Z below #[Value.ref b] s) (F0 m 1731 ls []) := by
  obtain ⟨hx, hb, hr, hml, hown, hts0, hX, hbl, hlocks, hgv⟩ := id C0
  obtain ⟨hN, hK, hWS, hCL, hAO⟩ := id X0
  have hbA : ¬ LWa s b := Nat.not_le.mpr hbl
  have hts := lw_tb (w := Cond.initialized RX12) wd_13 hts0
  have hR1 : room_1.cells = 600000 := rfl
  have hR2 : room_1.slots = 7302250 := rfl
  have ti : (nI i).toInt = (i : Int) := nI_toInt (by omega)
  refine lv_aload_n hx hb dLaw_1731 rfl (lv_at hl 2 rfl) ?_
  refine lv_aload_n hx hb dLaw_1732 rfl (lv_at hl 3 rfl) ?_
  refine lv_iload_n hx hb dLaw_1733 rfl (lv_at hl 0 rfl) ?_
  refine lv_iconst (v := 1) hx hb dLaw_1734 (by decide) ?_
  refine lv_iadd hx hb dLaw_1735 ?_
  refine lv_topi (fun z271 ez271 => ?_)
  have tz271 := iv_add (Y := 1) ti (by decide) ez271 (by omega) (by omega)
  refine va_sld hx hb hX hbl hbA hW.2.2.2.2.2.2.2 (iv_in (X := (i : Int) + 1) (by omega) (by omega) (by omega)) dLaw_1736 ?_
  rw [show z271.toNatClampNeg = i + 1 from by show z271.toInt.toNat = _; omega]
  refine lv_aload_n hx hb dLaw_1737 rfl (lv_at hl 3 rfl) ?_
  refine lv_iload_n hx hb dLaw_1738 rfl (lv_at hl 0 rfl) ?_
  refine lv_iconst (v := 2) hx hb dLaw_1739 (by decide) ?_
  refine lv_iadd hx hb dLaw_1740 ?_
  refine lv_topi (fun z272 ez272 => ?_)
  have tz272 := iv_add (Y := 2) ti (by decide) ez272 (by omega) (by omega)
  refine va_sld hx hb hX hbl hbA hW.2.2.2.2.2.2.2 (iv_in (X := (i : Int) + 2) (by omega) (by omega) (by omega)) dLaw_1741 ?_
  rw [show z272.toNatClampNeg = i + 2 from by show z272.toInt.toNat = _; omega]
  refine lv_aload_n hx hb dLaw_1742 rfl (lv_at hl 3 rfl) ?_
  refine lv_iload_n hx hb dLaw_1743 rfl (lv_at hl 0 rfl) ?_
  refine lv_iconst (v := 3) hx hb dLaw_1744 (by decide) ?_
  refine lv_iadd hx hb dLaw_1745 ?_
  refine lv_topi (fun z273 ez273 => ?_)
  have tz273 := iv_add (Y := 3) ti (by decide) ez273 (by omega) (by omega)
  refine va_sld hx hb hX hbl hbA hW.2.2.2.2.2.2.2 (iv_in (X := (i : Int) + 3) (by omega) (by omega) (by omega)) dLaw_1746 ?_
  rw [show z273.toNatClampNeg = i + 3 from by show z273.toInt.toNat = _; omega]
  refine lv_aload_n hx hb dLaw_1747 rfl (lv_at hl 3 rfl) ?_
  refine lv_iload_n hx hb dLaw_1748 rfl (lv_at hl 0 rfl) ?_
  refine lv_iconst (v := 4) hx hb dLaw_1749 (by decide) ?_
  refine lv_iadd hx hb dLaw_1750 ?_
  refine lv_topi (fun z274 ez274 => ?_)
  have tz274 := iv_add (Y := 4) ti (by decide) ez274 (by omega) (by omega)
  refine va_sld hx hb hX hbl hbA hW.2.2.2.2.2.2.2 (iv_in (X := (i : Int) + 4) (by omega) (by omega) (by omega)) dLaw_1751 ?_
  rw [show z274.toNatClampNeg = i + 4 from by show z274.toInt.toNat = _; omega]
  refine lc_i (As := [.int (xs (i + 1)), .int (xs (i + 2)), .int (xs (i + 3)), .int (xs (i + 4))]) (rest := []) (n := 4) (d := 2) ⟨hx, hb, hml, hown, hts⟩ (c_X11_wish l E D Gc xa nn hW.2.1 (xs (i + 1)) (xs (i + 2)) (xs (i + 3)) (xs (i + 4))) wd_1122 wd_1123 wd_1124 wd_1 wd_1125 (by decide +kernel) ⟨Nat.le_of_ble_eq_true rfl, Nat.le_of_ble_eq_true rfl⟩ hW hN hK rfl hl.1 rfl (Nat.le_of_ble_eq_true rfl) dLaw_1752 ⟨by rw [hR1]; omega, by rw [hR2]; omega⟩ (fun r275 H locs hr275 hW => ?_)
  refine lv_pop hx hb dLaw_1755 rfl ?_
  refine lv_aload_n hx hb dLaw_1756 rfl (lv_at hl 1 rfl) ?_
  refine lv_aload_n hx hb dLaw_1757 rfl (lv_at hl 3 rfl) ?_
  refine lv_iload_n hx hb dLaw_1758 rfl (lv_at hl 0 rfl) ?_
  refine lv_iconst (v := 1) hx hb dLaw_1759 (by decide) ?_
  refine lv_iadd hx hb dLaw_1760 ?_
  refine lv_topi (fun z276 ez276 => ?_)
  have tz276 := iv_add (Y := 1) ti (by decide) ez276 (by omega) (by omega)
  refine va_sld hx hb hX hbl hbA hW.2.2.2.2.2.2.2 (iv_in (X := (i : Int) + 1) (by omega) (by omega) (by omega)) dLaw_1761 ?_
  rw [show z276.toNatClampNeg = i + 1 from by show z276.toInt.toNat = _; omega]
  refine lv_aload_n hx hb dLaw_1762 rfl (lv_at hl 3 rfl) ?_
  refine lv_iload_n hx hb dLaw_1763 rfl (lv_at hl 0 rfl) ?_
  refine lv_iconst (v := 2) hx hb dLaw_1764 (by decide) ?_
  refine lv_iadd hx hb dLaw_1765 ?_
  refine lv_topi (fun z277 ez277 => ?_)
  have tz277 := iv_add (Y := 2) ti (by decide) ez277 (by omega) (by omega)
  refine va_sld hx hb hX hbl hbA hW.2.2.2.2.2.2.2 (iv_in (X := (i : Int) + 2) (by omega) (by omega) (by omega)) dLaw_1766 ?_
  rw [show z277.toNatClampNeg = i + 2 from by show z277.toInt.toNat = _; omega]
  refine lv_aload_n hx hb dLaw_1767 rfl (lv_at hl 3 rfl) ?_
  refine lv_iload_n hx hb dLaw_1768 rfl (lv_at hl 0 rfl) ?_
  refine lv_iconst (v := 3) hx hb dLaw_1769 (by decide) ?_
  refine lv_iadd hx hb dLaw_1770 ?_
  refine lv_topi (fun z278 ez278 => ?_)
  have tz278 := iv_add (Y := 3) ti (by decide) ez278 (by omega) (by omega)
  refine va_sld hx hb hX hbl hbA hW.2.2.2.2.2.2.2 (iv_in (X := (i : Int) + 3) (by omega) (by omega) (by omega)) dLaw_1771 ?_
  rw [show z278.toNatClampNeg = i + 3 from by show z278.toInt.toNat = _; omega]
  refine lv_aload_n hx hb dLaw_1772 rfl (lv_at hl 3 rfl) ?_
  refine lv_iload_n hx hb dLaw_1773 rfl (lv_at hl 0 rfl) ?_
  refine lv_iconst (v := 4) hx hb dLaw_1774 (by decide) ?_
  refine lv_iadd hx hb dLaw_1775 ?_
  refine lv_topi (fun z279 ez279 => ?_)
  have tz279 := iv_add (Y := 4) ti (by decide) ez279 (by omega) (by omega)
  refine va_sld hx hb hX hbl hbA hW.2.2.2.2.2.2.2 (iv_in (X := (i : Int) + 4) (by omega) (by omega) (by omega)) dLaw_1776 ?_
  rw [show z279.toNatClampNeg = i + 4 from by show z279.toInt.toNat = _; omega]
  refine lm_i (post := fun _ => True) (As := [.int (xs (i + 1)), .int (xs (i + 2)), .int (xs (i + 3)), .int (xs (i + 4))]) (rest := []) (n := 4) (d := 2) ⟨hx, hb, hml, hown, hts⟩ (c_X12_wish l E D Gm ma hW.2.2.2.1 (xs (i + 1)) (xs (i + 2)) (xs (i + 3)) (xs (i + 4))) wd_1812 wd_1813 wd_1814 wd_13 wd_1815 (by decide +kernel) ⟨Nat.le_of_ble_eq_true rfl, Nat.le_of_ble_eq_true rfl⟩ hW hN hK rfl hl.1 rfl (Nat.le_of_ble_eq_true rfl) dLaw_1777 ⟨by rw [hR1]; omega, by rw [hR2]; omega⟩ (fun r280 H locs hr280 hW => ?_)
  refine lv_pop hx hb dLaw_1780 rfl ?_
  refine lv_goto (tgt := 2004) hx hb dLaw_1781 (by decide) ?_
  exact W.widen (k := cells + 18) (n := slots + 441) (by omega) (by omega) (kk _ _ _ _ _ X0 hW hT)
set_option maxHeartbeats 4000000 in
set_option maxRecDepth 100000 in
theorem law_c42 {p : Program} {e : Env} {s : State} {m : MethodId} {below : List Frame} {meth : Method} {c : Code} {l : Launch} {b L : Nat} {xs : Nat → Int32} (C0 : lw_At p s m meth c b L xs) {E : Nat → Nat} {D : va_G} {adK adV : Nat → Nat} (X0 : LCx E D adK adV s) {xa ma i : Nat} (hi : i + 7 ≤ L) (hL : L ≤ 3584) {Gc Gm : th_G} {nn : Nat} {H : Heap} {locs : List Loc} (hW : LWs E D s xa ma Gc Gm nn H locs) (hT : TI E Gc xa nn) (hU : UQ Gm 1 ∧ UQ Gm 2 ∧ UQ Gm 11) {cells slots : Nat} (hc1 : cells + 18 ≤ 600000) (hc2 : slots + 441 ≤ 7302250) {ls : Array Slot} (hl : lv_has ls 4 [(3, .int (nI i)), (2, .ref ma), (1, .ref xa), (0, .ref b)]) (kk : ∀ (E : Nat → Nat) (Gc : th_G) (nn : Nat) (H : Heap) (locs : List Loc), LCx E D adK adV s → LWs E D s xa ma Gc Gm nn H locs → TI E Gc xa nn → W p l e room_1 s m #[Value.ref b] below meth c H locs (cells + 18) (slots + 441) (lw_Z below #[Value.ref b] s) (F0 m 2004 ls [])) : W p l e room_1 s m #[Value.ref b] below meth c H locs cells slots (lw_Z below #[Value.ref b] s) (F0 m 1784 ls []) := by
  obtain ⟨hx, hb, hr, hml, hown, hts0, hX, hbl, hlocks, hgv⟩ := id C0
  obtain ⟨hN, hK, hWS, hCL, hAO⟩ := id X0
  have hbA : ¬ LWa s b := Nat.not_le.mpr hbl
  have hts := lw_tb (w := Cond.initialized RX12) wd_13 hts0
  have hR1 : room_1.cells = 600000 := rfl
  have hR2 : room_1.slots = 7302250 := rfl
  have ti : (nI i).toInt = (i : Int) := nI_toInt (by omega)
  refine lv_aload_n hx hb dLaw_1784 rfl (lv_at hl 2 rfl) ?_
  refine lc_i (As := []) (rest := []) (n := 0) (d := 2) ⟨hx, hb, hml, hown, hts⟩ (c_X11_drop l E D Gc xa nn hW.2.1 ) wd_1126 wd_1127 wd_1128 wd_1 wd_1129 (by decide +kernel) ⟨Nat.le_of_ble_eq_true rfl, Nat.le_of_ble_eq_true rfl⟩ hW hN hK rfl hl.1 rfl (Nat.le_of_ble_eq_true rfl) dLaw_1785 ⟨by rw [hR1]; omega, by rw [hR2]; omega⟩ (fun r281 H locs hr281 hW => ?_)
  refine lv_pop hx hb dLaw_1788 rfl ?_
  refine lv_aload_n hx hb dLaw_1789 rfl (lv_at hl 1 rfl) ?_
  refine lm_i (post := fun _ => True) (As := []) (rest := []) (n := 0) (d := 1) ⟨hx, hb, hml, hown, hts⟩ (c_X12_drop l E D Gm ma hW.2.2.2.1 ) wd_1816 wd_1817 wd_1818 wd_13 wd_1819 (by decide +kernel) ⟨Nat.le_of_ble_eq_true rfl, Nat.le_of_ble_eq_true rfl⟩ hW hN hK rfl hl.1 rfl (Nat.le_of_ble_eq_true rfl) dLaw_1790 ⟨by rw [hR1]; omega, by rw [hR2]; omega⟩ (fun r282 H locs hr282 hW => ?_)
  refine lv_pop hx hb dLaw_1793 rfl ?_
  refine lv_goto (tgt := 2004) hx hb dLaw_1794 (by decide) ?_
  exact W.widen (k := cells + 18) (n := slots + 441) (by omega) (by omega) (kk _ _ _ _ _ X0 hW hT)
set_option maxHeartbeats 4000000 in
set_option maxRecDepth 100000 in
theorem law_c43 {p : Program} {e : Env} {s : State} {m : MethodId} {below : List Frame} {meth : Method} {c : Code} {l : Launch} {b L : Nat} {xs : Nat → Int32} (C0 : lw_At p s m meth c b L xs) {E : Nat → Nat} {D : va_G} {adK adV : Nat → Nat} (X0 : LCx E D adK adV s) {xa ma i : Nat} (hi : i + 7 ≤ L) (hL : L ≤ 3584) {Gc Gm : th_G} {nn : Nat} {H : Heap} {locs : List Loc} (hW : LWs E D s xa ma Gc Gm nn H locs) (hT : TI E Gc xa nn) (hU : UQ Gm 1 ∧ UQ Gm 2 ∧ UQ Gm 11) {cells slots : Nat} (hc1 : cells + 18 ≤ 600000) (hc2 : slots + 441 ≤ 7302250) {ls : Array Slot} (hl : lv_has ls 4 [(3, .int (nI i)), (2, .ref ma), (1, .ref xa), (0, .ref b)]) (kk : ∀ (E : Nat → Nat) (Gc : th_G) (nn : Nat) (H : Heap) (locs : List Loc), LCx E D adK adV s → LWs E D s xa ma Gc Gm nn H locs → TI E Gc xa nn → W p l e room_1 s m #[Value.ref b] below meth c H locs (cells + 18) (slots + 441) (lw_Z below #[Value.ref b] s) (F0 m 2004 ls [])) : W p l e room_1 s m #[Value.ref b] below meth c H locs cells slots (lw_Z below #[Value.ref b] s) (F0 m 1797 ls []) := by
  obtain ⟨hx, hb, hr, hml, hown, hts0, hX, hbl, hlocks, hgv⟩ := id C0
  obtain ⟨hN, hK, hWS, hCL, hAO⟩ := id X0
  have hbA : ¬ LWa s b := Nat.not_le.mpr hbl
  have hts := lw_tb (w := Cond.initialized RX12) wd_13 hts0
  have hR1 : room_1.cells = 600000 := rfl
  have hR2 : room_1.slots = 7302250 := rfl
  have ti : (nI i).toInt = (i : Int) := nI_toInt (by omega)
  refine lv_aload_n hx hb dLaw_1797 rfl (lv_at hl 2 rfl) ?_
  refine lc_i (As := []) (rest := []) (n := 0) (d := 7) ⟨hx, hb, hml, hown, hts⟩ (c_X11_granted l E D Gc xa nn hW.2.1 ) wd_1130 wd_1131 wd_1132 wd_1 wd_1133 (by decide +kernel) ⟨Nat.le_of_ble_eq_true rfl, Nat.le_of_ble_eq_true rfl⟩ hW hN hK rfl hl.1 rfl (Nat.le_of_ble_eq_true rfl) dLaw_1798 ⟨by rw [hR1]; omega, by rw [hR2]; omega⟩ (fun r283 H locs hr283 hW => ?_)
  refine lv_pop hx hb dLaw_1801 rfl ?_
  refine lv_aload_n hx hb dLaw_1802 rfl (lv_at hl 1 rfl) ?_
  refine lm_i (post := fun _ => True) (As := []) (rest := []) (n := 0) (d := 69) ⟨hx, hb, hml, hown, hts⟩ (c_X12_granted l E D Gm ma hW.2.2.2.1 ) wd_1820 wd_1821 wd_1822 wd_13 wd_1823 (by decide +kernel) ⟨Nat.le_of_ble_eq_true rfl, Nat.le_of_ble_eq_true rfl⟩ hW hN hK rfl hl.1 rfl (Nat.le_of_ble_eq_true rfl) dLaw_1803 ⟨by rw [hR1]; omega, by rw [hR2]; omega⟩ (fun r284 H locs hr284 hW => ?_)
  refine lv_pop hx hb dLaw_1806 rfl ?_
  refine lv_goto (tgt := 2004) hx hb dLaw_1807 (by decide) ?_
  exact W.widen (k := cells + 18) (n := slots + 441) (by omega) (by omega) (kk _ _ _ _ _ X0 hW hT)
set_option maxHeartbeats 4000000 in
set_option maxRecDepth 100000 in
theorem law_c44 {p : Program} {e : Env} {s : State} {m : MethodId} {below : List Frame} {meth : Method} {c : Code} {l : Launch} {b L : Nat} {xs : Nat → Int32} (C0 : lw_At p s m meth c b L xs) {E : Nat → Nat} {D : va_G} {adK adV : Nat → Nat} (X0 : LCx E D adK adV s) {xa ma i : Nat} (hi : i + 7 ≤ L) (hL : L ≤ 3584) {Gc Gm : th_G} {nn : Nat} {H : Heap} {locs : List Loc} (hW : LWs E D s xa ma Gc Gm nn H locs) (hT : TI E Gc xa nn) (hU : UQ Gm 1 ∧ UQ Gm 2 ∧ UQ Gm 11) {cells slots : Nat} (hc1 : cells + 18 ≤ 600000) (hc2 : slots + 441 ≤ 7302250) {ls : Array Slot} (hl : lv_has ls 4 [(3, .int (nI i)), (2, .ref ma), (1, .ref xa), (0, .ref b)]) (kk : ∀ (E : Nat → Nat) (Gc : th_G) (nn : Nat) (H : Heap) (locs : List Loc), LCx E D adK adV s → LWs E D s xa ma Gc Gm nn H locs → TI E Gc xa nn → W p l e room_1 s m #[Value.ref b] below meth c H locs (cells + 18) (slots + 441) (lw_Z below #[Value.ref b] s) (F0 m 2004 ls [])) : W p l e room_1 s m #[Value.ref b] below meth c H locs cells slots (lw_Z below #[Value.ref b] s) (F0 m 1810 ls []) := by
  obtain ⟨hx, hb, hr, hml, hown, hts0, hX, hbl, hlocks, hgv⟩ := id C0
  obtain ⟨hN, hK, hWS, hCL, hAO⟩ := id X0
  have hbA : ¬ LWa s b := Nat.not_le.mpr hbl
  have hts := lw_tb (w := Cond.initialized RX12) wd_13 hts0
  have hR1 : room_1.cells = 600000 := rfl
  have hR2 : room_1.slots = 7302250 := rfl
  have ti : (nI i).toInt = (i : Int) := nI_toInt (by omega)
  refine lv_aload_n hx hb dLaw_1810 rfl (lv_at hl 2 rfl) ?_
  refine lv_aload_n hx hb dLaw_1811 rfl (lv_at hl 3 rfl) ?_
  refine lv_iload_n hx hb dLaw_1812 rfl (lv_at hl 0 rfl) ?_
  refine lv_iconst (v := 1) hx hb dLaw_1813 (by decide) ?_
  refine lv_iadd hx hb dLaw_1814 ?_
  refine lv_topi (fun z285 ez285 => ?_)
  have tz285 := iv_add (Y := 1) ti (by decide) ez285 (by omega) (by omega)
  refine va_sld hx hb hX hbl hbA hW.2.2.2.2.2.2.2 (iv_in (X := (i : Int) + 1) (by omega) (by omega) (by omega)) dLaw_1815 ?_
  rw [show z285.toNatClampNeg = i + 1 from by show z285.toInt.toNat = _; omega]
  refine lv_aload_n hx hb dLaw_1816 rfl (lv_at hl 3 rfl) ?_
  refine lv_iload_n hx hb dLaw_1817 rfl (lv_at hl 0 rfl) ?_
  refine lv_iconst (v := 2) hx hb dLaw_1818 (by decide) ?_
  refine lv_iadd hx hb dLaw_1819 ?_
  refine lv_topi (fun z286 ez286 => ?_)
  have tz286 := iv_add (Y := 2) ti (by decide) ez286 (by omega) (by omega)
  refine va_sld hx hb hX hbl hbA hW.2.2.2.2.2.2.2 (iv_in (X := (i : Int) + 2) (by omega) (by omega) (by omega)) dLaw_1820 ?_
  rw [show z286.toNatClampNeg = i + 2 from by show z286.toInt.toNat = _; omega]
  refine lc_i (As := [.int (xs (i + 1)), .int (xs (i + 2))]) (rest := []) (n := 2) (d := 8) ⟨hx, hb, hml, hown, hts⟩ (c_X11_best l E D Gc xa nn hW.2.1 (xs (i + 1)) (xs (i + 2))) wd_1141 wd_1142 wd_1143 wd_1 wd_1144 (by decide +kernel) ⟨Nat.le_of_ble_eq_true rfl, Nat.le_of_ble_eq_true rfl⟩ hW hN hK rfl hl.1 rfl (Nat.le_of_ble_eq_true rfl) dLaw_1821 ⟨by rw [hR1]; omega, by rw [hR2]; omega⟩ (fun r287 H locs hr287 hW => ?_)
  refine lv_pop hx hb dLaw_1824 rfl ?_
  refine lv_aload_n hx hb dLaw_1825 rfl (lv_at hl 1 rfl) ?_
  refine lv_aload_n hx hb dLaw_1826 rfl (lv_at hl 3 rfl) ?_
  refine lv_iload_n hx hb dLaw_1827 rfl (lv_at hl 0 rfl) ?_
  refine lv_iconst (v := 1) hx hb dLaw_1828 (by decide) ?_
  refine lv_iadd hx hb dLaw_1829 ?_
  refine lv_topi (fun z288 ez288 => ?_)
  have tz288 := iv_add (Y := 1) ti (by decide) ez288 (by omega) (by omega)
  refine va_sld hx hb hX hbl hbA hW.2.2.2.2.2.2.2 (iv_in (X := (i : Int) + 1) (by omega) (by omega) (by omega)) dLaw_1830 ?_
  rw [show z288.toNatClampNeg = i + 1 from by show z288.toInt.toNat = _; omega]
  refine lv_aload_n hx hb dLaw_1831 rfl (lv_at hl 3 rfl) ?_
  refine lv_iload_n hx hb dLaw_1832 rfl (lv_at hl 0 rfl) ?_
  refine lv_iconst (v := 2) hx hb dLaw_1833 (by decide) ?_
  refine lv_iadd hx hb dLaw_1834 ?_
  refine lv_topi (fun z289 ez289 => ?_)
  have tz289 := iv_add (Y := 2) ti (by decide) ez289 (by omega) (by omega)
  refine va_sld hx hb hX hbl hbA hW.2.2.2.2.2.2.2 (iv_in (X := (i : Int) + 2) (by omega) (by omega) (by omega)) dLaw_1835 ?_
  rw [show z289.toNatClampNeg = i + 2 from by show z289.toInt.toNat = _; omega]
  refine lm_i (post := fun _ => True) (As := [.int (xs (i + 1)), .int (xs (i + 2))]) (rest := []) (n := 2) (d := 70) ⟨hx, hb, hml, hown, hts⟩ (c_X12_best l E D Gm ma hW.2.2.2.1 (xs (i + 1)) (xs (i + 2))) wd_1828 wd_1829 wd_1830 wd_13 wd_1831 (by decide +kernel) ⟨Nat.le_of_ble_eq_true rfl, Nat.le_of_ble_eq_true rfl⟩ hW hN hK rfl hl.1 rfl (Nat.le_of_ble_eq_true rfl) dLaw_1836 ⟨by rw [hR1]; omega, by rw [hR2]; omega⟩ (fun r290 H locs hr290 hW => ?_)
  refine lv_pop hx hb dLaw_1839 rfl ?_
  refine lv_goto (tgt := 2004) hx hb dLaw_1840 (by decide) ?_
  exact W.widen (k := cells + 18) (n := slots + 441) (by omega) (by omega) (kk _ _ _ _ _ X0 hW hT)
set_option maxHeartbeats 4000000 in
set_option maxRecDepth 100000 in
theorem law_c45 {p : Program} {e : Env} {s : State} {m : MethodId} {below : List Frame} {meth : Method} {c : Code} {l : Launch} {b L : Nat} {xs : Nat → Int32} (C0 : lw_At p s m meth c b L xs) {E : Nat → Nat} {D : va_G} {adK adV : Nat → Nat} (X0 : LCx E D adK adV s) {xa ma i : Nat} (hi : i + 7 ≤ L) (hL : L ≤ 3584) {Gc Gm : th_G} {nn : Nat} {H : Heap} {locs : List Loc} (hW : LWs E D s xa ma Gc Gm nn H locs) (hT : TI E Gc xa nn) (hU : UQ Gm 1 ∧ UQ Gm 2 ∧ UQ Gm 11) {cells slots : Nat} (hc1 : cells + 18 ≤ 600000) (hc2 : slots + 441 ≤ 7302250) {ls : Array Slot} (hl : lv_has ls 4 [(3, .int (nI i)), (2, .ref ma), (1, .ref xa), (0, .ref b)]) (kk : ∀ (E : Nat → Nat) (Gc : th_G) (nn : Nat) (H : Heap) (locs : List Loc), LCx E D adK adV s → LWs E D s xa ma Gc Gm nn H locs → TI E Gc xa nn → W p l e room_1 s m #[Value.ref b] below meth c H locs (cells + 18) (slots + 441) (lw_Z below #[Value.ref b] s) (F0 m 2004 ls [])) : W p l e room_1 s m #[Value.ref b] below meth c H locs cells slots (lw_Z below #[Value.ref b] s) (F0 m 1843 ls []) := by
  obtain ⟨hx, hb, hr, hml, hown, hts0, hX, hbl, hlocks, hgv⟩ := id C0
  obtain ⟨hN, hK, hWS, hCL, hAO⟩ := id X0
  have hbA : ¬ LWa s b := Nat.not_le.mpr hbl
  have hts := lw_tb (w := Cond.initialized RX12) wd_13 hts0
  have hR1 : room_1.cells = 600000 := rfl
  have hR2 : room_1.slots = 7302250 := rfl
  have ti : (nI i).toInt = (i : Int) := nI_toInt (by omega)
  refine lv_aload_n hx hb dLaw_1843 rfl (lv_at hl 2 rfl) ?_
  refine lv_aload_n hx hb dLaw_1844 rfl (lv_at hl 3 rfl) ?_
  refine lv_iload_n hx hb dLaw_1845 rfl (lv_at hl 0 rfl) ?_
  refine lv_iconst (v := 1) hx hb dLaw_1846 (by decide) ?_
  refine lv_iadd hx hb dLaw_1847 ?_
  refine lv_topi (fun z291 ez291 => ?_)
  have tz291 := iv_add (Y := 1) ti (by decide) ez291 (by omega) (by omega)
  refine va_sld hx hb hX hbl hbA hW.2.2.2.2.2.2.2 (iv_in (X := (i : Int) + 1) (by omega) (by omega) (by omega)) dLaw_1848 ?_
  rw [show z291.toNatClampNeg = i + 1 from by show z291.toInt.toNat = _; omega]
  refine lc_i (As := [.int (xs (i + 1))]) (rest := []) (n := 1) (d := 8) ⟨hx, hb, hml, hown, hts⟩ (c_X11_set l E D Gc xa nn hW.2.1 (xs (i + 1))) wd_1172 wd_1173 wd_1174 wd_1 wd_1175 (by decide +kernel) ⟨Nat.le_of_ble_eq_true rfl, Nat.le_of_ble_eq_true rfl⟩ hW hN hK rfl hl.1 rfl (Nat.le_of_ble_eq_true rfl) dLaw_1849 ⟨by rw [hR1]; omega, by rw [hR2]; omega⟩ (fun r292 H locs hr292 hW => ?_)
  refine lv_pop hx hb dLaw_1852 rfl ?_
  refine lv_aload_n hx hb dLaw_1853 rfl (lv_at hl 1 rfl) ?_
  refine lv_aload_n hx hb dLaw_1854 rfl (lv_at hl 3 rfl) ?_
  refine lv_iload_n hx hb dLaw_1855 rfl (lv_at hl 0 rfl) ?_
  refine lv_iconst (v := 1) hx hb dLaw_1856 (by decide) ?_
  refine lv_iadd hx hb dLaw_1857 ?_
  refine lv_topi (fun z293 ez293 => ?_)
  have tz293 := iv_add (Y := 1) ti (by decide) ez293 (by omega) (by omega)
  refine va_sld hx hb hX hbl hbA hW.2.2.2.2.2.2.2 (iv_in (X := (i : Int) + 1) (by omega) (by omega) (by omega)) dLaw_1858 ?_
  rw [show z293.toNatClampNeg = i + 1 from by show z293.toInt.toNat = _; omega]
  refine lm_i (post := fun _ => True) (As := [.int (xs (i + 1))]) (rest := []) (n := 1) (d := 70) ⟨hx, hb, hml, hown, hts⟩ (c_X12_set l E D Gm ma hW.2.2.2.1 (xs (i + 1))) wd_1843 wd_1844 wd_1845 wd_13 wd_1846 (by decide +kernel) ⟨Nat.le_of_ble_eq_true rfl, Nat.le_of_ble_eq_true rfl⟩ hW hN hK rfl hl.1 rfl (Nat.le_of_ble_eq_true rfl) dLaw_1859 ⟨by rw [hR1]; omega, by rw [hR2]; omega⟩ (fun r294 H locs hr294 hW => ?_)
  refine lv_pop hx hb dLaw_1862 rfl ?_
  refine lv_goto (tgt := 2004) hx hb dLaw_1863 (by decide) ?_
  exact W.widen (k := cells + 18) (n := slots + 441) (by omega) (by omega) (kk _ _ _ _ _ X0 hW hT)
set_option maxHeartbeats 4000000 in
set_option maxRecDepth 100000 in
theorem law_c46 {p : Program} {e : Env} {s : State} {m : MethodId} {below : List Frame} {meth : Method} {c : Code} {l : Launch} {b L : Nat} {xs : Nat → Int32} (C0 : lw_At p s m meth c b L xs) {E : Nat → Nat} {D : va_G} {adK adV : Nat → Nat} (X0 : LCx E D adK adV s) {xa ma i : Nat} (hi : i + 7 ≤ L) (hL : L ≤ 3584) {Gc Gm : th_G} {nn : Nat} {H : Heap} {locs : List Loc} (hW : LWs E D s xa ma Gc Gm nn H locs) (hT : TI E Gc xa nn) (hU : UQ Gm 1 ∧ UQ Gm 2 ∧ UQ Gm 11) {cells slots : Nat} (hc1 : cells + 18 ≤ 600000) (hc2 : slots + 441 ≤ 7302250) {ls : Array Slot} (hl : lv_has ls 4 [(3, .int (nI i)), (2, .ref ma), (1, .ref xa), (0, .ref b)]) (kk : ∀ (E : Nat → Nat) (Gc : th_G) (nn : Nat) (H : Heap) (locs : List Loc), LCx E D adK adV s → LWs E D s xa ma Gc Gm nn H locs → TI E Gc xa nn → W p l e room_1 s m #[Value.ref b] below meth c H locs (cells + 18) (slots + 441) (lw_Z below #[Value.ref b] s) (F0 m 2004 ls [])) : W p l e room_1 s m #[Value.ref b] below meth c H locs cells slots (lw_Z below #[Value.ref b] s) (F0 m 1866 ls []) := by
  obtain ⟨hx, hb, hr, hml, hown, hts0, hX, hbl, hlocks, hgv⟩ := id C0
  obtain ⟨hN, hK, hWS, hCL, hAO⟩ := id X0
  have hbA : ¬ LWa s b := Nat.not_le.mpr hbl
  have hts := lw_tb (w := Cond.initialized RX12) wd_13 hts0
  have hR1 : room_1.cells = 600000 := rfl
  have hR2 : room_1.slots = 7302250 := rfl
  have ti : (nI i).toInt = (i : Int) := nI_toInt (by omega)
  refine lv_aload_n hx hb dLaw_1866 rfl (lv_at hl 2 rfl) ?_
  refine lv_aload_n hx hb dLaw_1867 rfl (lv_at hl 3 rfl) ?_
  refine lv_iload_n hx hb dLaw_1868 rfl (lv_at hl 0 rfl) ?_
  refine lv_iconst (v := 1) hx hb dLaw_1869 (by decide) ?_
  refine lv_iadd hx hb dLaw_1870 ?_
  refine lv_topi (fun z295 ez295 => ?_)
  have tz295 := iv_add (Y := 1) ti (by decide) ez295 (by omega) (by omega)
  refine va_sld hx hb hX hbl hbA hW.2.2.2.2.2.2.2 (iv_in (X := (i : Int) + 1) (by omega) (by omega) (by omega)) dLaw_1871 ?_
  rw [show z295.toNatClampNeg = i + 1 from by show z295.toInt.toNat = _; omega]
  refine lv_aload_n hx hb dLaw_1872 rfl (lv_at hl 3 rfl) ?_
  refine lv_iload_n hx hb dLaw_1873 rfl (lv_at hl 0 rfl) ?_
  refine lv_iconst (v := 2) hx hb dLaw_1874 (by decide) ?_
  refine lv_iadd hx hb dLaw_1875 ?_
  refine lv_topi (fun z296 ez296 => ?_)
  have tz296 := iv_add (Y := 2) ti (by decide) ez296 (by omega) (by omega)
  refine va_sld hx hb hX hbl hbA hW.2.2.2.2.2.2.2 (iv_in (X := (i : Int) + 2) (by omega) (by omega) (by omega)) dLaw_1876 ?_
  rw [show z296.toNatClampNeg = i + 2 from by show z296.toInt.toNat = _; omega]
  refine lc_i (As := [.int (xs (i + 1)), .int (xs (i + 2))]) (rest := []) (n := 2) (d := 8) ⟨hx, hb, hml, hown, hts⟩ (c_X11_week l E D Gc xa nn hW.2.1 (xs (i + 1)) (xs (i + 2))) wd_1177 wd_1178 wd_1179 wd_1 wd_1180 (by decide +kernel) ⟨Nat.le_of_ble_eq_true rfl, Nat.le_of_ble_eq_true rfl⟩ hW hN hK rfl hl.1 rfl (Nat.le_of_ble_eq_true rfl) dLaw_1877 ⟨by rw [hR1]; omega, by rw [hR2]; omega⟩ (fun r297 H locs hr297 hW => ?_)
  refine lv_pop hx hb dLaw_1880 rfl ?_
  refine lv_aload_n hx hb dLaw_1881 rfl (lv_at hl 1 rfl) ?_
  refine lv_aload_n hx hb dLaw_1882 rfl (lv_at hl 3 rfl) ?_
  refine lv_iload_n hx hb dLaw_1883 rfl (lv_at hl 0 rfl) ?_
  refine lv_iconst (v := 1) hx hb dLaw_1884 (by decide) ?_
  refine lv_iadd hx hb dLaw_1885 ?_
  refine lv_topi (fun z298 ez298 => ?_)
  have tz298 := iv_add (Y := 1) ti (by decide) ez298 (by omega) (by omega)
  refine va_sld hx hb hX hbl hbA hW.2.2.2.2.2.2.2 (iv_in (X := (i : Int) + 1) (by omega) (by omega) (by omega)) dLaw_1886 ?_
  rw [show z298.toNatClampNeg = i + 1 from by show z298.toInt.toNat = _; omega]
  refine lv_aload_n hx hb dLaw_1887 rfl (lv_at hl 3 rfl) ?_
  refine lv_iload_n hx hb dLaw_1888 rfl (lv_at hl 0 rfl) ?_
  refine lv_iconst (v := 2) hx hb dLaw_1889 (by decide) ?_
  refine lv_iadd hx hb dLaw_1890 ?_
  refine lv_topi (fun z299 ez299 => ?_)
  have tz299 := iv_add (Y := 2) ti (by decide) ez299 (by omega) (by omega)
  refine va_sld hx hb hX hbl hbA hW.2.2.2.2.2.2.2 (iv_in (X := (i : Int) + 2) (by omega) (by omega) (by omega)) dLaw_1891 ?_
  rw [show z299.toNatClampNeg = i + 2 from by show z299.toInt.toNat = _; omega]
  refine lm_i (post := fun _ => True) (As := [.int (xs (i + 1)), .int (xs (i + 2))]) (rest := []) (n := 2) (d := 68) ⟨hx, hb, hml, hown, hts⟩ (c_X12_week l E D Gm ma hW.2.2.2.1 (xs (i + 1)) (xs (i + 2))) wd_1847 wd_1848 wd_1849 wd_13 wd_1850 (by decide +kernel) ⟨Nat.le_of_ble_eq_true rfl, Nat.le_of_ble_eq_true rfl⟩ hW hN hK rfl hl.1 rfl (Nat.le_of_ble_eq_true rfl) dLaw_1892 ⟨by rw [hR1]; omega, by rw [hR2]; omega⟩ (fun r300 H locs hr300 hW => ?_)
  refine lv_pop hx hb dLaw_1895 rfl ?_
  refine lv_goto (tgt := 2004) hx hb dLaw_1896 (by decide) ?_
  exact W.widen (k := cells + 18) (n := slots + 441) (by omega) (by omega) (kk _ _ _ _ _ X0 hW hT)
set_option maxHeartbeats 4000000 in
set_option maxRecDepth 100000 in
theorem law_c47 {p : Program} {e : Env} {s : State} {m : MethodId} {below : List Frame} {meth : Method} {c : Code} {l : Launch} {b L : Nat} {xs : Nat → Int32} (C0 : lw_At p s m meth c b L xs) {E : Nat → Nat} {D : va_G} {adK adV : Nat → Nat} (X0 : LCx E D adK adV s) {xa ma i : Nat} (hi : i + 7 ≤ L) (hL : L ≤ 3584) {Gc Gm : th_G} {nn : Nat} {H : Heap} {locs : List Loc} (hW : LWs E D s xa ma Gc Gm nn H locs) (hT : TI E Gc xa nn) (hU : UQ Gm 1 ∧ UQ Gm 2 ∧ UQ Gm 11) {cells slots : Nat} (hc1 : cells + 18 ≤ 600000) (hc2 : slots + 441 ≤ 7302250) {ls : Array Slot} (hl : lv_has ls 4 [(3, .int (nI i)), (2, .ref ma), (1, .ref xa), (0, .ref b)]) (kk : ∀ (E : Nat → Nat) (Gc : th_G) (nn : Nat) (H : Heap) (locs : List Loc), LCx E D adK adV s → LWs E D s xa ma Gc Gm nn H locs → TI E Gc xa nn → W p l e room_1 s m #[Value.ref b] below meth c H locs (cells + 18) (slots + 441) (lw_Z below #[Value.ref b] s) (F0 m 2004 ls [])) : W p l e room_1 s m #[Value.ref b] below meth c H locs cells slots (lw_Z below #[Value.ref b] s) (F0 m 1899 ls []) := by
  obtain ⟨hx, hb, hr, hml, hown, hts0, hX, hbl, hlocks, hgv⟩ := id C0
  obtain ⟨hN, hK, hWS, hCL, hAO⟩ := id X0
  have hbA : ¬ LWa s b := Nat.not_le.mpr hbl
  have hts := lw_tb (w := Cond.initialized RX12) wd_13 hts0
  have hR1 : room_1.cells = 600000 := rfl
  have hR2 : room_1.slots = 7302250 := rfl
  have ti : (nI i).toInt = (i : Int) := nI_toInt (by omega)
  refine lv_aload_n hx hb dLaw_1899 rfl (lv_at hl 2 rfl) ?_
  refine lv_aload_n hx hb dLaw_1900 rfl (lv_at hl 3 rfl) ?_
  refine lv_iload_n hx hb dLaw_1901 rfl (lv_at hl 0 rfl) ?_
  refine lv_iconst (v := 1) hx hb dLaw_1902 (by decide) ?_
  refine lv_iadd hx hb dLaw_1903 ?_
  refine lv_topi (fun z301 ez301 => ?_)
  have tz301 := iv_add (Y := 1) ti (by decide) ez301 (by omega) (by omega)
  refine va_sld hx hb hX hbl hbA hW.2.2.2.2.2.2.2 (iv_in (X := (i : Int) + 1) (by omega) (by omega) (by omega)) dLaw_1904 ?_
  rw [show z301.toNatClampNeg = i + 1 from by show z301.toInt.toNat = _; omega]
  refine lc_i (As := [.int (xs (i + 1))]) (rest := []) (n := 1) (d := 1) ⟨hx, hb, hml, hown, hts⟩ (c_X11_drawn l E D Gc xa nn hW.2.1 (xs (i + 1))) wd_1194 wd_1195 wd_1196 wd_1 wd_1197 (by decide +kernel) ⟨Nat.le_of_ble_eq_true rfl, Nat.le_of_ble_eq_true rfl⟩ hW hN hK rfl hl.1 rfl (Nat.le_of_ble_eq_true rfl) dLaw_1905 ⟨by rw [hR1]; omega, by rw [hR2]; omega⟩ (fun r302 H locs hr302 hW => ?_)
  refine lv_pop hx hb dLaw_1908 rfl ?_
  refine lv_aload_n hx hb dLaw_1909 rfl (lv_at hl 1 rfl) ?_
  refine lv_aload_n hx hb dLaw_1910 rfl (lv_at hl 3 rfl) ?_
  refine lv_iload_n hx hb dLaw_1911 rfl (lv_at hl 0 rfl) ?_
  refine lv_iconst (v := 1) hx hb dLaw_1912 (by decide) ?_
  refine lv_iadd hx hb dLaw_1913 ?_
  refine lv_topi (fun z303 ez303 => ?_)
  have tz303 := iv_add (Y := 1) ti (by decide) ez303 (by omega) (by omega)
  refine va_sld hx hb hX hbl hbA hW.2.2.2.2.2.2.2 (iv_in (X := (i : Int) + 1) (by omega) (by omega) (by omega)) dLaw_1914 ?_
  rw [show z303.toNatClampNeg = i + 1 from by show z303.toInt.toNat = _; omega]
  refine lm_i (post := fun _ => True) (As := [.int (xs (i + 1))]) (rest := []) (n := 1) (d := 2) ⟨hx, hb, hml, hown, hts⟩ (c_X12_drawn l E D Gm ma hW.2.2.2.1 (xs (i + 1))) wd_1858 wd_1859 wd_1860 wd_13 wd_1861 (by decide +kernel) ⟨Nat.le_of_ble_eq_true rfl, Nat.le_of_ble_eq_true rfl⟩ hW hN hK rfl hl.1 rfl (Nat.le_of_ble_eq_true rfl) dLaw_1915 ⟨by rw [hR1]; omega, by rw [hR2]; omega⟩ (fun r304 H locs hr304 hW => ?_)
  refine lv_pop hx hb dLaw_1918 rfl ?_
  refine lv_goto (tgt := 2004) hx hb dLaw_1919 (by decide) ?_
  exact W.widen (k := cells + 18) (n := slots + 441) (by omega) (by omega) (kk _ _ _ _ _ X0 hW hT)
set_option maxHeartbeats 4000000 in
set_option maxRecDepth 100000 in
theorem law_c48 {p : Program} {e : Env} {s : State} {m : MethodId} {below : List Frame} {meth : Method} {c : Code} {l : Launch} {b L : Nat} {xs : Nat → Int32} (C0 : lw_At p s m meth c b L xs) {E : Nat → Nat} {D : va_G} {adK adV : Nat → Nat} (X0 : LCx E D adK adV s) {xa ma i : Nat} (hi : i + 7 ≤ L) (hL : L ≤ 3584) {Gc Gm : th_G} {nn : Nat} {H : Heap} {locs : List Loc} (hW : LWs E D s xa ma Gc Gm nn H locs) (hT : TI E Gc xa nn) (hU : UQ Gm 1 ∧ UQ Gm 2 ∧ UQ Gm 11) {cells slots : Nat} (hc1 : cells + 18 ≤ 600000) (hc2 : slots + 441 ≤ 7302250) {ls : Array Slot} (hl : lv_has ls 4 [(3, .int (nI i)), (2, .ref ma), (1, .ref xa), (0, .ref b)]) (kk : ∀ (E : Nat → Nat) (Gc : th_G) (nn : Nat) (H : Heap) (locs : List Loc), LCx E D adK adV s → LWs E D s xa ma Gc Gm nn H locs → TI E Gc xa nn → W p l e room_1 s m #[Value.ref b] below meth c H locs (cells + 18) (slots + 441) (lw_Z below #[Value.ref b] s) (F0 m 2004 ls [])) : W p l e room_1 s m #[Value.ref b] below meth c H locs cells slots (lw_Z below #[Value.ref b] s) (F0 m 1922 ls []) := by
  obtain ⟨hx, hb, hr, hml, hown, hts0, hX, hbl, hlocks, hgv⟩ := id C0
  obtain ⟨hN, hK, hWS, hCL, hAO⟩ := id X0
  have hbA : ¬ LWa s b := Nat.not_le.mpr hbl
  have hts := lw_tb (w := Cond.initialized RX12) wd_13 hts0
  have hR1 : room_1.cells = 600000 := rfl
  have hR2 : room_1.slots = 7302250 := rfl
  have ti : (nI i).toInt = (i : Int) := nI_toInt (by omega)
  refine lv_aload_n hx hb dLaw_1922 rfl (lv_at hl 2 rfl) ?_
  refine lv_aload_n hx hb dLaw_1923 rfl (lv_at hl 3 rfl) ?_
  refine lv_iload_n hx hb dLaw_1924 rfl (lv_at hl 0 rfl) ?_
  refine lv_iconst (v := 1) hx hb dLaw_1925 (by decide) ?_
  refine lv_iadd hx hb dLaw_1926 ?_
  refine lv_topi (fun z305 ez305 => ?_)
  have tz305 := iv_add (Y := 1) ti (by decide) ez305 (by omega) (by omega)
  refine va_sld hx hb hX hbl hbA hW.2.2.2.2.2.2.2 (iv_in (X := (i : Int) + 1) (by omega) (by omega) (by omega)) dLaw_1927 ?_
  rw [show z305.toNatClampNeg = i + 1 from by show z305.toInt.toNat = _; omega]
  obtain ⟨E, hEz, X0, hW, hT⟩ := ea_norm X0 hW hT
  obtain ⟨hN, hK, hWS, hCL, hAO⟩ := id X0
  obtain ⟨sa, t, hTS⟩ := id hT
  obtain ⟨u0, u1, f0, f1, hgB⟩ := TI_back (x := (xs (i + 1))) hTS
  have hsz0 : ∀ (q : Nat) (k : th_K), Gc q = some k → q < H.size := fun q k h => th_lt hW.1 h
  refine lc_im (As := [.int (xs (i + 1))]) (rest := []) (n := 1) ⟨hx, hb, hml, hown, hts⟩ (c_X11_image l E D Gc H.size xa nn hW.2.1 (xs (i + 1)) sa t hTS.1 hTS.2.1 u0 u1 f0 f1 hEz) mi_blind (fun U hU9 hWm => ⟨by rw [hU9], ⟨by rw [hU9]; exact hW.1, hN.warm hWm, va_K.moved hWm.alike hK⟩, hAO.moved hWm.alike⟩) wd_1198 wd_1199 wd_1200 wd_1 wd_1201 ⟨rfl, rfl⟩ (by decide +kernel) ⟨Nat.le_of_ble_eq_true rfl, Nat.le_of_ble_eq_true rfl⟩ hW hK rfl hl.1 rfl (Nat.le_of_ble_eq_true rfl) dLaw_1928 ⟨by rw [hR1]; omega, by rw [hR2]; omega⟩ (fun r306 Gc E1 H locs hr306 hle hq hW => ?_)
  have XE1 := LCx_eq (E' := E1) (fun j hj => IMQ_lo hq j (by omega)) X0
  obtain ⟨hN, hK, hWS, hCL, hAO⟩ := id XE1
  refine lv_pop hx hb dLaw_1931 rfl ?_
  refine lv_aload_n hx hb dLaw_1932 rfl (lv_at hl 1 rfl) ?_
  refine lv_aload_n hx hb dLaw_1933 rfl (lv_at hl 3 rfl) ?_
  refine lv_iload_n hx hb dLaw_1934 rfl (lv_at hl 0 rfl) ?_
  refine lv_iconst (v := 1) hx hb dLaw_1935 (by decide) ?_
  refine lv_iadd hx hb dLaw_1936 ?_
  refine lv_topi (fun z307 ez307 => ?_)
  have tz307 := iv_add (Y := 1) ti (by decide) ez307 (by omega) (by omega)
  refine va_sld hx hb hX hbl hbA hW.2.2.2.2.2.2.2 (iv_in (X := (i : Int) + 1) (by omega) (by omega) (by omega)) dLaw_1937 ?_
  rw [show z307.toNatClampNeg = i + 1 from by show z307.toInt.toNat = _; omega]
  refine lm_e (As := [.int (xs (i + 1))]) (rest := []) (n := 1) (d := 1) ⟨hx, hb, hml, hown, hts⟩ (c_X12_image l E1 D Gm ma hW.2.2.2.1 (xs (i + 1)) hU.2.1 hU.2.2) mI_lo wd_1391 wd_1392 wd_1393 wd_13 wd_1394 (by decide +kernel) ⟨Nat.le_of_ble_eq_true rfl, Nat.le_of_ble_eq_true rfl⟩ hW hN hK rfl hl.1 rfl (Nat.le_of_ble_eq_true rfl) dLaw_1938 ⟨by rw [hR1]; omega, by rw [hR2]; omega⟩ (fun r308 H locs E2 hE2 hr308 hW => ?_)
  have XE2 := LCx_eq (E' := E2) (fun j hj => by rw [hE2]; exact mI_lo j (Or.inl hj)) XE1
  obtain ⟨hN, hK, hWS, hCL, hAO⟩ := id XE2
  have hT : TI E2 Gc xa nn := by rw [hE2]; exact TI_image hTS hle hq hsz0
  refine lv_pop hx hb dLaw_1941 rfl ?_
  refine lv_goto (tgt := 2004) hx hb dLaw_1942 (by decide) ?_
  exact W.widen (k := cells + 18) (n := slots + 441) (by omega) (by omega) (kk _ _ _ _ _ XE2 hW hT)
set_option maxHeartbeats 4000000 in
set_option maxRecDepth 100000 in
theorem law_c49 {p : Program} {e : Env} {s : State} {m : MethodId} {below : List Frame} {meth : Method} {c : Code} {l : Launch} {b L : Nat} {xs : Nat → Int32} (C0 : lw_At p s m meth c b L xs) {E : Nat → Nat} {D : va_G} {adK adV : Nat → Nat} (X0 : LCx E D adK adV s) {xa ma i : Nat} (hi : i + 7 ≤ L) (hL : L ≤ 3584) {Gc Gm : th_G} {nn : Nat} {H : Heap} {locs : List Loc} (hW : LWs E D s xa ma Gc Gm nn H locs) (hT : TI E Gc xa nn) (hU : UQ Gm 1 ∧ UQ Gm 2 ∧ UQ Gm 11) {cells slots : Nat} (hc1 : cells + 18 ≤ 600000) (hc2 : slots + 441 ≤ 7302250) {ls : Array Slot} (hl : lv_has ls 4 [(3, .int (nI i)), (2, .ref ma), (1, .ref xa), (0, .ref b)]) (kk : ∀ (E : Nat → Nat) (Gc : th_G) (nn : Nat) (H : Heap) (locs : List Loc), LCx E D adK adV s → LWs E D s xa ma Gc Gm nn H locs → TI E Gc xa nn → W p l e room_1 s m #[Value.ref b] below meth c H locs (cells + 18) (slots + 441) (lw_Z below #[Value.ref b] s) (F0 m 2004 ls [])) : W p l e room_1 s m #[Value.ref b] below meth c H locs cells slots (lw_Z below #[Value.ref b] s) (F0 m 1945 ls []) := by
  obtain ⟨hx, hb, hr, hml, hown, hts0, hX, hbl, hlocks, hgv⟩ := id C0
  obtain ⟨hN, hK, hWS, hCL, hAO⟩ := id X0
  have hbA : ¬ LWa s b := Nat.not_le.mpr hbl
  have hts := lw_tb (w := Cond.initialized RX12) wd_13 hts0
  have hR1 : room_1.cells = 600000 := rfl
  have hR2 : room_1.slots = 7302250 := rfl
  have ti : (nI i).toInt = (i : Int) := nI_toInt (by omega)
  refine lv_aload_n hx hb dLaw_1945 rfl (lv_at hl 2 rfl) ?_
  refine lv_aload_n hx hb dLaw_1946 rfl (lv_at hl 3 rfl) ?_
  refine lv_iload_n hx hb dLaw_1947 rfl (lv_at hl 0 rfl) ?_
  refine lv_iconst (v := 1) hx hb dLaw_1948 (by decide) ?_
  refine lv_iadd hx hb dLaw_1949 ?_
  refine lv_topi (fun z309 ez309 => ?_)
  have tz309 := iv_add (Y := 1) ti (by decide) ez309 (by omega) (by omega)
  refine va_sld hx hb hX hbl hbA hW.2.2.2.2.2.2.2 (iv_in (X := (i : Int) + 1) (by omega) (by omega) (by omega)) dLaw_1950 ?_
  rw [show z309.toNatClampNeg = i + 1 from by show z309.toInt.toNat = _; omega]
  obtain ⟨sa, t, hTS⟩ := id hT
  obtain ⟨u0, u1, f0, f1, hgB⟩ := TI_back (x := (xs (i + 1))) hTS
  refine lc_e (As := [.int (xs (i + 1))]) (rest := []) (n := 1) (d := 3) ⟨hx, hb, hml, hown, hts⟩ (c_X11_back l E D Gc xa nn hW.2.1 (xs (i + 1)) sa t hTS.1 hTS.2.1 u0 u1 f0 f1) (fun j hj => eu_ne (by omega)) wd_1211 wd_1212 wd_1213 wd_1 wd_1214 (by decide +kernel) ⟨Nat.le_of_ble_eq_true rfl, Nat.le_of_ble_eq_true rfl⟩ hW hN hK rfl hl.1 rfl (Nat.le_of_ble_eq_true rfl) dLaw_1951 ⟨by rw [hR1]; omega, by rw [hR2]; omega⟩ (fun r310 H locs E1 hE1 hr310 hW => ?_)
  have XE1 := LCx_eq (E' := E1) (fun j hj => by rw [hE1]; exact eu_ne (by omega)) X0
  obtain ⟨hN, hK, hWS, hCL, hAO⟩ := id XE1
  refine lv_pop hx hb dLaw_1954 rfl ?_
  refine lv_aload_n hx hb dLaw_1955 rfl (lv_at hl 1 rfl) ?_
  refine lv_aload_n hx hb dLaw_1956 rfl (lv_at hl 3 rfl) ?_
  refine lv_iload_n hx hb dLaw_1957 rfl (lv_at hl 0 rfl) ?_
  refine lv_iconst (v := 1) hx hb dLaw_1958 (by decide) ?_
  refine lv_iadd hx hb dLaw_1959 ?_
  refine lv_topi (fun z311 ez311 => ?_)
  have tz311 := iv_add (Y := 1) ti (by decide) ez311 (by omega) (by omega)
  refine va_sld hx hb hX hbl hbA hW.2.2.2.2.2.2.2 (iv_in (X := (i : Int) + 1) (by omega) (by omega) (by omega)) dLaw_1960 ?_
  rw [show z311.toNatClampNeg = i + 1 from by show z311.toInt.toNat = _; omega]
  refine lm_e (post := fun _ => True) (As := [.int (xs (i + 1))]) (rest := []) (n := 1) (d := 1) ⟨hx, hb, hml, hown, hts⟩ (c_X12_back l E1 D Gm ma hW.2.2.2.1 (xs (i + 1)) hU.1) (fun j hj => eu_ne (by omega)) wd_1406 wd_1407 wd_1408 wd_13 wd_1409 (by decide +kernel) ⟨Nat.le_of_ble_eq_true rfl, Nat.le_of_ble_eq_true rfl⟩ hW hN hK rfl hl.1 rfl (Nat.le_of_ble_eq_true rfl) dLaw_1961 ⟨by rw [hR1]; omega, by rw [hR2]; omega⟩ (fun r312 H locs E2 hE2 hr312 hW => ?_)
  have XE2 := LCx_eq (E' := E2) (fun j hj => by rw [hE2]; exact eu_ne (by omega)) XE1
  obtain ⟨hN, hK, hWS, hCL, hAO⟩ := id XE2
  have hT : TI E2 Gc xa nn := by rw [hE2, hE1, hgB]; exact TI_set hTS
  refine lv_pop hx hb dLaw_1964 rfl ?_
  refine lv_goto (tgt := 2004) hx hb dLaw_1965 (by decide) ?_
  exact W.widen (k := cells + 18) (n := slots + 441) (by omega) (by omega) (kk _ _ _ _ _ XE2 hW hT)
set_option maxHeartbeats 4000000 in
set_option maxRecDepth 100000 in
theorem law_c50 {p : Program} {e : Env} {s : State} {m : MethodId} {below : List Frame} {meth : Method} {c : Code} {l : Launch} {b L : Nat} {xs : Nat → Int32} (C0 : lw_At p s m meth c b L xs) {E : Nat → Nat} {D : va_G} {adK adV : Nat → Nat} (X0 : LCx E D adK adV s) {xa ma i : Nat} (hi : i + 7 ≤ L) (hL : L ≤ 3584) {Gc Gm : th_G} {nn : Nat} {H : Heap} {locs : List Loc} (hW : LWs E D s xa ma Gc Gm nn H locs) (hT : TI E Gc xa nn) (hU : UQ Gm 1 ∧ UQ Gm 2 ∧ UQ Gm 11) {cells slots : Nat} (hc1 : cells + 18 ≤ 600000) (hc2 : slots + 441 ≤ 7302250) {ls : Array Slot} (hl : lv_has ls 4 [(3, .int (nI i)), (2, .ref ma), (1, .ref xa), (0, .ref b)]) (kk : ∀ (E : Nat → Nat) (Gc : th_G) (nn : Nat) (H : Heap) (locs : List Loc), LCx E D adK adV s → LWs E D s xa ma Gc Gm nn H locs → TI E Gc xa nn → W p l e room_1 s m #[Value.ref b] below meth c H locs (cells + 18) (slots + 441) (lw_Z below #[Value.ref b] s) (F0 m 2004 ls [])) : W p l e room_1 s m #[Value.ref b] below meth c H locs cells slots (lw_Z below #[Value.ref b] s) (F0 m 1968 ls []) := by
  obtain ⟨hx, hb, hr, hml, hown, hts0, hX, hbl, hlocks, hgv⟩ := id C0
  obtain ⟨hN, hK, hWS, hCL, hAO⟩ := id X0
  have hbA : ¬ LWa s b := Nat.not_le.mpr hbl
  have hts := lw_tb (w := Cond.initialized RX12) wd_13 hts0
  have hR1 : room_1.cells = 600000 := rfl
  have hR2 : room_1.slots = 7302250 := rfl
  have ti : (nI i).toInt = (i : Int) := nI_toInt (by omega)
  refine lv_aload_n hx hb dLaw_1968 rfl (lv_at hl 2 rfl) ?_
  refine lv_aload_n hx hb dLaw_1969 rfl (lv_at hl 3 rfl) ?_
  refine lv_iload_n hx hb dLaw_1970 rfl (lv_at hl 0 rfl) ?_
  refine lv_iconst (v := 1) hx hb dLaw_1971 (by decide) ?_
  refine lv_iadd hx hb dLaw_1972 ?_
  refine lv_topi (fun z313 ez313 => ?_)
  have tz313 := iv_add (Y := 1) ti (by decide) ez313 (by omega) (by omega)
  refine va_sld hx hb hX hbl hbA hW.2.2.2.2.2.2.2 (iv_in (X := (i : Int) + 1) (by omega) (by omega) (by omega)) dLaw_1973 ?_
  rw [show z313.toNatClampNeg = i + 1 from by show z313.toInt.toNat = _; omega]
  refine lc_i (As := [.int (xs (i + 1))]) (rest := []) (n := 1) (d := 1) ⟨hx, hb, hml, hown, hts⟩ (c_X11_count l E D Gc xa nn hW.2.1 (xs (i + 1))) wd_1215 wd_1216 wd_1217 wd_1 wd_1218 (by decide +kernel) ⟨Nat.le_of_ble_eq_true rfl, Nat.le_of_ble_eq_true rfl⟩ hW hN hK rfl hl.1 rfl (Nat.le_of_ble_eq_true rfl) dLaw_1974 ⟨by rw [hR1]; omega, by rw [hR2]; omega⟩ (fun r314 H locs hr314 hW => ?_)
  refine lv_pop hx hb dLaw_1977 rfl ?_
  refine lv_aload_n hx hb dLaw_1978 rfl (lv_at hl 1 rfl) ?_
  refine lv_aload_n hx hb dLaw_1979 rfl (lv_at hl 3 rfl) ?_
  refine lv_iload_n hx hb dLaw_1980 rfl (lv_at hl 0 rfl) ?_
  refine lv_iconst (v := 1) hx hb dLaw_1981 (by decide) ?_
  refine lv_iadd hx hb dLaw_1982 ?_
  refine lv_topi (fun z315 ez315 => ?_)
  have tz315 := iv_add (Y := 1) ti (by decide) ez315 (by omega) (by omega)
  refine va_sld hx hb hX hbl hbA hW.2.2.2.2.2.2.2 (iv_in (X := (i : Int) + 1) (by omega) (by omega) (by omega)) dLaw_1983 ?_
  rw [show z315.toNatClampNeg = i + 1 from by show z315.toInt.toNat = _; omega]
  refine lm_i (post := fun _ => True) (As := [.int (xs (i + 1))]) (rest := []) (n := 1) (d := 0) ⟨hx, hb, hml, hown, hts⟩ (c_X12_count l E D Gm ma hW.2.2.2.1 (xs (i + 1))) wd_1862 wd_1863 wd_1864 wd_13 wd_1865 (by decide +kernel) ⟨Nat.le_of_ble_eq_true rfl, Nat.le_of_ble_eq_true rfl⟩ hW hN hK rfl hl.1 rfl (Nat.le_of_ble_eq_true rfl) dLaw_1984 ⟨by rw [hR1]; omega, by rw [hR2]; omega⟩ (fun r316 H locs hr316 hW => ?_)
  refine lv_pop hx hb dLaw_1987 rfl ?_
  refine lv_goto (tgt := 2004) hx hb dLaw_1988 (by decide) ?_
  exact W.widen (k := cells + 18) (n := slots + 441) (by omega) (by omega) (kk _ _ _ _ _ X0 hW hT)
set_option maxHeartbeats 4000000 in
set_option maxRecDepth 100000 in
theorem law_c51 {p : Program} {e : Env} {s : State} {m : MethodId} {below : List Frame} {meth : Method} {c : Code} {l : Launch} {b L : Nat} {xs : Nat → Int32} (C0 : lw_At p s m meth c b L xs) {E : Nat → Nat} {D : va_G} {adK adV : Nat → Nat} (X0 : LCx E D adK adV s) {xa ma i : Nat} (hi : i + 7 ≤ L) (hL : L ≤ 3584) {Gc Gm : th_G} {nn : Nat} {H : Heap} {locs : List Loc} (hW : LWs E D s xa ma Gc Gm nn H locs) (hT : TI E Gc xa nn) (hU : UQ Gm 1 ∧ UQ Gm 2 ∧ UQ Gm 11) {cells slots : Nat} (hc1 : cells + 18 ≤ 600000) (hc2 : slots + 441 ≤ 7302250) {ls : Array Slot} (hl : lv_has ls 4 [(3, .int (nI i)), (2, .ref ma), (1, .ref xa), (0, .ref b)]) (kk : ∀ (E : Nat → Nat) (Gc : th_G) (nn : Nat) (H : Heap) (locs : List Loc), LCx E D adK adV s → LWs E D s xa ma Gc Gm nn H locs → TI E Gc xa nn → W p l e room_1 s m #[Value.ref b] below meth c H locs (cells + 18) (slots + 441) (lw_Z below #[Value.ref b] s) (F0 m 2004 ls [])) : W p l e room_1 s m #[Value.ref b] below meth c H locs cells slots (lw_Z below #[Value.ref b] s) (F0 m 1991 ls []) := by
  obtain ⟨hx, hb, hr, hml, hown, hts0, hX, hbl, hlocks, hgv⟩ := id C0
  obtain ⟨hN, hK, hWS, hCL, hAO⟩ := id X0
  have hbA : ¬ LWa s b := Nat.not_le.mpr hbl
  have hts := lw_tb (w := Cond.initialized RX12) wd_13 hts0
  have hR1 : room_1.cells = 600000 := rfl
  have hR2 : room_1.slots = 7302250 := rfl
  have ti : (nI i).toInt = (i : Int) := nI_toInt (by omega)
  refine lv_aload_n hx hb dLaw_1991 rfl (lv_at hl 2 rfl) ?_
  refine lc_i (As := []) (rest := []) (n := 0) (d := 0) ⟨hx, hb, hml, hown, hts⟩ (c_X11_status l E D Gc xa nn hW.2.1 ) wd_1223 wd_1224 wd_1225 wd_1 wd_1226 (by decide +kernel) ⟨Nat.le_of_ble_eq_true rfl, Nat.le_of_ble_eq_true rfl⟩ hW hN hK rfl hl.1 rfl (Nat.le_of_ble_eq_true rfl) dLaw_1992 ⟨by rw [hR1]; omega, by rw [hR2]; omega⟩ (fun r317 H locs hr317 hW => ?_)
  refine lv_pop hx hb dLaw_1995 rfl ?_
  refine lv_aload_n hx hb dLaw_1996 rfl (lv_at hl 1 rfl) ?_
  refine lm_i (post := fun _ => True) (As := []) (rest := []) (n := 0) (d := 0) ⟨hx, hb, hml, hown, hts⟩ (c_X12_status l E D Gm ma hW.2.2.2.1 ) wd_1866 wd_1867 wd_1868 wd_13 wd_1869 (by decide +kernel) ⟨Nat.le_of_ble_eq_true rfl, Nat.le_of_ble_eq_true rfl⟩ hW hN hK rfl hl.1 rfl (Nat.le_of_ble_eq_true rfl) dLaw_1997 ⟨by rw [hR1]; omega, by rw [hR2]; omega⟩ (fun r318 H locs hr318 hW => ?_)
  refine lv_pop hx hb dLaw_2000 rfl ?_
  refine lv_goto (tgt := 2004) hx hb dLaw_2001 (by decide) ?_
  exact W.widen (k := cells + 18) (n := slots + 441) (by omega) (by omega) (kk _ _ _ _ _ X0 hW hT)
