set_option maxHeartbeats 4000000 in
set_option maxRecDepth 100000 in
theorem law_c15 {p : Program} {e : Env} {s : State} {m : MethodId} {below : List Frame} {meth : Method} {c : Code} {l : Launch} {b L : Nat} {xs : Nat → Int32} (C0 : lw_At p s m meth c b L xs) {E : Nat → Nat} {D : va_G} {adK adV : Nat → Nat} (X0 : LCx E D adK adV s) {xa ma i : Nat} (hi : i + 7 ≤ L) (hL : L ≤ 3584) {Gc Gm : th_G} {nn : Nat} {H : Heap} {locs : List Loc} (hW : LWs E D s xa ma Gc Gm nn H locs) (hT : TI E Gc xa nn) (hU : UQ Gm 1 ∧ UQ Gm 2 ∧ UQ Gm 11 ∧ UQ Gm 4 ∧ UQ Gm 10) {cells slots : Nat} (hc1 : cells + 18 ≤ 600000) (hc2 : slots + 441 ≤ 7302250) {ls : Array Slot} (hl : lv_has ls 4 [(3, .int (nI i)), (2, .ref ma), (1, .ref xa), (0, .ref b)]) (kk : ∀ (E : Nat → Nat) (Gc : th_G) (nn : Nat) (H : Heap) (locs : List Loc), LCx E D adK adV s → LWs E D s xa ma Gc Gm nn H locs → TI E Gc xa nn → W p l e room_1 s m #[Value.ref b] below meth c H locs (cells + 18) (slots + 441) (lw_Z below #[Value.ref b] s) (F0 m 2004 ls [])) : W p l e room_1 s m #[Value.ref b] below meth c H locs cells slots (lw_Z below #[Value.ref b] s) (F0 m 733 ls []) := by
  obtain ⟨hx, hb, hr, hml, hown, hts0, hX, hbl, hlocks, hgv⟩ := id C0
  obtain ⟨hN, hK, hWS, hCL, hAO⟩ := id X0
  have hbA : ¬ LWa s b := Nat.not_le.mpr hbl
  have hts := lw_tb (w := Cond.initialized RX12) wd_13 hts0
  have hR1 : room_1.cells = 600000 := rfl
  have hR2 : room_1.slots = 7302250 := rfl
  have ti : (nI i).toInt = (i : Int) := nI_toInt (by omega)
  refine lv_aload_n hx hb dLaw_733 rfl (lv_at hl 2 rfl) ?_
  refine lv_aload_n hx hb dLaw_734 rfl (lv_at hl 3 rfl) ?_
  refine lv_iload_n hx hb dLaw_735 rfl (lv_at hl 0 rfl) ?_
  refine lv_iconst (v := 1) hx hb dLaw_736 (by decide) ?_
  refine lv_iadd hx hb dLaw_737 ?_
  refine lv_topi (fun z87 ez87 => ?_)
  have tz87 := iv_add (Y := 1) ti (by decide) ez87 (by omega) (by omega)
  refine va_sld hx hb hX hbl hbA hW.2.2.2.2.2.2.2 (iv_in (X := (i : Int) + 1) (by omega) (by omega) (by omega)) dLaw_738 ?_
  rw [show z87.toNatClampNeg = i + 1 from by show z87.toInt.toNat = _; omega]
  refine lv_aload_n hx hb dLaw_739 rfl (lv_at hl 3 rfl) ?_
  refine lv_iload_n hx hb dLaw_740 rfl (lv_at hl 0 rfl) ?_
  refine lv_iconst (v := 2) hx hb dLaw_741 (by decide) ?_
  refine lv_iadd hx hb dLaw_742 ?_
  refine lv_topi (fun z88 ez88 => ?_)
  have tz88 := iv_add (Y := 2) ti (by decide) ez88 (by omega) (by omega)
  refine va_sld hx hb hX hbl hbA hW.2.2.2.2.2.2.2 (iv_in (X := (i : Int) + 2) (by omega) (by omega) (by omega)) dLaw_743 ?_
  rw [show z88.toNatClampNeg = i + 2 from by show z88.toInt.toNat = _; omega]
  refine lc_i (As := [.int (xs (i + 1)), .int (xs (i + 2))]) (rest := []) (n := 2) (d := 6) ⟨hx, hb, hml, hown, hts⟩ (c_X11_flow l E D Gc xa nn hW.2.1 (xs (i + 1)) (xs (i + 2))) wd_801 wd_802 wd_803 wd_1 wd_804 (by decide +kernel) ⟨Nat.le_of_ble_eq_true rfl, Nat.le_of_ble_eq_true rfl⟩ hW hN hK rfl hl.1 rfl (Nat.le_of_ble_eq_true rfl) dLaw_744 ⟨by rw [hR1]; omega, by rw [hR2]; omega⟩ (fun r89 H locs hr89 hW => ?_)
  refine lv_pop hx hb dLaw_747 rfl ?_
  refine lv_aload_n hx hb dLaw_748 rfl (lv_at hl 1 rfl) ?_
  refine lv_aload_n hx hb dLaw_749 rfl (lv_at hl 3 rfl) ?_
  refine lv_iload_n hx hb dLaw_750 rfl (lv_at hl 0 rfl) ?_
  refine lv_iconst (v := 1) hx hb dLaw_751 (by decide) ?_
  refine lv_iadd hx hb dLaw_752 ?_
  refine lv_topi (fun z90 ez90 => ?_)
  have tz90 := iv_add (Y := 1) ti (by decide) ez90 (by omega) (by omega)
  refine va_sld hx hb hX hbl hbA hW.2.2.2.2.2.2.2 (iv_in (X := (i : Int) + 1) (by omega) (by omega) (by omega)) dLaw_753 ?_
  rw [show z90.toNatClampNeg = i + 1 from by show z90.toInt.toNat = _; omega]
  refine lv_aload_n hx hb dLaw_754 rfl (lv_at hl 3 rfl) ?_
  refine lv_iload_n hx hb dLaw_755 rfl (lv_at hl 0 rfl) ?_
  refine lv_iconst (v := 2) hx hb dLaw_756 (by decide) ?_
  refine lv_iadd hx hb dLaw_757 ?_
  refine lv_topi (fun z91 ez91 => ?_)
  have tz91 := iv_add (Y := 2) ti (by decide) ez91 (by omega) (by omega)
  refine va_sld hx hb hX hbl hbA hW.2.2.2.2.2.2.2 (iv_in (X := (i : Int) + 2) (by omega) (by omega) (by omega)) dLaw_758 ?_
  rw [show z91.toNatClampNeg = i + 2 from by show z91.toInt.toNat = _; omega]
  refine lm_i (post := fun _ => True) (As := [.int (xs (i + 1)), .int (xs (i + 2))]) (rest := []) (n := 2) (d := 69) ⟨hx, hb, hml, hown, hts⟩ (c_X12_flow l E D Gm ma hW.2.2.2.1 (xs (i + 1)) (xs (i + 2))) wd_1639 wd_1640 wd_1641 wd_13 wd_1642 (by decide +kernel) ⟨Nat.le_of_ble_eq_true rfl, Nat.le_of_ble_eq_true rfl⟩ hW hN hK rfl hl.1 rfl (Nat.le_of_ble_eq_true rfl) dLaw_759 ⟨by rw [hR1]; omega, by rw [hR2]; omega⟩ (fun r92 H locs hr92 hW => ?_)
  refine lv_pop hx hb dLaw_762 rfl ?_
  refine lv_goto (tgt := 2004) hx hb dLaw_763 (by decide) ?_
  exact W.widen (k := cells + 18) (n := slots + 441) (by omega) (by omega) (kk _ _ _ _ _ X0 hW hT)
set_option maxHeartbeats 4000000 in
set_option maxRecDepth 100000 in
theorem law_c16 {p : Program} {e : Env} {s : State} {m : MethodId} {below : List Frame} {meth : Method} {c : Code} {l : Launch} {b L : Nat} {xs : Nat → Int32} (C0 : lw_At p s m meth c b L xs) {E : Nat → Nat} {D : va_G} {adK adV : Nat → Nat} (X0 : LCx E D adK adV s) {xa ma i : Nat} (hi : i + 7 ≤ L) (hL : L ≤ 3584) {Gc Gm : th_G} {nn : Nat} {H : Heap} {locs : List Loc} (hW : LWs E D s xa ma Gc Gm nn H locs) (hT : TI E Gc xa nn) (hU : UQ Gm 1 ∧ UQ Gm 2 ∧ UQ Gm 11 ∧ UQ Gm 4 ∧ UQ Gm 10) {cells slots : Nat} (hc1 : cells + 18 ≤ 600000) (hc2 : slots + 441 ≤ 7302250) {ls : Array Slot} (hl : lv_has ls 4 [(3, .int (nI i)), (2, .ref ma), (1, .ref xa), (0, .ref b)]) (kk : ∀ (E : Nat → Nat) (Gc : th_G) (nn : Nat) (H : Heap) (locs : List Loc), LCx E D adK adV s → LWs E D s xa ma Gc Gm nn H locs → TI E Gc xa nn → W p l e room_1 s m #[Value.ref b] below meth c H locs (cells + 18) (slots + 441) (lw_Z below #[Value.ref b] s) (F0 m 2004 ls [])) : W p l e room_1 s m #[Value.ref b] below meth c H locs cells slots (lw_Z below #[Value.ref b] s) (F0 m 766 ls []) := by
  obtain ⟨hx, hb, hr, hml, hown, hts0, hX, hbl, hlocks, hgv⟩ := id C0
  obtain ⟨hN, hK, hWS, hCL, hAO⟩ := id X0
  have hbA : ¬ LWa s b := Nat.not_le.mpr hbl
  have hts := lw_tb (w := Cond.initialized RX12) wd_13 hts0
  have hR1 : room_1.cells = 600000 := rfl
  have hR2 : room_1.slots = 7302250 := rfl
  have ti : (nI i).toInt = (i : Int) := nI_toInt (by omega)
  refine lv_aload_n hx hb dLaw_766 rfl (lv_at hl 2 rfl) ?_
  refine lv_aload_n hx hb dLaw_767 rfl (lv_at hl 3 rfl) ?_
  refine lv_iload_n hx hb dLaw_768 rfl (lv_at hl 0 rfl) ?_
  refine lv_iconst (v := 1) hx hb dLaw_769 (by decide) ?_
  refine lv_iadd hx hb dLaw_770 ?_
  refine lv_topi (fun z93 ez93 => ?_)
  have tz93 := iv_add (Y := 1) ti (by decide) ez93 (by omega) (by omega)
  refine va_sld hx hb hX hbl hbA hW.2.2.2.2.2.2.2 (iv_in (X := (i : Int) + 1) (by omega) (by omega) (by omega)) dLaw_771 ?_
  rw [show z93.toNatClampNeg = i + 1 from by show z93.toInt.toNat = _; omega]
  refine lv_aload_n hx hb dLaw_772 rfl (lv_at hl 3 rfl) ?_
  refine lv_iload_n hx hb dLaw_773 rfl (lv_at hl 0 rfl) ?_
  refine lv_iconst (v := 2) hx hb dLaw_774 (by decide) ?_
  refine lv_iadd hx hb dLaw_775 ?_
  refine lv_topi (fun z94 ez94 => ?_)
  have tz94 := iv_add (Y := 2) ti (by decide) ez94 (by omega) (by omega)
  refine va_sld hx hb hX hbl hbA hW.2.2.2.2.2.2.2 (iv_in (X := (i : Int) + 2) (by omega) (by omega) (by omega)) dLaw_776 ?_
  rw [show z94.toNatClampNeg = i + 2 from by show z94.toInt.toNat = _; omega]
  refine lv_aload_n hx hb dLaw_777 rfl (lv_at hl 3 rfl) ?_
  refine lv_iload_n hx hb dLaw_778 rfl (lv_at hl 0 rfl) ?_
  refine lv_iconst (v := 3) hx hb dLaw_779 (by decide) ?_
  refine lv_iadd hx hb dLaw_780 ?_
  refine lv_topi (fun z95 ez95 => ?_)
  have tz95 := iv_add (Y := 3) ti (by decide) ez95 (by omega) (by omega)
  refine va_sld hx hb hX hbl hbA hW.2.2.2.2.2.2.2 (iv_in (X := (i : Int) + 3) (by omega) (by omega) (by omega)) dLaw_781 ?_
  rw [show z95.toNatClampNeg = i + 3 from by show z95.toInt.toNat = _; omega]
  refine lc_i (As := [.int (xs (i + 1)), .int (xs (i + 2)), .int (xs (i + 3))]) (rest := []) (n := 3) (d := 6) ⟨hx, hb, hml, hown, hts⟩ (c_X11_asks l E D Gc xa nn hW.2.1 (xs (i + 1)) (xs (i + 2)) (xs (i + 3))) wd_806 wd_807 wd_808 wd_1 wd_809 (by decide +kernel) ⟨Nat.le_of_ble_eq_true rfl, Nat.le_of_ble_eq_true rfl⟩ hW hN hK rfl hl.1 rfl (Nat.le_of_ble_eq_true rfl) dLaw_782 ⟨by rw [hR1]; omega, by rw [hR2]; omega⟩ (fun r96 H locs hr96 hW => ?_)
  refine lv_pop hx hb dLaw_785 rfl ?_
  refine lv_aload_n hx hb dLaw_786 rfl (lv_at hl 1 rfl) ?_
  refine lv_aload_n hx hb dLaw_787 rfl (lv_at hl 3 rfl) ?_
  refine lv_iload_n hx hb dLaw_788 rfl (lv_at hl 0 rfl) ?_
  refine lv_iconst (v := 1) hx hb dLaw_789 (by decide) ?_
  refine lv_iadd hx hb dLaw_790 ?_
  refine lv_topi (fun z97 ez97 => ?_)
  have tz97 := iv_add (Y := 1) ti (by decide) ez97 (by omega) (by omega)
  refine va_sld hx hb hX hbl hbA hW.2.2.2.2.2.2.2 (iv_in (X := (i : Int) + 1) (by omega) (by omega) (by omega)) dLaw_791 ?_
  rw [show z97.toNatClampNeg = i + 1 from by show z97.toInt.toNat = _; omega]
  refine lv_aload_n hx hb dLaw_792 rfl (lv_at hl 3 rfl) ?_
  refine lv_iload_n hx hb dLaw_793 rfl (lv_at hl 0 rfl) ?_
  refine lv_iconst (v := 2) hx hb dLaw_794 (by decide) ?_
  refine lv_iadd hx hb dLaw_795 ?_
  refine lv_topi (fun z98 ez98 => ?_)
  have tz98 := iv_add (Y := 2) ti (by decide) ez98 (by omega) (by omega)
  refine va_sld hx hb hX hbl hbA hW.2.2.2.2.2.2.2 (iv_in (X := (i : Int) + 2) (by omega) (by omega) (by omega)) dLaw_796 ?_
  rw [show z98.toNatClampNeg = i + 2 from by show z98.toInt.toNat = _; omega]
  refine lv_aload_n hx hb dLaw_797 rfl (lv_at hl 3 rfl) ?_
  refine lv_iload_n hx hb dLaw_798 rfl (lv_at hl 0 rfl) ?_
  refine lv_iconst (v := 3) hx hb dLaw_799 (by decide) ?_
  refine lv_iadd hx hb dLaw_800 ?_
  refine lv_topi (fun z99 ez99 => ?_)
  have tz99 := iv_add (Y := 3) ti (by decide) ez99 (by omega) (by omega)
  refine va_sld hx hb hX hbl hbA hW.2.2.2.2.2.2.2 (iv_in (X := (i : Int) + 3) (by omega) (by omega) (by omega)) dLaw_801 ?_
  rw [show z99.toNatClampNeg = i + 3 from by show z99.toInt.toNat = _; omega]
  refine lm_i (post := fun _ => True) (As := [.int (xs (i + 1)), .int (xs (i + 2)), .int (xs (i + 3))]) (rest := []) (n := 3) (d := 69) ⟨hx, hb, hml, hown, hts⟩ (c_X12_asks l E D Gm ma hW.2.2.2.1 (xs (i + 1)) (xs (i + 2)) (xs (i + 3))) wd_1643 wd_1644 wd_1645 wd_13 wd_1646 (by decide +kernel) ⟨Nat.le_of_ble_eq_true rfl, Nat.le_of_ble_eq_true rfl⟩ hW hN hK rfl hl.1 rfl (Nat.le_of_ble_eq_true rfl) dLaw_802 ⟨by rw [hR1]; omega, by rw [hR2]; omega⟩ (fun r100 H locs hr100 hW => ?_)
  refine lv_pop hx hb dLaw_805 rfl ?_
  refine lv_goto (tgt := 2004) hx hb dLaw_806 (by decide) ?_
  exact W.widen (k := cells + 18) (n := slots + 441) (by omega) (by omega) (kk _ _ _ _ _ X0 hW hT)
set_option maxHeartbeats 4000000 in
set_option maxRecDepth 100000 in
theorem law_c17 {p : Program} {e : Env} {s : State} {m : MethodId} {below : List Frame} {meth : Method} {c : Code} {l : Launch} {b L : Nat} {xs : Nat → Int32} (C0 : lw_At p s m meth c b L xs) {E : Nat → Nat} {D : va_G} {adK adV : Nat → Nat} (X0 : LCx E D adK adV s) {xa ma i : Nat} (hi : i + 7 ≤ L) (hL : L ≤ 3584) {Gc Gm : th_G} {nn : Nat} {H : Heap} {locs : List Loc} (hW : LWs E D s xa ma Gc Gm nn H locs) (hT : TI E Gc xa nn) (hU : UQ Gm 1 ∧ UQ Gm 2 ∧ UQ Gm 11 ∧ UQ Gm 4 ∧ UQ Gm 10) {cells slots : Nat} (hc1 : cells + 18 ≤ 600000) (hc2 : slots + 441 ≤ 7302250) {ls : Array Slot} (hl : lv_has ls 4 [(3, .int (nI i)), (2, .ref ma), (1, .ref xa), (0, .ref b)]) (kk : ∀ (E : Nat → Nat) (Gc : th_G) (nn : Nat) (H : Heap) (locs : List Loc), LCx E D adK adV s → LWs E D s xa ma Gc Gm nn H locs → TI E Gc xa nn → W p l e room_1 s m #[Value.ref b] below meth c H locs (cells + 18) (slots + 441) (lw_Z below #[Value.ref b] s) (F0 m 2004 ls [])) : W p l e room_1 s m #[Value.ref b] below meth c H locs cells slots (lw_Z below #[Value.ref b] s) (F0 m 809 ls []) := by
  obtain ⟨hx, hb, hr, hml, hown, hts0, hX, hbl, hlocks, hgv⟩ := id C0
  obtain ⟨hN, hK, hWS, hCL, hAO⟩ := id X0
  have hbA : ¬ LWa s b := Nat.not_le.mpr hbl
  have hts := lw_tb (w := Cond.initialized RX12) wd_13 hts0
  have hR1 : room_1.cells = 600000 := rfl
  have hR2 : room_1.slots = 7302250 := rfl
  have ti : (nI i).toInt = (i : Int) := nI_toInt (by omega)
  refine lv_aload_n hx hb dLaw_809 rfl (lv_at hl 2 rfl) ?_
  refine lv_aload_n hx hb dLaw_810 rfl (lv_at hl 3 rfl) ?_
  refine lv_iload_n hx hb dLaw_811 rfl (lv_at hl 0 rfl) ?_
  refine lv_iconst (v := 1) hx hb dLaw_812 (by decide) ?_
  refine lv_iadd hx hb dLaw_813 ?_
  refine lv_topi (fun z101 ez101 => ?_)
  have tz101 := iv_add (Y := 1) ti (by decide) ez101 (by omega) (by omega)
  refine va_sld hx hb hX hbl hbA hW.2.2.2.2.2.2.2 (iv_in (X := (i : Int) + 1) (by omega) (by omega) (by omega)) dLaw_814 ?_
  rw [show z101.toNatClampNeg = i + 1 from by show z101.toInt.toNat = _; omega]
  refine lv_aload_n hx hb dLaw_815 rfl (lv_at hl 3 rfl) ?_
  refine lv_iload_n hx hb dLaw_816 rfl (lv_at hl 0 rfl) ?_
  refine lv_iconst (v := 2) hx hb dLaw_817 (by decide) ?_
  refine lv_iadd hx hb dLaw_818 ?_
  refine lv_topi (fun z102 ez102 => ?_)
  have tz102 := iv_add (Y := 2) ti (by decide) ez102 (by omega) (by omega)
  refine va_sld hx hb hX hbl hbA hW.2.2.2.2.2.2.2 (iv_in (X := (i : Int) + 2) (by omega) (by omega) (by omega)) dLaw_819 ?_
  rw [show z102.toNatClampNeg = i + 2 from by show z102.toInt.toNat = _; omega]
  refine lv_aload_n hx hb dLaw_820 rfl (lv_at hl 3 rfl) ?_
  refine lv_iload_n hx hb dLaw_821 rfl (lv_at hl 0 rfl) ?_
  refine lv_iconst (v := 3) hx hb dLaw_822 (by decide) ?_
  refine lv_iadd hx hb dLaw_823 ?_
  refine lv_topi (fun z103 ez103 => ?_)
  have tz103 := iv_add (Y := 3) ti (by decide) ez103 (by omega) (by omega)
  refine va_sld hx hb hX hbl hbA hW.2.2.2.2.2.2.2 (iv_in (X := (i : Int) + 3) (by omega) (by omega) (by omega)) dLaw_824 ?_
  rw [show z103.toNatClampNeg = i + 3 from by show z103.toInt.toNat = _; omega]
  refine lc_i (As := [.int (xs (i + 1)), .int (xs (i + 2)), .int (xs (i + 3))]) (rest := []) (n := 3) (d := 6) ⟨hx, hb, hml, hown, hts⟩ (c_X11_where l E D Gc xa nn hW.2.1 (xs (i + 1)) (xs (i + 2)) (xs (i + 3))) wd_822 wd_823 wd_824 wd_1 wd_825 (by decide +kernel) ⟨Nat.le_of_ble_eq_true rfl, Nat.le_of_ble_eq_true rfl⟩ hW hN hK rfl hl.1 rfl (Nat.le_of_ble_eq_true rfl) dLaw_825 ⟨by rw [hR1]; omega, by rw [hR2]; omega⟩ (fun r104 H locs hr104 hW => ?_)
  refine lv_pop hx hb dLaw_828 rfl ?_
  refine lv_aload_n hx hb dLaw_829 rfl (lv_at hl 1 rfl) ?_
  refine lv_aload_n hx hb dLaw_830 rfl (lv_at hl 3 rfl) ?_
  refine lv_iload_n hx hb dLaw_831 rfl (lv_at hl 0 rfl) ?_
  refine lv_iconst (v := 1) hx hb dLaw_832 (by decide) ?_
  refine lv_iadd hx hb dLaw_833 ?_
  refine lv_topi (fun z105 ez105 => ?_)
  have tz105 := iv_add (Y := 1) ti (by decide) ez105 (by omega) (by omega)
  refine va_sld hx hb hX hbl hbA hW.2.2.2.2.2.2.2 (iv_in (X := (i : Int) + 1) (by omega) (by omega) (by omega)) dLaw_834 ?_
  rw [show z105.toNatClampNeg = i + 1 from by show z105.toInt.toNat = _; omega]
  refine lv_aload_n hx hb dLaw_835 rfl (lv_at hl 3 rfl) ?_
  refine lv_iload_n hx hb dLaw_836 rfl (lv_at hl 0 rfl) ?_
  refine lv_iconst (v := 2) hx hb dLaw_837 (by decide) ?_
  refine lv_iadd hx hb dLaw_838 ?_
  refine lv_topi (fun z106 ez106 => ?_)
  have tz106 := iv_add (Y := 2) ti (by decide) ez106 (by omega) (by omega)
  refine va_sld hx hb hX hbl hbA hW.2.2.2.2.2.2.2 (iv_in (X := (i : Int) + 2) (by omega) (by omega) (by omega)) dLaw_839 ?_
  rw [show z106.toNatClampNeg = i + 2 from by show z106.toInt.toNat = _; omega]
  refine lv_aload_n hx hb dLaw_840 rfl (lv_at hl 3 rfl) ?_
  refine lv_iload_n hx hb dLaw_841 rfl (lv_at hl 0 rfl) ?_
  refine lv_iconst (v := 3) hx hb dLaw_842 (by decide) ?_
  refine lv_iadd hx hb dLaw_843 ?_
  refine lv_topi (fun z107 ez107 => ?_)
  have tz107 := iv_add (Y := 3) ti (by decide) ez107 (by omega) (by omega)
  refine va_sld hx hb hX hbl hbA hW.2.2.2.2.2.2.2 (iv_in (X := (i : Int) + 3) (by omega) (by omega) (by omega)) dLaw_844 ?_
  rw [show z107.toNatClampNeg = i + 3 from by show z107.toInt.toNat = _; omega]
  refine lm_i (post := fun _ => True) (As := [.int (xs (i + 1)), .int (xs (i + 2)), .int (xs (i + 3))]) (rest := []) (n := 3) (d := 69) ⟨hx, hb, hml, hown, hts⟩ (c_X12_where l E D Gm ma hW.2.2.2.1 (xs (i + 1)) (xs (i + 2)) (xs (i + 3))) wd_1651 wd_1652 wd_1653 wd_13 wd_1654 (by decide +kernel) ⟨Nat.le_of_ble_eq_true rfl, Nat.le_of_ble_eq_true rfl⟩ hW hN hK rfl hl.1 rfl (Nat.le_of_ble_eq_true rfl) dLaw_845 ⟨by rw [hR1]; omega, by rw [hR2]; omega⟩ (fun r108 H locs hr108 hW => ?_)
  refine lv_pop hx hb dLaw_848 rfl ?_
  refine lv_goto (tgt := 2004) hx hb dLaw_849 (by decide) ?_
  exact W.widen (k := cells + 18) (n := slots + 441) (by omega) (by omega) (kk _ _ _ _ _ X0 hW hT)
set_option maxHeartbeats 4000000 in
set_option maxRecDepth 100000 in
theorem law_c18 {p : Program} {e : Env} {s : State} {m : MethodId} {below : List Frame} {meth : Method} {c : Code} {l : Launch} {b L : Nat} {xs : Nat → Int32} (C0 : lw_At p s m meth c b L xs) {E : Nat → Nat} {D : va_G} {adK adV : Nat → Nat} (X0 : LCx E D adK adV s) {xa ma i : Nat} (hi : i + 7 ≤ L) (hL : L ≤ 3584) {Gc Gm : th_G} {nn : Nat} {H : Heap} {locs : List Loc} (hW : LWs E D s xa ma Gc Gm nn H locs) (hT : TI E Gc xa nn) (hU : UQ Gm 1 ∧ UQ Gm 2 ∧ UQ Gm 11 ∧ UQ Gm 4 ∧ UQ Gm 10) {cells slots : Nat} (hc1 : cells + 18 ≤ 600000) (hc2 : slots + 441 ≤ 7302250) {ls : Array Slot} (hl : lv_has ls 4 [(3, .int (nI i)), (2, .ref ma), (1, .ref xa), (0, .ref b)]) (kk : ∀ (E : Nat → Nat) (Gc : th_G) (nn : Nat) (H : Heap) (locs : List Loc), LCx E D adK adV s → LWs E D s xa ma Gc Gm nn H locs → TI E Gc xa nn → W p l e room_1 s m #[Value.ref b] below meth c H locs (cells + 18) (slots + 441) (lw_Z below #[Value.ref b] s) (F0 m 2004 ls [])) : W p l e room_1 s m #[Value.ref b] below meth c H locs cells slots (lw_Z below #[Value.ref b] s) (F0 m 852 ls []) := by
  obtain ⟨hx, hb, hr, hml, hown, hts0, hX, hbl, hlocks, hgv⟩ := id C0
  obtain ⟨hN, hK, hWS, hCL, hAO⟩ := id X0
  have hbA : ¬ LWa s b := Nat.not_le.mpr hbl
  have hts := lw_tb (w := Cond.initialized RX12) wd_13 hts0
  have hR1 : room_1.cells = 600000 := rfl
  have hR2 : room_1.slots = 7302250 := rfl
  have ti : (nI i).toInt = (i : Int) := nI_toInt (by omega)
  refine lv_aload_n hx hb dLaw_852 rfl (lv_at hl 2 rfl) ?_
  refine lv_aload_n hx hb dLaw_853 rfl (lv_at hl 3 rfl) ?_
  refine lv_iload_n hx hb dLaw_854 rfl (lv_at hl 0 rfl) ?_
  refine lv_iconst (v := 1) hx hb dLaw_855 (by decide) ?_
  refine lv_iadd hx hb dLaw_856 ?_
  refine lv_topi (fun z109 ez109 => ?_)
  have tz109 := iv_add (Y := 1) ti (by decide) ez109 (by omega) (by omega)
  refine va_sld hx hb hX hbl hbA hW.2.2.2.2.2.2.2 (iv_in (X := (i : Int) + 1) (by omega) (by omega) (by omega)) dLaw_857 ?_
  rw [show z109.toNatClampNeg = i + 1 from by show z109.toInt.toNat = _; omega]
  refine lv_aload_n hx hb dLaw_858 rfl (lv_at hl 3 rfl) ?_
  refine lv_iload_n hx hb dLaw_859 rfl (lv_at hl 0 rfl) ?_
  refine lv_iconst (v := 2) hx hb dLaw_860 (by decide) ?_
  refine lv_iadd hx hb dLaw_861 ?_
  refine lv_topi (fun z110 ez110 => ?_)
  have tz110 := iv_add (Y := 2) ti (by decide) ez110 (by omega) (by omega)
  refine va_sld hx hb hX hbl hbA hW.2.2.2.2.2.2.2 (iv_in (X := (i : Int) + 2) (by omega) (by omega) (by omega)) dLaw_862 ?_
  rw [show z110.toNatClampNeg = i + 2 from by show z110.toInt.toNat = _; omega]
  refine lv_aload_n hx hb dLaw_863 rfl (lv_at hl 3 rfl) ?_
  refine lv_iload_n hx hb dLaw_864 rfl (lv_at hl 0 rfl) ?_
  refine lv_iconst (v := 3) hx hb dLaw_865 (by decide) ?_
  refine lv_iadd hx hb dLaw_866 ?_
  refine lv_topi (fun z111 ez111 => ?_)
  have tz111 := iv_add (Y := 3) ti (by decide) ez111 (by omega) (by omega)
  refine va_sld hx hb hX hbl hbA hW.2.2.2.2.2.2.2 (iv_in (X := (i : Int) + 3) (by omega) (by omega) (by omega)) dLaw_867 ?_
  rw [show z111.toNatClampNeg = i + 3 from by show z111.toInt.toNat = _; omega]
  refine lc_i (As := [.int (xs (i + 1)), .int (xs (i + 2)), .int (xs (i + 3))]) (rest := []) (n := 3) (d := 6) ⟨hx, hb, hml, hown, hts⟩ (c_X11_below l E D Gc xa nn hW.2.1 (xs (i + 1)) (xs (i + 2)) (xs (i + 3))) wd_834 wd_835 wd_836 wd_1 wd_837 (by decide +kernel) ⟨Nat.le_of_ble_eq_true rfl, Nat.le_of_ble_eq_true rfl⟩ hW hN hK rfl hl.1 rfl (Nat.le_of_ble_eq_true rfl) dLaw_868 ⟨by rw [hR1]; omega, by rw [hR2]; omega⟩ (fun r112 H locs hr112 hW => ?_)
  refine lv_pop hx hb dLaw_871 rfl ?_
  refine lv_aload_n hx hb dLaw_872 rfl (lv_at hl 1 rfl) ?_
  refine lv_aload_n hx hb dLaw_873 rfl (lv_at hl 3 rfl) ?_
  refine lv_iload_n hx hb dLaw_874 rfl (lv_at hl 0 rfl) ?_
  refine lv_iconst (v := 1) hx hb dLaw_875 (by decide) ?_
  refine lv_iadd hx hb dLaw_876 ?_
  refine lv_topi (fun z113 ez113 => ?_)
  have tz113 := iv_add (Y := 1) ti (by decide) ez113 (by omega) (by omega)
  refine va_sld hx hb hX hbl hbA hW.2.2.2.2.2.2.2 (iv_in (X := (i : Int) + 1) (by omega) (by omega) (by omega)) dLaw_877 ?_
  rw [show z113.toNatClampNeg = i + 1 from by show z113.toInt.toNat = _; omega]
  refine lv_aload_n hx hb dLaw_878 rfl (lv_at hl 3 rfl) ?_
  refine lv_iload_n hx hb dLaw_879 rfl (lv_at hl 0 rfl) ?_
  refine lv_iconst (v := 2) hx hb dLaw_880 (by decide) ?_
  refine lv_iadd hx hb dLaw_881 ?_
  refine lv_topi (fun z114 ez114 => ?_)
  have tz114 := iv_add (Y := 2) ti (by decide) ez114 (by omega) (by omega)
  refine va_sld hx hb hX hbl hbA hW.2.2.2.2.2.2.2 (iv_in (X := (i : Int) + 2) (by omega) (by omega) (by omega)) dLaw_882 ?_
  rw [show z114.toNatClampNeg = i + 2 from by show z114.toInt.toNat = _; omega]
  refine lv_aload_n hx hb dLaw_883 rfl (lv_at hl 3 rfl) ?_
  refine lv_iload_n hx hb dLaw_884 rfl (lv_at hl 0 rfl) ?_
  refine lv_iconst (v := 3) hx hb dLaw_885 (by decide) ?_
  refine lv_iadd hx hb dLaw_886 ?_
  refine lv_topi (fun z115 ez115 => ?_)
  have tz115 := iv_add (Y := 3) ti (by decide) ez115 (by omega) (by omega)
  refine va_sld hx hb hX hbl hbA hW.2.2.2.2.2.2.2 (iv_in (X := (i : Int) + 3) (by omega) (by omega) (by omega)) dLaw_887 ?_
  rw [show z115.toNatClampNeg = i + 3 from by show z115.toInt.toNat = _; omega]
  refine lm_i (post := fun _ => True) (As := [.int (xs (i + 1)), .int (xs (i + 2)), .int (xs (i + 3))]) (rest := []) (n := 3) (d := 69) ⟨hx, hb, hml, hown, hts⟩ (c_X12_below l E D Gm ma hW.2.2.2.1 (xs (i + 1)) (xs (i + 2)) (xs (i + 3))) wd_1662 wd_1663 wd_1664 wd_13 wd_1665 (by decide +kernel) ⟨Nat.le_of_ble_eq_true rfl, Nat.le_of_ble_eq_true rfl⟩ hW hN hK rfl hl.1 rfl (Nat.le_of_ble_eq_true rfl) dLaw_888 ⟨by rw [hR1]; omega, by rw [hR2]; omega⟩ (fun r116 H locs hr116 hW => ?_)
  refine lv_pop hx hb dLaw_891 rfl ?_
  refine lv_goto (tgt := 2004) hx hb dLaw_892 (by decide) ?_
  exact W.widen (k := cells + 18) (n := slots + 441) (by omega) (by omega) (kk _ _ _ _ _ X0 hW hT)
set_option maxHeartbeats 4000000 in
set_option maxRecDepth 100000 in
theorem law_c19 {p : Program} {e : Env} {s : State} {m : MethodId} {below : List Frame} {meth : Method} {c : Code} {l : Launch} {b L : Nat} {xs : Nat → Int32} (C0 : lw_At p s m meth c b L xs) {E : Nat → Nat} {D : va_G} {adK adV : Nat → Nat} (X0 : LCx E D adK adV s) {xa ma i : Nat} (hi : i + 7 ≤ L) (hL : L ≤ 3584) {Gc Gm : th_G} {nn : Nat} {H : Heap} {locs : List Loc} (hW : LWs E D s xa ma Gc Gm nn H locs) (hT : TI E Gc xa nn) (hU : UQ Gm 1 ∧ UQ Gm 2 ∧ UQ Gm 11 ∧ UQ Gm 4 ∧ UQ Gm 10) {cells slots : Nat} (hc1 : cells + 18 ≤ 600000) (hc2 : slots + 441 ≤ 7302250) {ls : Array Slot} (hl : lv_has ls 4 [(3, .int (nI i)), (2, .ref ma), (1, .ref xa), (0, .ref b)]) (kk : ∀ (E : Nat → Nat) (Gc : th_G) (nn : Nat) (H : Heap) (locs : List Loc), LCx E D adK adV s → LWs E D s xa ma Gc Gm nn H locs → TI E Gc xa nn → W p l e room_1 s m #[Value.ref b] below meth c H locs (cells + 18) (slots + 441) (lw_Z below #[Value.ref b] s) (F0 m 2004 ls [])) : W p l e room_1 s m #[Value.ref b] below meth c H locs cells slots (lw_Z below #[Value.ref b] s) (F0 m 895 ls []) := by
  obtain ⟨hx, hb, hr, hml, hown, hts0, hX, hbl, hlocks, hgv⟩ := id C0
  obtain ⟨hN, hK, hWS, hCL, hAO⟩ := id X0
  have hbA : ¬ LWa s b := Nat.not_le.mpr hbl
  have hts := lw_tb (w := Cond.initialized RX12) wd_13 hts0
  have hR1 : room_1.cells = 600000 := rfl
  have hR2 : room_1.slots = 7302250 := rfl
  have ti : (nI i).toInt = (i : Int) := nI_toInt (by omega)
  refine lv_aload_n hx hb dLaw_895 rfl (lv_at hl 2 rfl) ?_
  refine lv_aload_n hx hb dLaw_896 rfl (lv_at hl 3 rfl) ?_
  refine lv_iload_n hx hb dLaw_897 rfl (lv_at hl 0 rfl) ?_
  refine lv_iconst (v := 1) hx hb dLaw_898 (by decide) ?_
  refine lv_iadd hx hb dLaw_899 ?_
  refine lv_topi (fun z117 ez117 => ?_)
  have tz117 := iv_add (Y := 1) ti (by decide) ez117 (by omega) (by omega)
  refine va_sld hx hb hX hbl hbA hW.2.2.2.2.2.2.2 (iv_in (X := (i : Int) + 1) (by omega) (by omega) (by omega)) dLaw_900 ?_
  rw [show z117.toNatClampNeg = i + 1 from by show z117.toInt.toNat = _; omega]
  refine lv_aload_n hx hb dLaw_901 rfl (lv_at hl 3 rfl) ?_
  refine lv_iload_n hx hb dLaw_902 rfl (lv_at hl 0 rfl) ?_
  refine lv_iconst (v := 2) hx hb dLaw_903 (by decide) ?_
  refine lv_iadd hx hb dLaw_904 ?_
  refine lv_topi (fun z118 ez118 => ?_)
  have tz118 := iv_add (Y := 2) ti (by decide) ez118 (by omega) (by omega)
  refine va_sld hx hb hX hbl hbA hW.2.2.2.2.2.2.2 (iv_in (X := (i : Int) + 2) (by omega) (by omega) (by omega)) dLaw_905 ?_
  rw [show z118.toNatClampNeg = i + 2 from by show z118.toInt.toNat = _; omega]
  refine lv_aload_n hx hb dLaw_906 rfl (lv_at hl 3 rfl) ?_
  refine lv_iload_n hx hb dLaw_907 rfl (lv_at hl 0 rfl) ?_
  refine lv_iconst (v := 3) hx hb dLaw_908 (by decide) ?_
  refine lv_iadd hx hb dLaw_909 ?_
  refine lv_topi (fun z119 ez119 => ?_)
  have tz119 := iv_add (Y := 3) ti (by decide) ez119 (by omega) (by omega)
  refine va_sld hx hb hX hbl hbA hW.2.2.2.2.2.2.2 (iv_in (X := (i : Int) + 3) (by omega) (by omega) (by omega)) dLaw_910 ?_
  rw [show z119.toNatClampNeg = i + 3 from by show z119.toInt.toNat = _; omega]
  refine lc_i (As := [.int (xs (i + 1)), .int (xs (i + 2)), .int (xs (i + 3))]) (rest := []) (n := 3) (d := 6) ⟨hx, hb, hml, hown, hts⟩ (c_X11_sources l E D Gc xa nn hW.2.1 (xs (i + 1)) (xs (i + 2)) (xs (i + 3))) wd_843 wd_844 wd_845 wd_1 wd_846 (by decide +kernel) ⟨Nat.le_of_ble_eq_true rfl, Nat.le_of_ble_eq_true rfl⟩ hW hN hK rfl hl.1 rfl (Nat.le_of_ble_eq_true rfl) dLaw_911 ⟨by rw [hR1]; omega, by rw [hR2]; omega⟩ (fun r120 H locs hr120 hW => ?_)
  refine lv_pop hx hb dLaw_914 rfl ?_
  refine lv_aload_n hx hb dLaw_915 rfl (lv_at hl 1 rfl) ?_
  refine lv_aload_n hx hb dLaw_916 rfl (lv_at hl 3 rfl) ?_
  refine lv_iload_n hx hb dLaw_917 rfl (lv_at hl 0 rfl) ?_
  refine lv_iconst (v := 1) hx hb dLaw_918 (by decide) ?_
  refine lv_iadd hx hb dLaw_919 ?_
  refine lv_topi (fun z121 ez121 => ?_)
  have tz121 := iv_add (Y := 1) ti (by decide) ez121 (by omega) (by omega)
  refine va_sld hx hb hX hbl hbA hW.2.2.2.2.2.2.2 (iv_in (X := (i : Int) + 1) (by omega) (by omega) (by omega)) dLaw_920 ?_
  rw [show z121.toNatClampNeg = i + 1 from by show z121.toInt.toNat = _; omega]
  refine lv_aload_n hx hb dLaw_921 rfl (lv_at hl 3 rfl) ?_
  refine lv_iload_n hx hb dLaw_922 rfl (lv_at hl 0 rfl) ?_
  refine lv_iconst (v := 2) hx hb dLaw_923 (by decide) ?_
  refine lv_iadd hx hb dLaw_924 ?_
  refine lv_topi (fun z122 ez122 => ?_)
  have tz122 := iv_add (Y := 2) ti (by decide) ez122 (by omega) (by omega)
  refine va_sld hx hb hX hbl hbA hW.2.2.2.2.2.2.2 (iv_in (X := (i : Int) + 2) (by omega) (by omega) (by omega)) dLaw_925 ?_
  rw [show z122.toNatClampNeg = i + 2 from by show z122.toInt.toNat = _; omega]
  refine lv_aload_n hx hb dLaw_926 rfl (lv_at hl 3 rfl) ?_
  refine lv_iload_n hx hb dLaw_927 rfl (lv_at hl 0 rfl) ?_
  refine lv_iconst (v := 3) hx hb dLaw_928 (by decide) ?_
  refine lv_iadd hx hb dLaw_929 ?_
  refine lv_topi (fun z123 ez123 => ?_)
  have tz123 := iv_add (Y := 3) ti (by decide) ez123 (by omega) (by omega)
  refine va_sld hx hb hX hbl hbA hW.2.2.2.2.2.2.2 (iv_in (X := (i : Int) + 3) (by omega) (by omega) (by omega)) dLaw_930 ?_
  rw [show z123.toNatClampNeg = i + 3 from by show z123.toInt.toNat = _; omega]
  refine lm_i (post := fun _ => True) (As := [.int (xs (i + 1)), .int (xs (i + 2)), .int (xs (i + 3))]) (rest := []) (n := 3) (d := 69) ⟨hx, hb, hml, hown, hts⟩ (c_X12_sources l E D Gm ma hW.2.2.2.1 (xs (i + 1)) (xs (i + 2)) (xs (i + 3))) wd_1666 wd_1667 wd_1668 wd_13 wd_1669 (by decide +kernel) ⟨Nat.le_of_ble_eq_true rfl, Nat.le_of_ble_eq_true rfl⟩ hW hN hK rfl hl.1 rfl (Nat.le_of_ble_eq_true rfl) dLaw_931 ⟨by rw [hR1]; omega, by rw [hR2]; omega⟩ (fun r124 H locs hr124 hW => ?_)
  refine lv_pop hx hb dLaw_934 rfl ?_
  refine lv_goto (tgt := 2004) hx hb dLaw_935 (by decide) ?_
  exact W.widen (k := cells + 18) (n := slots + 441) (by omega) (by omega) (kk _ _ _ _ _ X0 hW hT)
