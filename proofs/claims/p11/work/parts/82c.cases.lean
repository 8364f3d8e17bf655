set_option maxHeartbeats 4000000 in
set_option maxRecDepth 100000 in
theorem law_c10 {p : Program} {e : Env} {s : State} {m : MethodId} {below : List Frame} {meth : Method} {c : Code} {l : Launch} {b L : Nat} {xs : Nat → Int32} (C0 : lw_At p s m meth c b L xs) {E : Nat → ClassId} {D : va_G} {adK adV : Nat → Nat} (X0 : LCx E D adK adV s) {xa ma i : Nat} (hi : i + 7 ≤ L) (hL : L ≤ 3584) {Gc Gm : th_G} {nn nm : Nat} {H : Heap} {locs : List Loc} (hW : LWs E D s xa ma Gc Gm nn nm H locs) (hT : nm = nn % 401) {cells slots : Nat} (hc1 : cells + 18 ≤ 600000) (hc2 : slots + 441 ≤ 7302250) {ls : Array Slot} (hl : lv_has ls 4 [(3, .int (nI i)), (2, .ref ma), (1, .ref xa), (0, .ref b)]) (kk : ∀ (Gc Gm : th_G) (nn nm : Nat) (H : Heap) (locs : List Loc), LWs E D s xa ma Gc Gm nn nm H locs → nm = nn % 401 → W p l e room_1 s m #[Value.ref b] below meth c H locs (cells + 18) (slots + 441) (lw_Z below #[Value.ref b] s) (F0 m 2004 ls [])) : W p l e room_1 s m #[Value.ref b] below meth c H locs cells slots (lw_Z below #[Value.ref b] s) (F0 m 658 ls []) := by
  obtain ⟨hx, hb, hr, hml, hown, hts0, hX, hbl, hlocks, hgv⟩ := id C0
  obtain ⟨hN, hK, hWS, hCL, hAO⟩ := id X0
  have hbA : ¬ LWa s b := Nat.not_le.mpr hbl
  have hts := lw_tb (w := Cond.initialized RX12) wd_13 hts0
  have hR1 : room_1.cells = 600000 := rfl
  have hR2 : room_1.slots = 7302250 := rfl
  have ti : (nI i).toInt = (i : Int) := nI_toInt (by omega)
  refine lv_aload_n hx hb dLaw_658 rfl (lv_at hl 2 rfl) ?_
  refine lc_g (nn2 := nn / 401 * 401) (As := []) (rest := []) (n := 0) (d := 7) ⟨hx, hb, hml, hown, hts⟩ (c_X11_row l E D Gc xa nn hW.2.1 ) (gu_A hW.2.1) gu_at wd_609 wd_610 wd_611 wd_1 wd_612 (by decide +kernel) ⟨Nat.le_of_ble_eq_true rfl, Nat.le_of_ble_eq_true rfl⟩ hW hN hK rfl hl.1 rfl (Nat.le_of_ble_eq_true rfl) dLaw_659 ⟨by rw [hR1]; omega, by rw [hR2]; omega⟩ (fun r75 H locs hr75 hW => ?_)
  obtain ⟨Gc, nn9, e9, hW⟩ : ∃ (G2 : th_G) (n2 : Nat), n2 = nn / 401 * 401 ∧ LWs E D s xa ma G2 Gm n2 nm H locs := ⟨_, _, rfl, hW⟩
  refine lv_pop hx hb dLaw_662 rfl ?_
  refine lv_aload_n hx hb dLaw_663 rfl (lv_at hl 1 rfl) ?_
  refine lm_g (post := fun _ => True) (nm2 := 0) (As := []) (rest := []) (n := 0) (d := 69) ⟨hx, hb, hml, hown, hts⟩ (c_X12_row l E D Gm ma hW.2.2.2.1 ) (gu_A hW.2.2.2.1) gu_at wd_1451 wd_1452 wd_1453 wd_13 wd_1454 (by decide +kernel) ⟨Nat.le_of_ble_eq_true rfl, Nat.le_of_ble_eq_true rfl⟩ hW hN hK rfl hl.1 rfl (Nat.le_of_ble_eq_true rfl) dLaw_664 ⟨by rw [hR1]; omega, by rw [hR2]; omega⟩ (fun r76 H locs hr76 hW => ?_)
  obtain ⟨Gm, nm9, f9, hW⟩ : ∃ (G2 : th_G) (n2 : Nat), n2 = 0 ∧ LWs E D s xa ma Gc G2 nn9 n2 H locs := ⟨_, _, rfl, hW⟩
  refine lv_pop hx hb dLaw_667 rfl ?_
  refine lv_goto (tgt := 2004) hx hb dLaw_668 (by decide) ?_
  exact W.widen (k := cells + 18) (n := slots + 441) (by omega) (by omega) (kk _ _ _ _ _ _ hW (by rw [f9, e9]; omega))
set_option maxHeartbeats 4000000 in
set_option maxRecDepth 100000 in
theorem law_c11 {p : Program} {e : Env} {s : State} {m : MethodId} {below : List Frame} {meth : Method} {c : Code} {l : Launch} {b L : Nat} {xs : Nat → Int32} (C0 : lw_At p s m meth c b L xs) {E : Nat → ClassId} {D : va_G} {adK adV : Nat → Nat} (X0 : LCx E D adK adV s) {xa ma i : Nat} (hi : i + 7 ≤ L) (hL : L ≤ 3584) {Gc Gm : th_G} {nn nm : Nat} {H : Heap} {locs : List Loc} (hW : LWs E D s xa ma Gc Gm nn nm H locs) (hT : nm = nn % 401) {cells slots : Nat} (hc1 : cells + 18 ≤ 600000) (hc2 : slots + 441 ≤ 7302250) {ls : Array Slot} (hl : lv_has ls 4 [(3, .int (nI i)), (2, .ref ma), (1, .ref xa), (0, .ref b)]) (kk : ∀ (Gc Gm : th_G) (nn nm : Nat) (H : Heap) (locs : List Loc), LWs E D s xa ma Gc Gm nn nm H locs → nm = nn % 401 → W p l e room_1 s m #[Value.ref b] below meth c H locs (cells + 18) (slots + 441) (lw_Z below #[Value.ref b] s) (F0 m 2004 ls [])) : W p l e room_1 s m #[Value.ref b] below meth c H locs cells slots (lw_Z below #[Value.ref b] s) (F0 m 671 ls []) := by
  obtain ⟨hx, hb, hr, hml, hown, hts0, hX, hbl, hlocks, hgv⟩ := id C0
  obtain ⟨hN, hK, hWS, hCL, hAO⟩ := id X0
  have hbA : ¬ LWa s b := Nat.not_le.mpr hbl
  have hts := lw_tb (w := Cond.initialized RX12) wd_13 hts0
  have hR1 : room_1.cells = 600000 := rfl
  have hR2 : room_1.slots = 7302250 := rfl
  have ti : (nI i).toInt = (i : Int) := nI_toInt (by omega)
  refine lv_aload_n hx hb dLaw_671 rfl (lv_at hl 2 rfl) ?_
  refine lc_i (As := []) (rest := []) (n := 0) (d := 0) ⟨hx, hb, hml, hown, hts⟩ (c_X11_foam l E D Gc xa nn hW.2.1 ) wd_635 wd_636 wd_637 wd_1 wd_638 (by decide +kernel) ⟨Nat.le_of_ble_eq_true rfl, Nat.le_of_ble_eq_true rfl⟩ hW hN hK rfl hl.1 rfl (Nat.le_of_ble_eq_true rfl) dLaw_672 ⟨by rw [hR1]; omega, by rw [hR2]; omega⟩ (fun r77 H locs hr77 hW => ?_)
  refine lv_pop hx hb dLaw_675 rfl ?_
  refine lv_aload_n hx hb dLaw_676 rfl (lv_at hl 1 rfl) ?_
  refine lm_i (post := fun _ => True) (As := []) (rest := []) (n := 0) (d := 0) ⟨hx, hb, hml, hown, hts⟩ (c_X12_foam l E D Gm ma hW.2.2.2.1 ) wd_1548 wd_1549 wd_1550 wd_13 wd_1551 (by decide +kernel) ⟨Nat.le_of_ble_eq_true rfl, Nat.le_of_ble_eq_true rfl⟩ hW hN hK rfl hl.1 rfl (Nat.le_of_ble_eq_true rfl) dLaw_677 ⟨by rw [hR1]; omega, by rw [hR2]; omega⟩ (fun r78 H locs hr78 hW => ?_)
  refine lv_pop hx hb dLaw_680 rfl ?_
  refine lv_goto (tgt := 2004) hx hb dLaw_681 (by decide) ?_
  exact W.widen (k := cells + 18) (n := slots + 441) (by omega) (by omega) (kk _ _ _ _ _ _ hW hT)
set_option maxHeartbeats 4000000 in
set_option maxRecDepth 100000 in
theorem law_c12 {p : Program} {e : Env} {s : State} {m : MethodId} {below : List Frame} {meth : Method} {c : Code} {l : Launch} {b L : Nat} {xs : Nat → Int32} (C0 : lw_At p s m meth c b L xs) {E : Nat → ClassId} {D : va_G} {adK adV : Nat → Nat} (X0 : LCx E D adK adV s) {xa ma i : Nat} (hi : i + 7 ≤ L) (hL : L ≤ 3584) {Gc Gm : th_G} {nn nm : Nat} {H : Heap} {locs : List Loc} (hW : LWs E D s xa ma Gc Gm nn nm H locs) (hT : nm = nn % 401) {cells slots : Nat} (hc1 : cells + 18 ≤ 600000) (hc2 : slots + 441 ≤ 7302250) {ls : Array Slot} (hl : lv_has ls 4 [(3, .int (nI i)), (2, .ref ma), (1, .ref xa), (0, .ref b)]) (kk : ∀ (Gc Gm : th_G) (nn nm : Nat) (H : Heap) (locs : List Loc), LWs E D s xa ma Gc Gm nn nm H locs → nm = nn % 401 → W p l e room_1 s m #[Value.ref b] below meth c H locs (cells + 18) (slots + 441) (lw_Z below #[Value.ref b] s) (F0 m 2004 ls [])) : W p l e room_1 s m #[Value.ref b] below meth c H locs cells slots (lw_Z below #[Value.ref b] s) (F0 m 684 ls []) := by
  obtain ⟨hx, hb, hr, hml, hown, hts0, hX, hbl, hlocks, hgv⟩ := id C0
  obtain ⟨hN, hK, hWS, hCL, hAO⟩ := id X0
  have hbA : ¬ LWa s b := Nat.not_le.mpr hbl
  have hts := lw_tb (w := Cond.initialized RX12) wd_13 hts0
  have hR1 : room_1.cells = 600000 := rfl
  have hR2 : room_1.slots = 7302250 := rfl
  have ti : (nI i).toInt = (i : Int) := nI_toInt (by omega)
  refine lv_aload_n hx hb dLaw_684 rfl (lv_at hl 2 rfl) ?_
  refine lc_mk (As := []) (rest := []) (n := 0) ⟨hx, hb, hml, hown, hts⟩ (c_X11_law l E D Gc H.size adK adV xa nn hW.2.1) lw_blind (fun U hU hWm => ⟨by rw [hU], ⟨by rw [hU]; exact hW.1, hN.warm hWm, va_K.moved hWm.alike hK⟩, by rw [hU]; exact ((hWS.kept hW.2.2.2.2.2.2.2.2.1).narrow (lw_nA hW)).warm hWm, hCL.warm hWm⟩) wd_639 wd_640 wd_641 wd_1 wd_642 ⟨rfl, rfl⟩ (by decide +kernel) ⟨Nat.le_of_ble_eq_true rfl, Nat.le_of_ble_eq_true rfl⟩ hW gu_at (fun r k h => gu_dom hW.2.1 h) hK rfl hl.1 rfl (Nat.le_of_ble_eq_true rfl) dLaw_685 ⟨by rw [hR1]; omega, by rw [hR2]; omega⟩ (fun r79 Gc H locs hr79 hW => ?_)
  obtain ⟨nn9, e9, hW⟩ : ∃ n2 : Nat, n2 = nn / 401 * 401 ∧ LWs E D s xa ma Gc Gm n2 nm H locs := ⟨_, rfl, hW⟩
  refine lv_pop hx hb dLaw_688 rfl ?_
  refine lv_aload_n hx hb dLaw_689 rfl (lv_at hl 1 rfl) ?_
  refine lm_g (post := fun _ => True) (nm2 := 0) (As := []) (rest := []) (n := 0) (d := 59) ⟨hx, hb, hml, hown, hts⟩ (c_X12_law l E D Gm ma hW.2.2.2.1 ) (gu_A hW.2.2.2.1) gu_at wd_1560 wd_1561 wd_1562 wd_13 wd_1563 (by decide +kernel) ⟨Nat.le_of_ble_eq_true rfl, Nat.le_of_ble_eq_true rfl⟩ hW hN hK rfl hl.1 rfl (Nat.le_of_ble_eq_true rfl) dLaw_690 ⟨by rw [hR1]; omega, by rw [hR2]; omega⟩ (fun r80 H locs hr80 hW => ?_)
  obtain ⟨Gm, nm9, f9, hW⟩ : ∃ (G2 : th_G) (n2 : Nat), n2 = 0 ∧ LWs E D s xa ma Gc G2 nn9 n2 H locs := ⟨_, _, rfl, hW⟩
  refine lv_pop hx hb dLaw_693 rfl ?_
  refine lv_goto (tgt := 2004) hx hb dLaw_694 (by decide) ?_
  exact W.widen (k := cells + 18) (n := slots + 441) (by omega) (by omega) (kk _ _ _ _ _ _ hW (by rw [f9, e9]; omega))
set_option maxHeartbeats 4000000 in
set_option maxRecDepth 100000 in
theorem law_c13 {p : Program} {e : Env} {s : State} {m : MethodId} {below : List Frame} {meth : Method} {c : Code} {l : Launch} {b L : Nat} {xs : Nat → Int32} (C0 : lw_At p s m meth c b L xs) {E : Nat → ClassId} {D : va_G} {adK adV : Nat → Nat} (X0 : LCx E D adK adV s) {xa ma i : Nat} (hi : i + 7 ≤ L) (hL : L ≤ 3584) {Gc Gm : th_G} {nn nm : Nat} {H : Heap} {locs : List Loc} (hW : LWs E D s xa ma Gc Gm nn nm H locs) (hT : nm = nn % 401) {cells slots : Nat} (hc1 : cells + 18 ≤ 600000) (hc2 : slots + 441 ≤ 7302250) {ls : Array Slot} (hl : lv_has ls 4 [(3, .int (nI i)), (2, .ref ma), (1, .ref xa), (0, .ref b)]) (kk : ∀ (Gc Gm : th_G) (nn nm : Nat) (H : Heap) (locs : List Loc), LWs E D s xa ma Gc Gm nn nm H locs → nm = nn % 401 → W p l e room_1 s m #[Value.ref b] below meth c H locs (cells + 18) (slots + 441) (lw_Z below #[Value.ref b] s) (F0 m 2004 ls [])) : W p l e room_1 s m #[Value.ref b] below meth c H locs cells slots (lw_Z below #[Value.ref b] s) (F0 m 697 ls []) := by
  obtain ⟨hx, hb, hr, hml, hown, hts0, hX, hbl, hlocks, hgv⟩ := id C0
  obtain ⟨hN, hK, hWS, hCL, hAO⟩ := id X0
  have hbA : ¬ LWa s b := Nat.not_le.mpr hbl
  have hts := lw_tb (w := Cond.initialized RX12) wd_13 hts0
  have hR1 : room_1.cells = 600000 := rfl
  have hR2 : room_1.slots = 7302250 := rfl
  have ti : (nI i).toInt = (i : Int) := nI_toInt (by omega)
  refine lv_aload_n hx hb dLaw_697 rfl (lv_at hl 2 rfl) ?_
  refine lc_i (As := []) (rest := []) (n := 0) (d := 0) ⟨hx, hb, hml, hown, hts⟩ (c_X11_fault l E D Gc xa nn hW.2.1 ) wd_793 wd_794 wd_795 wd_1 wd_796 (by decide +kernel) ⟨Nat.le_of_ble_eq_true rfl, Nat.le_of_ble_eq_true rfl⟩ hW hN hK rfl hl.1 rfl (Nat.le_of_ble_eq_true rfl) dLaw_698 ⟨by rw [hR1]; omega, by rw [hR2]; omega⟩ (fun r81 H locs hr81 hW => ?_)
  refine lv_pop hx hb dLaw_701 rfl ?_
  refine lv_aload_n hx hb dLaw_702 rfl (lv_at hl 1 rfl) ?_
  refine lm_i (post := fun _ => True) (As := []) (rest := []) (n := 0) (d := 0) ⟨hx, hb, hml, hown, hts⟩ (c_X12_fault l E D Gm ma hW.2.2.2.1 ) wd_1631 wd_1632 wd_1633 wd_13 wd_1634 (by decide +kernel) ⟨Nat.le_of_ble_eq_true rfl, Nat.le_of_ble_eq_true rfl⟩ hW hN hK rfl hl.1 rfl (Nat.le_of_ble_eq_true rfl) dLaw_703 ⟨by rw [hR1]; omega, by rw [hR2]; omega⟩ (fun r82 H locs hr82 hW => ?_)
  refine lv_pop hx hb dLaw_706 rfl ?_
  refine lv_goto (tgt := 2004) hx hb dLaw_707 (by decide) ?_
  exact W.widen (k := cells + 18) (n := slots + 441) (by omega) (by omega) (kk _ _ _ _ _ _ hW hT)
set_option maxHeartbeats 4000000 in
set_option maxRecDepth 100000 in
theorem law_c14 {p : Program} {e : Env} {s : State} {m : MethodId} {below : List Frame} {meth : Method} {c : Code} {l : Launch} {b L : Nat} {xs : Nat → Int32} (C0 : lw_At p s m meth c b L xs) {E : Nat → ClassId} {D : va_G} {adK adV : Nat → Nat} (X0 : LCx E D adK adV s) {xa ma i : Nat} (hi : i + 7 ≤ L) (hL : L ≤ 3584) {Gc Gm : th_G} {nn nm : Nat} {H : Heap} {locs : List Loc} (hW : LWs E D s xa ma Gc Gm nn nm H locs) (hT : nm = nn % 401) {cells slots : Nat} (hc1 : cells + 18 ≤ 600000) (hc2 : slots + 441 ≤ 7302250) {ls : Array Slot} (hl : lv_has ls 4 [(3, .int (nI i)), (2, .ref ma), (1, .ref xa), (0, .ref b)]) (kk : ∀ (Gc Gm : th_G) (nn nm : Nat) (H : Heap) (locs : List Loc), LWs E D s xa ma Gc Gm nn nm H locs → nm = nn % 401 → W p l e room_1 s m #[Value.ref b] below meth c H locs (cells + 18) (slots + 441) (lw_Z below #[Value.ref b] s) (F0 m 2004 ls [])) : W p l e room_1 s m #[Value.ref b] below meth c H locs cells slots (lw_Z below #[Value.ref b] s) (F0 m 710 ls []) := by
  obtain ⟨hx, hb, hr, hml, hown, hts0, hX, hbl, hlocks, hgv⟩ := id C0
  obtain ⟨hN, hK, hWS, hCL, hAO⟩ := id X0
  have hbA : ¬ LWa s b := Nat.not_le.mpr hbl
  have hts := lw_tb (w := Cond.initialized RX12) wd_13 hts0
  have hR1 : room_1.cells = 600000 := rfl
  have hR2 : room_1.slots = 7302250 := rfl
  have ti : (nI i).toInt = (i : Int) := nI_toInt (by omega)
  refine lv_aload_n hx hb dLaw_710 rfl (lv_at hl 2 rfl) ?_
  refine lv_aload_n hx hb dLaw_711 rfl (lv_at hl 3 rfl) ?_
  refine lv_iload_n hx hb dLaw_712 rfl (lv_at hl 0 rfl) ?_
  refine lv_iconst (v := 1) hx hb dLaw_713 (by decide) ?_
  refine lv_iadd hx hb dLaw_714 ?_
  refine lv_topi (fun z83 ez83 => ?_)
  have tz83 := iv_add (Y := 1) ti (by decide) ez83 (by omega) (by omega)
  refine va_sld hx hb hX hbl hbA hW.2.2.2.2.2.2.2 (iv_in (X := (i : Int) + 1) (by omega) (by omega) (by omega)) dLaw_715 ?_
  rw [show z83.toNatClampNeg = i + 1 from by show z83.toInt.toNat = _; omega]
  refine lc_i (As := [.int (xs (i + 1))]) (rest := []) (n := 1) (d := 3) ⟨hx, hb, hml, hown, hts⟩ (c_X11_force l E D Gc xa nn hW.2.1 (xs (i + 1))) wd_797 wd_798 wd_799 wd_1 wd_800 (by decide +kernel) ⟨Nat.le_of_ble_eq_true rfl, Nat.le_of_ble_eq_true rfl⟩ hW hN hK rfl hl.1 rfl (Nat.le_of_ble_eq_true rfl) dLaw_716 ⟨by rw [hR1]; omega, by rw [hR2]; omega⟩ (fun r84 H locs hr84 hW => ?_)
  refine lv_pop hx hb dLaw_719 rfl ?_
  refine lv_aload_n hx hb dLaw_720 rfl (lv_at hl 1 rfl) ?_
  refine lv_aload_n hx hb dLaw_721 rfl (lv_at hl 3 rfl) ?_
  refine lv_iload_n hx hb dLaw_722 rfl (lv_at hl 0 rfl) ?_
  refine lv_iconst (v := 1) hx hb dLaw_723 (by decide) ?_
  refine lv_iadd hx hb dLaw_724 ?_
  refine lv_topi (fun z85 ez85 => ?_)
  have tz85 := iv_add (Y := 1) ti (by decide) ez85 (by omega) (by omega)
  refine va_sld hx hb hX hbl hbA hW.2.2.2.2.2.2.2 (iv_in (X := (i : Int) + 1) (by omega) (by omega) (by omega)) dLaw_725 ?_
  rw [show z85.toNatClampNeg = i + 1 from by show z85.toInt.toNat = _; omega]
  refine lm_i (post := fun _ => True) (As := [.int (xs (i + 1))]) (rest := []) (n := 1) (d := 1) ⟨hx, hb, hml, hown, hts⟩ (c_X12_force l E D Gm ma hW.2.2.2.1 (xs (i + 1))) wd_1635 wd_1636 wd_1637 wd_13 wd_1638 (by decide +kernel) ⟨Nat.le_of_ble_eq_true rfl, Nat.le_of_ble_eq_true rfl⟩ hW hN hK rfl hl.1 rfl (Nat.le_of_ble_eq_true rfl) dLaw_726 ⟨by rw [hR1]; omega, by rw [hR2]; omega⟩ (fun r86 H locs hr86 hW => ?_)
  refine lv_pop hx hb dLaw_729 rfl ?_
  refine lv_goto (tgt := 2004) hx hb dLaw_730 (by decide) ?_
  exact W.widen (k := cells + 18) (n := slots + 441) (by omega) (by omega) (kk _ _ _ _ _ _ hW hT)
