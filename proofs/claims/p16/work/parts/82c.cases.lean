set_option maxHeartbeats 4000000 in
set_option maxRecDepth 100000 in
theorem law_c10 {p : Program} {e : Env} {s : State} {m : MethodId} {below : List Frame} {meth : Method} {c : Code} {l : Launch} {b L : Nat} {xs : Nat → Int32} (C0 : lw_At p s m meth c b L xs) {E : Nat → Nat} {D : va_G} {adK adV : Nat → Nat} (X0 : LCx E D adK adV s) {xa ma i : Nat} (hi : i + 7 ≤ L) (hL : L ≤ 3584) {Gc Gm : th_G} {nn : Nat} {H : Heap} {locs : List Loc} (hW : LWs E D s xa ma Gc Gm nn H locs) (hT : TI E Gc xa nn) (hU : UQ Gm 1 ∧ UQ Gm 2 ∧ UQ Gm 11 ∧ UQ Gm 4 ∧ UQ Gm 10) {cells slots : Nat} (hc1 : cells + 18 ≤ 600000) (hc2 : slots + 441 ≤ 7302250) {ls : Array Slot} (hl : lv_has ls 4 [(3, .int (nI i)), (2, .ref ma), (1, .ref xa), (0, .ref b)]) (kk : ∀ (E : Nat → Nat) (Gc : th_G) (nn : Nat) (H : Heap) (locs : List Loc), LCx E D adK adV s → LWs E D s xa ma Gc Gm nn H locs → TI E Gc xa nn → W p l e room_1 s m #[Value.ref b] below meth c H locs (cells + 18) (slots + 441) (lw_Z below #[Value.ref b] s) (F0 m 2004 ls [])) : W p l e room_1 s m #[Value.ref b] below meth c H locs cells slots (lw_Z below #[Value.ref b] s) (F0 m 658 ls []) := by
  obtain ⟨hx, hb, hr, hml, hown, hts0, hX, hbl, hlocks, hgv⟩ := id C0
  obtain ⟨hN, hK, hWS, hCL, hAO⟩ := id X0
  have hbA : ¬ LWa s b := Nat.not_le.mpr hbl
  have hts := lw_tb (w := Cond.initialized RX12) wd_13 hts0
  have hR1 : room_1.cells = 600000 := rfl
  have hR2 : room_1.slots = 7302250 := rfl
  have ti : (nI i).toInt = (i : Int) := nI_toInt (by omega)
  refine lv_aload_n hx hb dLaw_658 rfl (lv_at hl 2 rfl) ?_
  obtain ⟨⟨sa, hTS⟩, ta, ra, hTP⟩ := id hT
  refine lc_e (As := []) (rest := []) (n := 0) (d := 7) ⟨hx, hb, hml, hown, hts⟩ (c_X11_row l E D Gc xa nn hW.2.1  ) (fun j hj => eu_ne (by omega)) wd_609 wd_610 wd_611 wd_1 wd_612 (by decide +kernel) ⟨Nat.le_of_ble_eq_true rfl, Nat.le_of_ble_eq_true rfl⟩ hW hN hK rfl hl.1 rfl (Nat.le_of_ble_eq_true rfl) dLaw_659 ⟨by rw [hR1]; omega, by rw [hR2]; omega⟩ (fun r75 H locs E1 hE1 hr75 hW => ?_)
  have XE1 := LCx_eq (E' := E1) (fun j hj => by rw [hE1]; exact eu_ne (by omega)) X0
  obtain ⟨hN, hK, hWS, hCL, hAO⟩ := id XE1
  refine lv_pop hx hb dLaw_662 rfl ?_
  refine lv_aload_n hx hb dLaw_663 rfl (lv_at hl 1 rfl) ?_
  refine lm_e (post := fun _ => True) (As := []) (rest := []) (n := 0) (d := 69) ⟨hx, hb, hml, hown, hts⟩ (c_X12_row l E1 D Gm ma hW.2.2.2.1  hU.2.2.2.2) (fun j hj => eu_ne (by omega)) wd_1451 wd_1452 wd_1453 wd_13 wd_1454 (by decide +kernel) ⟨Nat.le_of_ble_eq_true rfl, Nat.le_of_ble_eq_true rfl⟩ hW hN hK rfl hl.1 rfl (Nat.le_of_ble_eq_true rfl) dLaw_664 ⟨by rw [hR1]; omega, by rw [hR2]; omega⟩ (fun r76 H locs E2 hE2 hr76 hW => ?_)
  have XE2 := LCx_eq (E' := E2) (fun j hj => by rw [hE2]; exact eu_ne (by omega)) XE1
  obtain ⟨hN, hK, hWS, hCL, hAO⟩ := id XE2
  have hT : TI E2 Gc xa nn := by rw [hE2, hE1]; exact TI_size ⟨sa, hTS⟩ hTP
  refine lv_pop hx hb dLaw_667 rfl ?_
  refine lv_goto (tgt := 2004) hx hb dLaw_668 (by decide) ?_
  exact W.widen (k := cells + 18) (n := slots + 441) (by omega) (by omega) (kk _ _ _ _ _ XE2 hW hT)
set_option maxHeartbeats 4000000 in
set_option maxRecDepth 100000 in
theorem law_c11 {p : Program} {e : Env} {s : State} {m : MethodId} {below : List Frame} {meth : Method} {c : Code} {l : Launch} {b L : Nat} {xs : Nat → Int32} (C0 : lw_At p s m meth c b L xs) {E : Nat → Nat} {D : va_G} {adK adV : Nat → Nat} (X0 : LCx E D adK adV s) {xa ma i : Nat} (hi : i + 7 ≤ L) (hL : L ≤ 3584) {Gc Gm : th_G} {nn : Nat} {H : Heap} {locs : List Loc} (hW : LWs E D s xa ma Gc Gm nn H locs) (hT : TI E Gc xa nn) (hU : UQ Gm 1 ∧ UQ Gm 2 ∧ UQ Gm 11 ∧ UQ Gm 4 ∧ UQ Gm 10) {cells slots : Nat} (hc1 : cells + 18 ≤ 600000) (hc2 : slots + 441 ≤ 7302250) {ls : Array Slot} (hl : lv_has ls 4 [(3, .int (nI i)), (2, .ref ma), (1, .ref xa), (0, .ref b)]) (kk : ∀ (E : Nat → Nat) (Gc : th_G) (nn : Nat) (H : Heap) (locs : List Loc), LCx E D adK adV s → LWs E D s xa ma Gc Gm nn H locs → TI E Gc xa nn → W p l e room_1 s m #[Value.ref b] below meth c H locs (cells + 18) (slots + 441) (lw_Z below #[Value.ref b] s) (F0 m 2004 ls [])) : W p l e room_1 s m #[Value.ref b] below meth c H locs cells slots (lw_Z below #[Value.ref b] s) (F0 m 671 ls []) := by
  obtain ⟨hx, hb, hr, hml, hown, hts0, hX, hbl, hlocks, hgv⟩ := id C0
  obtain ⟨hN, hK, hWS, hCL, hAO⟩ := id X0
  have hbA : ¬ LWa s b := Nat.not_le.mpr hbl
  have hts := lw_tb (w := Cond.initialized RX12) wd_13 hts0
  have hR1 : room_1.cells = 600000 := rfl
  have hR2 : room_1.slots = 7302250 := rfl
  have ti : (nI i).toInt = (i : Int) := nI_toInt (by omega)
  refine lv_aload_n hx hb dLaw_671 rfl (lv_at hl 2 rfl) ?_
  refine lc_i (As := []) (rest := []) (n := 0) (d := 0) ⟨hx, hb, hml, hown, hts⟩ (c_X11_foam l E D Gc xa nn hW.2.1 ) wd_635 wd_636 wd_637 wd_1 wd_638 (by decide +kernel) ⟨Nat.le_of_ble_eq_true rfl, Nat.le_of_ble_eq_true rfl⟩ hW hN hK rfl hl.1 rfl (Nat.le_of_ble_eq_true rfl) dLaw_672 ⟨by rw [hR1]; omega, by rw [hR2]; omega⟩ (fun r77 H locs hr77 hW => ?_)
  refine lv_pop hx hb dLaw_675 rfl ?_
  refine lv_aload_n hx hb dLaw_676 rfl (lv_at hl 1 rfl) ?_
  refine lm_i (post := fun _ => True) (As := []) (rest := []) (n := 0) (d := 0) ⟨hx, hb, hml, hown, hts⟩ (c_X12_foam l E D Gm ma hW.2.2.2.1 ) wd_1548 wd_1549 wd_1550 wd_13 wd_1551 (by decide +kernel) ⟨Nat.le_of_ble_eq_true rfl, Nat.le_of_ble_eq_true rfl⟩ hW hN hK rfl hl.1 rfl (Nat.le_of_ble_eq_true rfl) dLaw_677 ⟨by rw [hR1]; omega, by rw [hR2]; omega⟩ (fun r78 H locs hr78 hW => ?_)
  refine lv_pop hx hb dLaw_680 rfl ?_
  refine lv_goto (tgt := 2004) hx hb dLaw_681 (by decide) ?_
  exact W.widen (k := cells + 18) (n := slots + 441) (by omega) (by omega) (kk _ _ _ _ _ X0 hW hT)
set_option maxHeartbeats 4000000 in
set_option maxRecDepth 100000 in
theorem law_c12 {p : Program} {e : Env} {s : State} {m : MethodId} {below : List Frame} {meth : Method} {c : Code} {l : Launch} {b L : Nat} {xs : Nat → Int32} (C0 : lw_At p s m meth c b L xs) {E : Nat → Nat} {D : va_G} {adK adV : Nat → Nat} (X0 : LCx E D adK adV s) {xa ma i : Nat} (hi : i + 7 ≤ L) (hL : L ≤ 3584) {Gc Gm : th_G} {nn : Nat} {H : Heap} {locs : List Loc} (hW : LWs E D s xa ma Gc Gm nn H locs) (hT : TI E Gc xa nn) (hU : UQ Gm 1 ∧ UQ Gm 2 ∧ UQ Gm 11 ∧ UQ Gm 4 ∧ UQ Gm 10) {cells slots : Nat} (hc1 : cells + 18 ≤ 600000) (hc2 : slots + 441 ≤ 7302250) {ls : Array Slot} (hl : lv_has ls 4 [(3, .int (nI i)), (2, .ref ma), (1, .ref xa), (0, .ref b)]) (kk : ∀ (E : Nat → Nat) (Gc : th_G) (nn : Nat) (H : Heap) (locs : List Loc), LCx E D adK adV s → LWs E D s xa ma Gc Gm nn H locs → TI E Gc xa nn → W p l e room_1 s m #[Value.ref b] below meth c H locs (cells + 18) (slots + 441) (lw_Z below #[Value.ref b] s) (F0 m 2004 ls [])) : W p l e room_1 s m #[Value.ref b] below meth c H locs cells slots (lw_Z below #[Value.ref b] s) (F0 m 684 ls []) := by
  obtain ⟨hx, hb, hr, hml, hown, hts0, hX, hbl, hlocks, hgv⟩ := id C0
  obtain ⟨hN, hK, hWS, hCL, hAO⟩ := id X0
  have hbA : ¬ LWa s b := Nat.not_le.mpr hbl
  have hts := lw_tb (w := Cond.initialized RX12) wd_13 hts0
  have hR1 : room_1.cells = 600000 := rfl
  have hR2 : room_1.slots = 7302250 := rfl
  have ti : (nI i).toInt = (i : Int) := nI_toInt (by omega)
  refine lv_aload_n hx hb dLaw_684 rfl (lv_at hl 2 rfl) ?_
  obtain ⟨⟨sa, hTS⟩, ta, ra, hTP⟩ := id hT
  have hz4 := ea_told hW.1 hW.2.1
  refine lc_mkE (As := []) (rest := []) (n := 0) ⟨hx, hb, hml, hown, hts⟩ (c_X11_law l E D Gc H.size adK adV xa nn hW.2.1 sa ta ra hTS.1 hTP.1 hTP.2.2.1) (fun j hj => mL_ne (by omega) (by omega) (by omega)) lw_blind (fun U hU9 hWm => ⟨by rw [hU9], ⟨by rw [hU9]; exact hW.1, hN.warm hWm, va_K.moved hWm.alike hK⟩, by rw [hU9]; exact ((hWS.kept hW.2.2.2.2.2.2.2.2.1).narrow (lw_nA hW)).warm hWm, hCL.warm hWm⟩) wd_639 wd_640 wd_641 wd_1 wd_642 ⟨rfl, rfl⟩ (by decide +kernel) ⟨Nat.le_of_ble_eq_true rfl, Nat.le_of_ble_eq_true rfl⟩ hW hK rfl hl.1 rfl (Nat.le_of_ble_eq_true rfl) dLaw_685 ⟨by rw [hR1]; omega, by rw [hR2]; omega⟩ (fun r79 Gc E1 H locs hE1 hr79 hle hW => ?_)
  have hTP := TP_gle hle hTP
  have hTS : TS E Gc xa nn sa := TS_gle hle hTS
  have XE1 := LCx_eq (E' := E1) (fun j hj => by rw [hE1]; exact mL_ne (by omega) (by omega) (by omega)) X0
  obtain ⟨hN, hK, hWS, hCL, hAO⟩ := id XE1
  refine lv_pop hx hb dLaw_688 rfl ?_
  refine lv_aload_n hx hb dLaw_689 rfl (lv_at hl 1 rfl) ?_
  refine lm_e (As := []) (rest := []) (n := 0) (d := 59) ⟨hx, hb, hml, hown, hts⟩ (c_X12_law l E1 D Gm ma hW.2.2.2.1  hU.1 hU.2.2.2.2) (fun j hj => mL_ne (by omega) (by omega) (by omega)) wd_1560 wd_1561 wd_1562 wd_13 wd_1563 (by decide +kernel) ⟨Nat.le_of_ble_eq_true rfl, Nat.le_of_ble_eq_true rfl⟩ hW hN hK rfl hl.1 rfl (Nat.le_of_ble_eq_true rfl) dLaw_690 ⟨by rw [hR1]; omega, by rw [hR2]; omega⟩ (fun r80 H locs E2 hE2 hr80 hW => ?_)
  have XE2 := LCx_eq (E' := E2) (fun j hj => by rw [hE2]; exact mL_ne (by omega) (by omega) (by omega)) XE1
  obtain ⟨hN, hK, hWS, hCL, hAO⟩ := id XE2
  have hT : TI E2 Gc xa nn := by rw [hE2, hE1]; exact TI_law hTS hTP hz4
  refine lv_pop hx hb dLaw_693 rfl ?_
  refine lv_goto (tgt := 2004) hx hb dLaw_694 (by decide) ?_
  exact W.widen (k := cells + 18) (n := slots + 441) (by omega) (by omega) (kk _ _ _ _ _ XE2 hW hT)
set_option maxHeartbeats 4000000 in
set_option maxRecDepth 100000 in
theorem law_c13 {p : Program} {e : Env} {s : State} {m : MethodId} {below : List Frame} {meth : Method} {c : Code} {l : Launch} {b L : Nat} {xs : Nat → Int32} (C0 : lw_At p s m meth c b L xs) {E : Nat → Nat} {D : va_G} {adK adV : Nat → Nat} (X0 : LCx E D adK adV s) {xa ma i : Nat} (hi : i + 7 ≤ L) (hL : L ≤ 3584) {Gc Gm : th_G} {nn : Nat} {H : Heap} {locs : List Loc} (hW : LWs E D s xa ma Gc Gm nn H locs) (hT : TI E Gc xa nn) (hU : UQ Gm 1 ∧ UQ Gm 2 ∧ UQ Gm 11 ∧ UQ Gm 4 ∧ UQ Gm 10) {cells slots : Nat} (hc1 : cells + 18 ≤ 600000) (hc2 : slots + 441 ≤ 7302250) {ls : Array Slot} (hl : lv_has ls 4 [(3, .int (nI i)), (2, .ref ma), (1, .ref xa), (0, .ref b)]) (kk : ∀ (E : Nat → Nat) (Gc : th_G) (nn : Nat) (H : Heap) (locs : List Loc), LCx E D adK adV s → LWs E D s xa ma Gc Gm nn H locs → TI E Gc xa nn → W p l e room_1 s m #[Value.ref b] below meth c H locs (cells + 18) (slots + 441) (lw_Z below #[Value.ref b] s) (F0 m 2004 ls [])) : W p l e room_1 s m #[Value.ref b] below meth c H locs cells slots (lw_Z below #[Value.ref b] s) (F0 m 697 ls []) := by
  obtain ⟨hx, hb, hr, hml, hown, hts0, hX, hbl, hlocks, hgv⟩ := id C0
  obtain ⟨hN, hK, hWS, hCL, hAO⟩ := id X0
  have hbA : ¬ LWa s b := Nat.not_le.mpr hbl
  have hts := lw_tb (w := Cond.initialized RX12) wd_13 hts0
  have hR1 : room_1.cells = 600000 := rfl
  have hR2 : room_1.slots = 7302250 := rfl
  have ti : (nI i).toInt = (i : Int) := nI_toInt (by omega)
  refine lv_aload_n hx hb dLaw_697 rfl (lv_at hl 2 rfl) ?_
  refine lc_i (As := []) (rest := []) (n := 0) (d := 0) ⟨hx, hb, hml, hown, hts⟩ (c_X11_fault l E D Gc xa nn hW.2.1 ) wd_793 wd_794 wd_795 wd_1 wd_796 (by decide +kernel) ⟨Nat.le_of_ble_eq_true rfl, Nat.le_of_ble_eq_true rfl⟩ hW hN hK rfl hl.1 rfl (Nat.le_of_ble_eq_true rfl) dLaw_698 ⟨by rw [hR1]; omega, by rw [hR2]; omega⟩ (fun r81 H locs hr81 hW => ?_)
  refine lv_pop hx hb dLaw_701 rfl ?_
  refine lv_aload_n hx hb dLaw_702 rfl (lv_at hl 1 rfl) ?_
  refine lm_i (As := []) (rest := []) (n := 0) (d := 0) ⟨hx, hb, hml, hown, hts⟩ (c_X12_fault l E D Gm ma hW.2.2.2.1 ) wd_1631 wd_1632 wd_1633 wd_13 wd_1634 (by decide +kernel) ⟨Nat.le_of_ble_eq_true rfl, Nat.le_of_ble_eq_true rfl⟩ hW hN hK rfl hl.1 rfl (Nat.le_of_ble_eq_true rfl) dLaw_703 ⟨by rw [hR1]; omega, by rw [hR2]; omega⟩ (fun r82 H locs hr82 hW => ?_)
  refine lv_pop hx hb dLaw_706 rfl ?_
  refine lv_goto (tgt := 2004) hx hb dLaw_707 (by decide) ?_
  exact W.widen (k := cells + 18) (n := slots + 441) (by omega) (by omega) (kk _ _ _ _ _ X0 hW hT)
set_option maxHeartbeats 4000000 in
set_option maxRecDepth 100000 in
theorem law_c14 {p : Program} {e : Env} {s : State} {m : MethodId} {below : List Frame} {meth : Method} {c : Code} {l : Launch} {b L : Nat} {xs : Nat → Int32} (C0 : lw_At p s m meth c b L xs) {E : Nat → Nat} {D : va_G} {adK adV : Nat → Nat} (X0 : LCx E D adK adV s) {xa ma i : Nat} (hi : i + 7 ≤ L) (hL : L ≤ 3584) {Gc Gm : th_G} {nn : Nat} {H : Heap} {locs : List Loc} (hW : LWs E D s xa ma Gc Gm nn H locs) (hT : TI E Gc xa nn) (hU : UQ Gm 1 ∧ UQ Gm 2 ∧ UQ Gm 11 ∧ UQ Gm 4 ∧ UQ Gm 10) {cells slots : Nat} (hc1 : cells + 18 ≤ 600000) (hc2 : slots + 441 ≤ 7302250) {ls : Array Slot} (hl : lv_has ls 4 [(3, .int (nI i)), (2, .ref ma), (1, .ref xa), (0, .ref b)]) (kk : ∀ (E : Nat → Nat) (Gc : th_G) (nn : Nat) (H : Heap) (locs : List Loc), LCx E D adK adV s → LWs E D s xa ma Gc Gm nn H locs → TI E Gc xa nn → W p l e room_1 s m #[Value.ref b] below meth c H locs (cells + 18) (slots + 441) (lw_Z below #[Value.ref b] s) (F0 m 2004 ls [])) : W p l e room_1 s m #[Value.ref b] below meth c H locs cells slots (lw_Z below #[Value.ref b] s) (F0 m 710 ls []) := by
  obtain ⟨hx, hb, hr, hml, hown, hts0, hX, hbl, hlocks, hgv⟩ := id C0
  obtain ⟨hN, hK, hWS, hCL, hAO⟩ := id X0
  have hbA : ¬ LWa s b := Nat.not_le.mpr hbl
  have hts := lw_tb (w := Cond.initialized RX12) wd_13 hts0
  have hR1 : room_1.cells = 600000 := rfl
  have hR2 : room_1.slots = 7302250 := rfl
  have ti : (nI i).toInt = (i : Int) := nI_toInt (by omega)
  refine lv_aload_n hx hb dLaw_710 rfl (lv_at hl 2 rfl) ?_
  refine lv_aload_n hx hb dLaw_711 rfl (lv_at hl 3 rfl) ?_
  refine lv_iload_n hx hb dLaw_712 rfl (lv_at hl 0 rfl) ?_
  refine lv_iconst (v := 1) hx hb dLaw_713 (by decide) ?_
  refine lv_iadd hx hb dLaw_714 ?_
  refine lv_topi (fun z83 ez83 => ?_)
  have tz83 := iv_add (Y := 1) ti (by decide) ez83 (by omega) (by omega)
  refine va_sld hx hb hX hbl hbA hW.2.2.2.2.2.2.2 (iv_in (X := (i : Int) + 1) (by omega) (by omega) (by omega)) dLaw_715 ?_
  rw [show z83.toNatClampNeg = i + 1 from by show z83.toInt.toNat = _; omega]
  obtain ⟨⟨sa, hTS⟩, ta, ra, hTP⟩ := id hT
  refine lc_e (As := [.int (xs (i + 1))]) (rest := []) (n := 1) (d := 3) ⟨hx, hb, hml, hown, hts⟩ (c_X11_force l E D Gc xa nn hW.2.1 (xs (i + 1)) sa hTS.1) (fun j hj => eu_ne (by omega)) wd_797 wd_798 wd_799 wd_1 wd_800 (by decide +kernel) ⟨Nat.le_of_ble_eq_true rfl, Nat.le_of_ble_eq_true rfl⟩ hW hN hK rfl hl.1 rfl (Nat.le_of_ble_eq_true rfl) dLaw_716 ⟨by rw [hR1]; omega, by rw [hR2]; omega⟩ (fun r84 H locs E1 hE1 hr84 hW => ?_)
  have XE1 := LCx_eq (E' := E1) (fun j hj => by rw [hE1]; exact eu_ne (by omega)) X0
  obtain ⟨hN, hK, hWS, hCL, hAO⟩ := id XE1
  refine lv_aload_n hx hb dLaw_719 rfl (lv_at hl 1 rfl) ?_
  refine lv_aload_n hx hb dLaw_720 rfl (lv_at hl 3 rfl) ?_
  refine lv_iload_n hx hb dLaw_721 rfl (lv_at hl 0 rfl) ?_
  refine lv_iconst (v := 1) hx hb dLaw_722 (by decide) ?_
  refine lv_iadd hx hb dLaw_723 ?_
  refine lv_topi (fun z85 ez85 => ?_)
  have tz85 := iv_add (Y := 1) ti (by decide) ez85 (by omega) (by omega)
  refine va_sld hx hb hX hbl hbA hW.2.2.2.2.2.2.2 (iv_in (X := (i : Int) + 1) (by omega) (by omega) (by omega)) dLaw_724 ?_
  rw [show z85.toNatClampNeg = i + 1 from by show z85.toInt.toNat = _; omega]
  refine lm_e (As := [.int (xs (i + 1))]) (rest := [.int r84]) (n := 1) (d := 1) ⟨hx, hb, hml, hown, hts⟩ (c_X12_force l E1 D Gm ma hW.2.2.2.1 (xs (i + 1)) hU.1) (fun j hj => eu_ne (by omega)) wd_1635 wd_1636 wd_1637 wd_13 wd_1638 (by decide +kernel) ⟨Nat.le_of_ble_eq_true rfl, Nat.le_of_ble_eq_true rfl⟩ hW hN hK rfl hl.1 rfl (Nat.le_of_ble_eq_true rfl) dLaw_725 ⟨by rw [hR1]; omega, by rw [hR2]; omega⟩ (fun r86 H locs E2 hE2 hr86 hW => ?_)
  have XE2 := LCx_eq (E' := E2) (fun j hj => by rw [hE2]; exact eu_ne (by omega)) XE1
  obtain ⟨hN, hK, hWS, hCL, hAO⟩ := id XE2
  have h10 : E1 10 = E (1000 + 512 * sa) := by rw [hE1, eu_ne (by omega)]; exact hTS.2.1.symm
  have hT : TI E2 Gc xa nn := by rw [hE2, h10, hE1]; exact TI_set hTS hTP
  have hsm : r84 = r86 := two_sameI hr84 (by rw [h10] at hr86; exact hr86)
  refine lv_icmp_eq (tgt := 2004) hx hb dLaw_728 (by decide) (fun _ => ?_) (fun hne => absurd hsm hne)
  exact W.widen (k := cells + 18) (n := slots + 441) (by omega) (by omega) (kk _ _ _ _ _ XE2 hW hT)
