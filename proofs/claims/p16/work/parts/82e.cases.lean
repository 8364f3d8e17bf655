set_option maxHeartbeats 4000000 in
set_option maxRecDepth 100000 in
theorem law_c20 {p : Program} {e : Env} {s : State} {m : MethodId} {below : List Frame} {meth : Method} {c : Code} {l : Launch} {b L : Nat} {xs : Nat → Int32} (C0 : lw_At p s m meth c b L xs) {E : Nat → Nat} {D : va_G} {adK adV : Nat → Nat} (X0 : LCx E D adK adV s) {xa ma i : Nat} (hi : i + 7 ≤ L) (hL : L ≤ 3584) {Gc Gm : th_G} {nn : Nat} {H : Heap} {locs : List Loc} (hW : LWs E D s xa ma Gc Gm nn H locs) (hT : TI E Gc xa nn) (hU : UQ Gm 1 ∧ UQ Gm 2 ∧ UQ Gm 11 ∧ UQ Gm 4 ∧ UQ Gm 10) {cells slots : Nat} (hc1 : cells + 18 ≤ 600000) (hc2 : slots + 441 ≤ 7302250) {ls : Array Slot} (hl : lv_has ls 4 [(3, .int (nI i)), (2, .ref ma), (1, .ref xa), (0, .ref b)]) (kk : ∀ (E : Nat → Nat) (Gc : th_G) (nn : Nat) (H : Heap) (locs : List Loc), LCx E D adK adV s → LWs E D s xa ma Gc Gm nn H locs → TI E Gc xa nn → W p l e room_1 s m #[Value.ref b] below meth c H locs (cells + 18) (slots + 441) (lw_Z below #[Value.ref b] s) (F0 m 2004 ls [])) : W p l e room_1 s m #[Value.ref b] below meth c H locs cells slots (lw_Z below #[Value.ref b] s) (F0 m 938 ls []) := by
  obtain ⟨hx, hb, hr, hml, hown, hts0, hX, hbl, hlocks, hgv⟩ := id C0
  obtain ⟨hN, hK, hWS, hCL, hAO⟩ := id X0
  have hbA : ¬ LWa s b := Nat.not_le.mpr hbl
  have hts := lw_tb (w := Cond.initialized RX12) wd_13 hts0
  have hR1 : room_1.cells = 600000 := rfl
  have hR2 : room_1.slots = 7302250 := rfl
  have ti : (nI i).toInt = (i : Int) := nI_toInt (by omega)
  refine lv_aload_n hx hb dLaw_938 rfl (lv_at hl 2 rfl) ?_
  refine lv_aload_n hx hb dLaw_939 rfl (lv_at hl 3 rfl) ?_
  refine lv_iload_n hx hb dLaw_940 rfl (lv_at hl 0 rfl) ?_
  refine lv_iconst (v := 1) hx hb dLaw_941 (by decide) ?_
  refine lv_iadd hx hb dLaw_942 ?_
  refine lv_topi (fun z125 ez125 => ?_)
  have tz125 := iv_add (Y := 1) ti (by decide) ez125 (by omega) (by omega)
  refine va_sld hx hb hX hbl hbA hW.2.2.2.2.2.2.2 (iv_in (X := (i : Int) + 1) (by omega) (by omega) (by omega)) dLaw_943 ?_
  rw [show z125.toNatClampNeg = i + 1 from by show z125.toInt.toNat = _; omega]
  refine lv_aload_n hx hb dLaw_944 rfl (lv_at hl 3 rfl) ?_
  refine lv_iload_n hx hb dLaw_945 rfl (lv_at hl 0 rfl) ?_
  refine lv_iconst (v := 2) hx hb dLaw_946 (by decide) ?_
  refine lv_iadd hx hb dLaw_947 ?_
  refine lv_topi (fun z126 ez126 => ?_)
  have tz126 := iv_add (Y := 2) ti (by decide) ez126 (by omega) (by omega)
  refine va_sld hx hb hX hbl hbA hW.2.2.2.2.2.2.2 (iv_in (X := (i : Int) + 2) (by omega) (by omega) (by omega)) dLaw_948 ?_
  rw [show z126.toNatClampNeg = i + 2 from by show z126.toInt.toNat = _; omega]
  refine lc_i (As := [.int (xs (i + 1)), .int (xs (i + 2))]) (rest := []) (n := 2) (d := 2) ⟨hx, hb, hml, hown, hts⟩ (c_X11_boat l E D Gc xa nn hW.2.1 (xs (i + 1)) (xs (i + 2))) wd_856 wd_857 wd_858 wd_1 wd_859 (by decide +kernel) ⟨Nat.le_of_ble_eq_true rfl, Nat.le_of_ble_eq_true rfl⟩ hW hN hK rfl hl.1 rfl (Nat.le_of_ble_eq_true rfl) dLaw_949 ⟨by rw [hR1]; omega, by rw [hR2]; omega⟩ (fun r127 H locs hr127 hW => ?_)
  refine lv_pop hx hb dLaw_952 rfl ?_
  refine lv_aload_n hx hb dLaw_953 rfl (lv_at hl 1 rfl) ?_
  refine lv_aload_n hx hb dLaw_954 rfl (lv_at hl 3 rfl) ?_
  refine lv_iload_n hx hb dLaw_955 rfl (lv_at hl 0 rfl) ?_
  refine lv_iconst (v := 1) hx hb dLaw_956 (by decide) ?_
  refine lv_iadd hx hb dLaw_957 ?_
  refine lv_topi (fun z128 ez128 => ?_)
  have tz128 := iv_add (Y := 1) ti (by decide) ez128 (by omega) (by omega)
  refine va_sld hx hb hX hbl hbA hW.2.2.2.2.2.2.2 (iv_in (X := (i : Int) + 1) (by omega) (by omega) (by omega)) dLaw_958 ?_
  rw [show z128.toNatClampNeg = i + 1 from by show z128.toInt.toNat = _; omega]
  refine lv_aload_n hx hb dLaw_959 rfl (lv_at hl 3 rfl) ?_
  refine lv_iload_n hx hb dLaw_960 rfl (lv_at hl 0 rfl) ?_
  refine lv_iconst (v := 2) hx hb dLaw_961 (by decide) ?_
  refine lv_iadd hx hb dLaw_962 ?_
  refine lv_topi (fun z129 ez129 => ?_)
  have tz129 := iv_add (Y := 2) ti (by decide) ez129 (by omega) (by omega)
  refine va_sld hx hb hX hbl hbA hW.2.2.2.2.2.2.2 (iv_in (X := (i : Int) + 2) (by omega) (by omega) (by omega)) dLaw_963 ?_
  rw [show z129.toNatClampNeg = i + 2 from by show z129.toInt.toNat = _; omega]
  refine lm_i (post := fun _ => True) (As := [.int (xs (i + 1)), .int (xs (i + 2))]) (rest := []) (n := 2) (d := 2) ⟨hx, hb, hml, hown, hts⟩ (c_X12_boat l E D Gm ma hW.2.2.2.1 (xs (i + 1)) (xs (i + 2))) wd_1673 wd_1674 wd_1675 wd_13 wd_1676 (by decide +kernel) ⟨Nat.le_of_ble_eq_true rfl, Nat.le_of_ble_eq_true rfl⟩ hW hN hK rfl hl.1 rfl (Nat.le_of_ble_eq_true rfl) dLaw_964 ⟨by rw [hR1]; omega, by rw [hR2]; omega⟩ (fun r130 H locs hr130 hW => ?_)
  refine lv_pop hx hb dLaw_967 rfl ?_
  refine lv_goto (tgt := 2004) hx hb dLaw_968 (by decide) ?_
  exact W.widen (k := cells + 18) (n := slots + 441) (by omega) (by omega) (kk _ _ _ _ _ X0 hW hT)
set_option maxHeartbeats 4000000 in
set_option maxRecDepth 100000 in
theorem law_c21 {p : Program} {e : Env} {s : State} {m : MethodId} {below : List Frame} {meth : Method} {c : Code} {l : Launch} {b L : Nat} {xs : Nat → Int32} (C0 : lw_At p s m meth c b L xs) {E : Nat → Nat} {D : va_G} {adK adV : Nat → Nat} (X0 : LCx E D adK adV s) {xa ma i : Nat} (hi : i + 7 ≤ L) (hL : L ≤ 3584) {Gc Gm : th_G} {nn : Nat} {H : Heap} {locs : List Loc} (hW : LWs E D s xa ma Gc Gm nn H locs) (hT : TI E Gc xa nn) (hU : UQ Gm 1 ∧ UQ Gm 2 ∧ UQ Gm 11 ∧ UQ Gm 4 ∧ UQ Gm 10) {cells slots : Nat} (hc1 : cells + 18 ≤ 600000) (hc2 : slots + 441 ≤ 7302250) {ls : Array Slot} (hl : lv_has ls 4 [(3, .int (nI i)), (2, .ref ma), (1, .ref xa), (0, .ref b)]) (kk : ∀ (E : Nat → Nat) (Gc : th_G) (nn : Nat) (H : Heap) (locs : List Loc), LCx E D adK adV s → LWs E D s xa ma Gc Gm nn H locs → TI E Gc xa nn → W p l e room_1 s m #[Value.ref b] below meth c H locs (cells + 18) (slots + 441) (lw_Z below #[Value.ref b] s) (F0 m 2004 ls [])) : W p l e room_1 s m #[Value.ref b] below meth c H locs cells slots (lw_Z below #[Value.ref b] s) (F0 m 971 ls []) := by
  obtain ⟨hx, hb, hr, hml, hown, hts0, hX, hbl, hlocks, hgv⟩ := id C0
  obtain ⟨hN, hK, hWS, hCL, hAO⟩ := id X0
  have hbA : ¬ LWa s b := Nat.not_le.mpr hbl
  have hts := lw_tb (w := Cond.initialized RX12) wd_13 hts0
  have hR1 : room_1.cells = 600000 := rfl
  have hR2 : room_1.slots = 7302250 := rfl
  have ti : (nI i).toInt = (i : Int) := nI_toInt (by omega)
  refine lv_aload_n hx hb dLaw_971 rfl (lv_at hl 2 rfl) ?_
  refine lv_aload_n hx hb dLaw_972 rfl (lv_at hl 3 rfl) ?_
  refine lv_iload_n hx hb dLaw_973 rfl (lv_at hl 0 rfl) ?_
  refine lv_iconst (v := 1) hx hb dLaw_974 (by decide) ?_
  refine lv_iadd hx hb dLaw_975 ?_
  refine lv_topi (fun z131 ez131 => ?_)
  have tz131 := iv_add (Y := 1) ti (by decide) ez131 (by omega) (by omega)
  refine va_sld hx hb hX hbl hbA hW.2.2.2.2.2.2.2 (iv_in (X := (i : Int) + 1) (by omega) (by omega) (by omega)) dLaw_976 ?_
  rw [show z131.toNatClampNeg = i + 1 from by show z131.toInt.toNat = _; omega]
  refine lv_aload_n hx hb dLaw_977 rfl (lv_at hl 3 rfl) ?_
  refine lv_iload_n hx hb dLaw_978 rfl (lv_at hl 0 rfl) ?_
  refine lv_iconst (v := 2) hx hb dLaw_979 (by decide) ?_
  refine lv_iadd hx hb dLaw_980 ?_
  refine lv_topi (fun z132 ez132 => ?_)
  have tz132 := iv_add (Y := 2) ti (by decide) ez132 (by omega) (by omega)
  refine va_sld hx hb hX hbl hbA hW.2.2.2.2.2.2.2 (iv_in (X := (i : Int) + 2) (by omega) (by omega) (by omega)) dLaw_981 ?_
  rw [show z132.toNatClampNeg = i + 2 from by show z132.toInt.toNat = _; omega]
  refine lv_aload_n hx hb dLaw_982 rfl (lv_at hl 3 rfl) ?_
  refine lv_iload_n hx hb dLaw_983 rfl (lv_at hl 0 rfl) ?_
  refine lv_iconst (v := 3) hx hb dLaw_984 (by decide) ?_
  refine lv_iadd hx hb dLaw_985 ?_
  refine lv_topi (fun z133 ez133 => ?_)
  have tz133 := iv_add (Y := 3) ti (by decide) ez133 (by omega) (by omega)
  refine va_sld hx hb hX hbl hbA hW.2.2.2.2.2.2.2 (iv_in (X := (i : Int) + 3) (by omega) (by omega) (by omega)) dLaw_986 ?_
  rw [show z133.toNatClampNeg = i + 3 from by show z133.toInt.toNat = _; omega]
  refine lc_i (As := [.int (xs (i + 1)), .int (xs (i + 2)), .int (xs (i + 3))]) (rest := []) (n := 3) (d := 2) ⟨hx, hb, hml, hown, hts⟩ (c_X11_moor l E D Gc xa nn hW.2.1 (xs (i + 1)) (xs (i + 2)) (xs (i + 3))) wd_860 wd_861 wd_862 wd_1 wd_863 (by decide +kernel) ⟨Nat.le_of_ble_eq_true rfl, Nat.le_of_ble_eq_true rfl⟩ hW hN hK rfl hl.1 rfl (Nat.le_of_ble_eq_true rfl) dLaw_987 ⟨by rw [hR1]; omega, by rw [hR2]; omega⟩ (fun r134 H locs hr134 hW => ?_)
  refine lv_pop hx hb dLaw_990 rfl ?_
  refine lv_aload_n hx hb dLaw_991 rfl (lv_at hl 1 rfl) ?_
  refine lv_aload_n hx hb dLaw_992 rfl (lv_at hl 3 rfl) ?_
  refine lv_iload_n hx hb dLaw_993 rfl (lv_at hl 0 rfl) ?_
  refine lv_iconst (v := 1) hx hb dLaw_994 (by decide) ?_
  refine lv_iadd hx hb dLaw_995 ?_
  refine lv_topi (fun z135 ez135 => ?_)
  have tz135 := iv_add (Y := 1) ti (by decide) ez135 (by omega) (by omega)
  refine va_sld hx hb hX hbl hbA hW.2.2.2.2.2.2.2 (iv_in (X := (i : Int) + 1) (by omega) (by omega) (by omega)) dLaw_996 ?_
  rw [show z135.toNatClampNeg = i + 1 from by show z135.toInt.toNat = _; omega]
  refine lv_aload_n hx hb dLaw_997 rfl (lv_at hl 3 rfl) ?_
  refine lv_iload_n hx hb dLaw_998 rfl (lv_at hl 0 rfl) ?_
  refine lv_iconst (v := 2) hx hb dLaw_999 (by decide) ?_
  refine lv_iadd hx hb dLaw_1000 ?_
  refine lv_topi (fun z136 ez136 => ?_)
  have tz136 := iv_add (Y := 2) ti (by decide) ez136 (by omega) (by omega)
  refine va_sld hx hb hX hbl hbA hW.2.2.2.2.2.2.2 (iv_in (X := (i : Int) + 2) (by omega) (by omega) (by omega)) dLaw_1001 ?_
  rw [show z136.toNatClampNeg = i + 2 from by show z136.toInt.toNat = _; omega]
  refine lv_aload_n hx hb dLaw_1002 rfl (lv_at hl 3 rfl) ?_
  refine lv_iload_n hx hb dLaw_1003 rfl (lv_at hl 0 rfl) ?_
  refine lv_iconst (v := 3) hx hb dLaw_1004 (by decide) ?_
  refine lv_iadd hx hb dLaw_1005 ?_
  refine lv_topi (fun z137 ez137 => ?_)
  have tz137 := iv_add (Y := 3) ti (by decide) ez137 (by omega) (by omega)
  refine va_sld hx hb hX hbl hbA hW.2.2.2.2.2.2.2 (iv_in (X := (i : Int) + 3) (by omega) (by omega) (by omega)) dLaw_1006 ?_
  rw [show z137.toNatClampNeg = i + 3 from by show z137.toInt.toNat = _; omega]
  refine lm_i (post := fun _ => True) (As := [.int (xs (i + 1)), .int (xs (i + 2)), .int (xs (i + 3))]) (rest := []) (n := 3) (d := 3) ⟨hx, hb, hml, hown, hts⟩ (c_X12_moor l E D Gm ma hW.2.2.2.1 (xs (i + 1)) (xs (i + 2)) (xs (i + 3))) wd_1677 wd_1678 wd_1679 wd_13 wd_1680 (by decide +kernel) ⟨Nat.le_of_ble_eq_true rfl, Nat.le_of_ble_eq_true rfl⟩ hW hN hK rfl hl.1 rfl (Nat.le_of_ble_eq_true rfl) dLaw_1007 ⟨by rw [hR1]; omega, by rw [hR2]; omega⟩ (fun r138 H locs hr138 hW => ?_)
  refine lv_pop hx hb dLaw_1010 rfl ?_
  refine lv_goto (tgt := 2004) hx hb dLaw_1011 (by decide) ?_
  exact W.widen (k := cells + 18) (n := slots + 441) (by omega) (by omega) (kk _ _ _ _ _ X0 hW hT)
set_option maxHeartbeats 4000000 in
set_option maxRecDepth 100000 in
theorem law_c22 {p : Program} {e : Env} {s : State} {m : MethodId} {below : List Frame} {meth : Method} {c : Code} {l : Launch} {b L : Nat} {xs : Nat → Int32} (C0 : lw_At p s m meth c b L xs) {E : Nat → Nat} {D : va_G} {adK adV : Nat → Nat} (X0 : LCx E D adK adV s) {xa ma i : Nat} (hi : i + 7 ≤ L) (hL : L ≤ 3584) {Gc Gm : th_G} {nn : Nat} {H : Heap} {locs : List Loc} (hW : LWs E D s xa ma Gc Gm nn H locs) (hT : TI E Gc xa nn) (hU : UQ Gm 1 ∧ UQ Gm 2 ∧ UQ Gm 11 ∧ UQ Gm 4 ∧ UQ Gm 10) {cells slots : Nat} (hc1 : cells + 18 ≤ 600000) (hc2 : slots + 441 ≤ 7302250) {ls : Array Slot} (hl : lv_has ls 4 [(3, .int (nI i)), (2, .ref ma), (1, .ref xa), (0, .ref b)]) (kk : ∀ (E : Nat → Nat) (Gc : th_G) (nn : Nat) (H : Heap) (locs : List Loc), LCx E D adK adV s → LWs E D s xa ma Gc Gm nn H locs → TI E Gc xa nn → W p l e room_1 s m #[Value.ref b] below meth c H locs (cells + 18) (slots + 441) (lw_Z below #[Value.ref b] s) (F0 m 2004 ls [])) : W p l e room_1 s m #[Value.ref b] below meth c H locs cells slots (lw_Z below #[Value.ref b] s) (F0 m 1014 ls []) := by
  obtain ⟨hx, hb, hr, hml, hown, hts0, hX, hbl, hlocks, hgv⟩ := id C0
  obtain ⟨hN, hK, hWS, hCL, hAO⟩ := id X0
  have hbA : ¬ LWa s b := Nat.not_le.mpr hbl
  have hts := lw_tb (w := Cond.initialized RX12) wd_13 hts0
  have hR1 : room_1.cells = 600000 := rfl
  have hR2 : room_1.slots = 7302250 := rfl
  have ti : (nI i).toInt = (i : Int) := nI_toInt (by omega)
  refine lv_aload_n hx hb dLaw_1014 rfl (lv_at hl 2 rfl) ?_
  refine lv_aload_n hx hb dLaw_1015 rfl (lv_at hl 3 rfl) ?_
  refine lv_iload_n hx hb dLaw_1016 rfl (lv_at hl 0 rfl) ?_
  refine lv_iconst (v := 1) hx hb dLaw_1017 (by decide) ?_
  refine lv_iadd hx hb dLaw_1018 ?_
  refine lv_topi (fun z139 ez139 => ?_)
  have tz139 := iv_add (Y := 1) ti (by decide) ez139 (by omega) (by omega)
  refine va_sld hx hb hX hbl hbA hW.2.2.2.2.2.2.2 (iv_in (X := (i : Int) + 1) (by omega) (by omega) (by omega)) dLaw_1019 ?_
  rw [show z139.toNatClampNeg = i + 1 from by show z139.toInt.toNat = _; omega]
  refine lv_aload_n hx hb dLaw_1020 rfl (lv_at hl 3 rfl) ?_
  refine lv_iload_n hx hb dLaw_1021 rfl (lv_at hl 0 rfl) ?_
  refine lv_iconst (v := 2) hx hb dLaw_1022 (by decide) ?_
  refine lv_iadd hx hb dLaw_1023 ?_
  refine lv_topi (fun z140 ez140 => ?_)
  have tz140 := iv_add (Y := 2) ti (by decide) ez140 (by omega) (by omega)
  refine va_sld hx hb hX hbl hbA hW.2.2.2.2.2.2.2 (iv_in (X := (i : Int) + 2) (by omega) (by omega) (by omega)) dLaw_1024 ?_
  rw [show z140.toNatClampNeg = i + 2 from by show z140.toInt.toNat = _; omega]
  refine lv_aload_n hx hb dLaw_1025 rfl (lv_at hl 3 rfl) ?_
  refine lv_iload_n hx hb dLaw_1026 rfl (lv_at hl 0 rfl) ?_
  refine lv_iconst (v := 3) hx hb dLaw_1027 (by decide) ?_
  refine lv_iadd hx hb dLaw_1028 ?_
  refine lv_topi (fun z141 ez141 => ?_)
  have tz141 := iv_add (Y := 3) ti (by decide) ez141 (by omega) (by omega)
  refine va_sld hx hb hX hbl hbA hW.2.2.2.2.2.2.2 (iv_in (X := (i : Int) + 3) (by omega) (by omega) (by omega)) dLaw_1029 ?_
  rw [show z141.toNatClampNeg = i + 3 from by show z141.toInt.toNat = _; omega]
  refine lc_i (As := [.int (xs (i + 1)), .int (xs (i + 2)), .int (xs (i + 3))]) (rest := []) (n := 3) (d := 7) ⟨hx, hb, hml, hown, hts⟩ (c_X11_sails l E D Gc xa nn hW.2.1 (xs (i + 1)) (xs (i + 2)) (xs (i + 3))) wd_868 wd_869 wd_870 wd_1 wd_871 (by decide +kernel) ⟨Nat.le_of_ble_eq_true rfl, Nat.le_of_ble_eq_true rfl⟩ hW hN hK rfl hl.1 rfl (Nat.le_of_ble_eq_true rfl) dLaw_1030 ⟨by rw [hR1]; omega, by rw [hR2]; omega⟩ (fun r142 H locs hr142 hW => ?_)
  refine lv_pop hx hb dLaw_1033 rfl ?_
  refine lv_aload_n hx hb dLaw_1034 rfl (lv_at hl 1 rfl) ?_
  refine lv_aload_n hx hb dLaw_1035 rfl (lv_at hl 3 rfl) ?_
  refine lv_iload_n hx hb dLaw_1036 rfl (lv_at hl 0 rfl) ?_
  refine lv_iconst (v := 1) hx hb dLaw_1037 (by decide) ?_
  refine lv_iadd hx hb dLaw_1038 ?_
  refine lv_topi (fun z143 ez143 => ?_)
  have tz143 := iv_add (Y := 1) ti (by decide) ez143 (by omega) (by omega)
  refine va_sld hx hb hX hbl hbA hW.2.2.2.2.2.2.2 (iv_in (X := (i : Int) + 1) (by omega) (by omega) (by omega)) dLaw_1039 ?_
  rw [show z143.toNatClampNeg = i + 1 from by show z143.toInt.toNat = _; omega]
  refine lv_aload_n hx hb dLaw_1040 rfl (lv_at hl 3 rfl) ?_
  refine lv_iload_n hx hb dLaw_1041 rfl (lv_at hl 0 rfl) ?_
  refine lv_iconst (v := 2) hx hb dLaw_1042 (by decide) ?_
  refine lv_iadd hx hb dLaw_1043 ?_
  refine lv_topi (fun z144 ez144 => ?_)
  have tz144 := iv_add (Y := 2) ti (by decide) ez144 (by omega) (by omega)
  refine va_sld hx hb hX hbl hbA hW.2.2.2.2.2.2.2 (iv_in (X := (i : Int) + 2) (by omega) (by omega) (by omega)) dLaw_1044 ?_
  rw [show z144.toNatClampNeg = i + 2 from by show z144.toInt.toNat = _; omega]
  refine lv_aload_n hx hb dLaw_1045 rfl (lv_at hl 3 rfl) ?_
  refine lv_iload_n hx hb dLaw_1046 rfl (lv_at hl 0 rfl) ?_
  refine lv_iconst (v := 3) hx hb dLaw_1047 (by decide) ?_
  refine lv_iadd hx hb dLaw_1048 ?_
  refine lv_topi (fun z145 ez145 => ?_)
  have tz145 := iv_add (Y := 3) ti (by decide) ez145 (by omega) (by omega)
  refine va_sld hx hb hX hbl hbA hW.2.2.2.2.2.2.2 (iv_in (X := (i : Int) + 3) (by omega) (by omega) (by omega)) dLaw_1049 ?_
  rw [show z145.toNatClampNeg = i + 3 from by show z145.toInt.toNat = _; omega]
  refine lm_i (post := fun _ => True) (As := [.int (xs (i + 1)), .int (xs (i + 2)), .int (xs (i + 3))]) (rest := []) (n := 3) (d := 69) ⟨hx, hb, hml, hown, hts⟩ (c_X12_sails l E D Gm ma hW.2.2.2.1 (xs (i + 1)) (xs (i + 2)) (xs (i + 3))) wd_1685 wd_1686 wd_1687 wd_13 wd_1688 (by decide +kernel) ⟨Nat.le_of_ble_eq_true rfl, Nat.le_of_ble_eq_true rfl⟩ hW hN hK rfl hl.1 rfl (Nat.le_of_ble_eq_true rfl) dLaw_1050 ⟨by rw [hR1]; omega, by rw [hR2]; omega⟩ (fun r146 H locs hr146 hW => ?_)
  refine lv_pop hx hb dLaw_1053 rfl ?_
  refine lv_goto (tgt := 2004) hx hb dLaw_1054 (by decide) ?_
  exact W.widen (k := cells + 18) (n := slots + 441) (by omega) (by omega) (kk _ _ _ _ _ X0 hW hT)
set_option maxHeartbeats 4000000 in
set_option maxRecDepth 100000 in
theorem law_c23 {p : Program} {e : Env} {s : State} {m : MethodId} {below : List Frame} {meth : Method} {c : Code} {l : Launch} {b L : Nat} {xs : Nat → Int32} (C0 : lw_At p s m meth c b L xs) {E : Nat → Nat} {D : va_G} {adK adV : Nat → Nat} (X0 : LCx E D adK adV s) {xa ma i : Nat} (hi : i + 7 ≤ L) (hL : L ≤ 3584) {Gc Gm : th_G} {nn : Nat} {H : Heap} {locs : List Loc} (hW : LWs E D s xa ma Gc Gm nn H locs) (hT : TI E Gc xa nn) (hU : UQ Gm 1 ∧ UQ Gm 2 ∧ UQ Gm 11 ∧ UQ Gm 4 ∧ UQ Gm 10) {cells slots : Nat} (hc1 : cells + 18 ≤ 600000) (hc2 : slots + 441 ≤ 7302250) {ls : Array Slot} (hl : lv_has ls 4 [(3, .int (nI i)), (2, .ref ma), (1, .ref xa), (0, .ref b)]) (kk : ∀ (E : Nat → Nat) (Gc : th_G) (nn : Nat) (H : Heap) (locs : List Loc), LCx E D adK adV s → LWs E D s xa ma Gc Gm nn H locs → TI E Gc xa nn → W p l e room_1 s m #[Value.ref b] below meth c H locs (cells + 18) (slots + 441) (lw_Z below #[Value.ref b] s) (F0 m 2004 ls [])) : W p l e room_1 s m #[Value.ref b] below meth c H locs cells slots (lw_Z below #[Value.ref b] s) (F0 m 1057 ls []) := by
  obtain ⟨hx, hb, hr, hml, hown, hts0, hX, hbl, hlocks, hgv⟩ := id C0
  obtain ⟨hN, hK, hWS, hCL, hAO⟩ := id X0
  have hbA : ¬ LWa s b := Nat.not_le.mpr hbl
  have hts := lw_tb (w := Cond.initialized RX12) wd_13 hts0
  have hR1 : room_1.cells = 600000 := rfl
  have hR2 : room_1.slots = 7302250 := rfl
  have ti : (nI i).toInt = (i : Int) := nI_toInt (by omega)
  refine lv_aload_n hx hb dLaw_1057 rfl (lv_at hl 2 rfl) ?_
  refine lv_aload_n hx hb dLaw_1058 rfl (lv_at hl 3 rfl) ?_
  refine lv_iload_n hx hb dLaw_1059 rfl (lv_at hl 0 rfl) ?_
  refine lv_iconst (v := 1) hx hb dLaw_1060 (by decide) ?_
  refine lv_iadd hx hb dLaw_1061 ?_
  refine lv_topi (fun z147 ez147 => ?_)
  have tz147 := iv_add (Y := 1) ti (by decide) ez147 (by omega) (by omega)
  refine va_sld hx hb hX hbl hbA hW.2.2.2.2.2.2.2 (iv_in (X := (i : Int) + 1) (by omega) (by omega) (by omega)) dLaw_1062 ?_
  rw [show z147.toNatClampNeg = i + 1 from by show z147.toInt.toNat = _; omega]
  refine lv_aload_n hx hb dLaw_1063 rfl (lv_at hl 3 rfl) ?_
  refine lv_iload_n hx hb dLaw_1064 rfl (lv_at hl 0 rfl) ?_
  refine lv_iconst (v := 2) hx hb dLaw_1065 (by decide) ?_
  refine lv_iadd hx hb dLaw_1066 ?_
  refine lv_topi (fun z148 ez148 => ?_)
  have tz148 := iv_add (Y := 2) ti (by decide) ez148 (by omega) (by omega)
  refine va_sld hx hb hX hbl hbA hW.2.2.2.2.2.2.2 (iv_in (X := (i : Int) + 2) (by omega) (by omega) (by omega)) dLaw_1067 ?_
  rw [show z148.toNatClampNeg = i + 2 from by show z148.toInt.toNat = _; omega]
  refine lv_aload_n hx hb dLaw_1068 rfl (lv_at hl 3 rfl) ?_
  refine lv_iload_n hx hb dLaw_1069 rfl (lv_at hl 0 rfl) ?_
  refine lv_iconst (v := 3) hx hb dLaw_1070 (by decide) ?_
  refine lv_iadd hx hb dLaw_1071 ?_
  refine lv_topi (fun z149 ez149 => ?_)
  have tz149 := iv_add (Y := 3) ti (by decide) ez149 (by omega) (by omega)
  refine va_sld hx hb hX hbl hbA hW.2.2.2.2.2.2.2 (iv_in (X := (i : Int) + 3) (by omega) (by omega) (by omega)) dLaw_1072 ?_
  rw [show z149.toNatClampNeg = i + 3 from by show z149.toInt.toNat = _; omega]
  refine lc_i (As := [.int (xs (i + 1)), .int (xs (i + 2)), .int (xs (i + 3))]) (rest := []) (n := 3) (d := 8) ⟨hx, hb, hml, hown, hts⟩ (c_X11_meet l E D Gc xa nn hW.2.1 (xs (i + 1)) (xs (i + 2)) (xs (i + 3))) wd_894 wd_895 wd_896 wd_1 wd_897 (by decide +kernel) ⟨Nat.le_of_ble_eq_true rfl, Nat.le_of_ble_eq_true rfl⟩ hW hN hK rfl hl.1 rfl (Nat.le_of_ble_eq_true rfl) dLaw_1073 ⟨by rw [hR1]; omega, by rw [hR2]; omega⟩ (fun r150 H locs hr150 hW => ?_)
  refine lv_pop hx hb dLaw_1076 rfl ?_
  refine lv_aload_n hx hb dLaw_1077 rfl (lv_at hl 1 rfl) ?_
  refine lv_aload_n hx hb dLaw_1078 rfl (lv_at hl 3 rfl) ?_
  refine lv_iload_n hx hb dLaw_1079 rfl (lv_at hl 0 rfl) ?_
  refine lv_iconst (v := 1) hx hb dLaw_1080 (by decide) ?_
  refine lv_iadd hx hb dLaw_1081 ?_
  refine lv_topi (fun z151 ez151 => ?_)
  have tz151 := iv_add (Y := 1) ti (by decide) ez151 (by omega) (by omega)
  refine va_sld hx hb hX hbl hbA hW.2.2.2.2.2.2.2 (iv_in (X := (i : Int) + 1) (by omega) (by omega) (by omega)) dLaw_1082 ?_
  rw [show z151.toNatClampNeg = i + 1 from by show z151.toInt.toNat = _; omega]
  refine lv_aload_n hx hb dLaw_1083 rfl (lv_at hl 3 rfl) ?_
  refine lv_iload_n hx hb dLaw_1084 rfl (lv_at hl 0 rfl) ?_
  refine lv_iconst (v := 2) hx hb dLaw_1085 (by decide) ?_
  refine lv_iadd hx hb dLaw_1086 ?_
  refine lv_topi (fun z152 ez152 => ?_)
  have tz152 := iv_add (Y := 2) ti (by decide) ez152 (by omega) (by omega)
  refine va_sld hx hb hX hbl hbA hW.2.2.2.2.2.2.2 (iv_in (X := (i : Int) + 2) (by omega) (by omega) (by omega)) dLaw_1087 ?_
  rw [show z152.toNatClampNeg = i + 2 from by show z152.toInt.toNat = _; omega]
  refine lv_aload_n hx hb dLaw_1088 rfl (lv_at hl 3 rfl) ?_
  refine lv_iload_n hx hb dLaw_1089 rfl (lv_at hl 0 rfl) ?_
  refine lv_iconst (v := 3) hx hb dLaw_1090 (by decide) ?_
  refine lv_iadd hx hb dLaw_1091 ?_
  refine lv_topi (fun z153 ez153 => ?_)
  have tz153 := iv_add (Y := 3) ti (by decide) ez153 (by omega) (by omega)
  refine va_sld hx hb hX hbl hbA hW.2.2.2.2.2.2.2 (iv_in (X := (i : Int) + 3) (by omega) (by omega) (by omega)) dLaw_1092 ?_
  rw [show z153.toNatClampNeg = i + 3 from by show z153.toInt.toNat = _; omega]
  refine lm_i (post := fun _ => True) (As := [.int (xs (i + 1)), .int (xs (i + 2)), .int (xs (i + 3))]) (rest := []) (n := 3) (d := 69) ⟨hx, hb, hml, hown, hts⟩ (c_X12_meet l E D Gm ma hW.2.2.2.1 (xs (i + 1)) (xs (i + 2)) (xs (i + 3))) wd_1701 wd_1702 wd_1703 wd_13 wd_1704 (by decide +kernel) ⟨Nat.le_of_ble_eq_true rfl, Nat.le_of_ble_eq_true rfl⟩ hW hN hK rfl hl.1 rfl (Nat.le_of_ble_eq_true rfl) dLaw_1093 ⟨by rw [hR1]; omega, by rw [hR2]; omega⟩ (fun r154 H locs hr154 hW => ?_)
  refine lv_pop hx hb dLaw_1096 rfl ?_
  refine lv_goto (tgt := 2004) hx hb dLaw_1097 (by decide) ?_
  exact W.widen (k := cells + 18) (n := slots + 441) (by omega) (by omega) (kk _ _ _ _ _ X0 hW hT)
set_option maxHeartbeats 4000000 in
set_option maxRecDepth 100000 in
theorem law_c24 {p : Program} {e : Env} {s : State} {m : MethodId} {below : List Frame} {meth : Method} {c : Code} {l : Launch} {b L : Nat} {xs : Nat → Int32} (C0 : lw_At p s m meth c b L xs) {E : Nat → Nat} {D : va_G} {adK adV : Nat → Nat} (X0 : LCx E D adK adV s) {xa ma i : Nat} (hi : i + 7 ≤ L) (hL : L ≤ 3584) {Gc Gm : th_G} {nn : Nat} {H : Heap} {locs : List Loc} (hW : LWs E D s xa ma Gc Gm nn H locs) (hT : TI E Gc xa nn) (hU : UQ Gm 1 ∧ UQ Gm 2 ∧ UQ Gm 11 ∧ UQ Gm 4 ∧ UQ Gm 10) {cells slots : Nat} (hc1 : cells + 18 ≤ 600000) (hc2 : slots + 441 ≤ 7302250) {ls : Array Slot} (hl : lv_has ls 4 [(3, .int (nI i)), (2, .ref ma), (1, .ref xa), (0, .ref b)]) (kk : ∀ (E : Nat → Nat) (Gc : th_G) (nn : Nat) (H : Heap) (locs : List Loc), LCx E D adK adV s → LWs E D s xa ma Gc Gm nn H locs → TI E Gc xa nn → W p l e room_1 s m #[Value.ref b] below meth c H locs (cells + 18) (slots + 441) (lw_Z below #[Value.ref b] s) (F0 m 2004 ls [])) : W p l e room_1 s m #[Value.ref b] below meth c H locs cells slots (lw_Z below #[Value.ref b] s) (F0 m 1100 ls []) := by
  obtain ⟨hx, hb, hr, hml, hown, hts0, hX, hbl, hlocks, hgv⟩ := id C0
  obtain ⟨hN, hK, hWS, hCL, hAO⟩ := id X0
  have hbA : ¬ LWa s b := Nat.not_le.mpr hbl
  have hts := lw_tb (w := Cond.initialized RX12) wd_13 hts0
  have hR1 : room_1.cells = 600000 := rfl
  have hR2 : room_1.slots = 7302250 := rfl
  have ti : (nI i).toInt = (i : Int) := nI_toInt (by omega)
  refine lv_aload_n hx hb dLaw_1100 rfl (lv_at hl 2 rfl) ?_
  refine lv_aload_n hx hb dLaw_1101 rfl (lv_at hl 3 rfl) ?_
  refine lv_iload_n hx hb dLaw_1102 rfl (lv_at hl 0 rfl) ?_
  refine lv_iconst (v := 1) hx hb dLaw_1103 (by decide) ?_
  refine lv_iadd hx hb dLaw_1104 ?_
  refine lv_topi (fun z155 ez155 => ?_)
  have tz155 := iv_add (Y := 1) ti (by decide) ez155 (by omega) (by omega)
  refine va_sld hx hb hX hbl hbA hW.2.2.2.2.2.2.2 (iv_in (X := (i : Int) + 1) (by omega) (by omega) (by omega)) dLaw_1105 ?_
  rw [show z155.toNatClampNeg = i + 1 from by show z155.toInt.toNat = _; omega]
  refine lv_aload_n hx hb dLaw_1106 rfl (lv_at hl 3 rfl) ?_
  refine lv_iload_n hx hb dLaw_1107 rfl (lv_at hl 0 rfl) ?_
  refine lv_iconst (v := 2) hx hb dLaw_1108 (by decide) ?_
  refine lv_iadd hx hb dLaw_1109 ?_
  refine lv_topi (fun z156 ez156 => ?_)
  have tz156 := iv_add (Y := 2) ti (by decide) ez156 (by omega) (by omega)
  refine va_sld hx hb hX hbl hbA hW.2.2.2.2.2.2.2 (iv_in (X := (i : Int) + 2) (by omega) (by omega) (by omega)) dLaw_1110 ?_
  rw [show z156.toNatClampNeg = i + 2 from by show z156.toInt.toNat = _; omega]
  refine lv_aload_n hx hb dLaw_1111 rfl (lv_at hl 3 rfl) ?_
  refine lv_iload_n hx hb dLaw_1112 rfl (lv_at hl 0 rfl) ?_
  refine lv_iconst (v := 3) hx hb dLaw_1113 (by decide) ?_
  refine lv_iadd hx hb dLaw_1114 ?_
  refine lv_topi (fun z157 ez157 => ?_)
  have tz157 := iv_add (Y := 3) ti (by decide) ez157 (by omega) (by omega)
  refine va_sld hx hb hX hbl hbA hW.2.2.2.2.2.2.2 (iv_in (X := (i : Int) + 3) (by omega) (by omega) (by omega)) dLaw_1115 ?_
  rw [show z157.toNatClampNeg = i + 3 from by show z157.toInt.toNat = _; omega]
  refine lv_aload_n hx hb dLaw_1116 rfl (lv_at hl 3 rfl) ?_
  refine lv_iload_n hx hb dLaw_1117 rfl (lv_at hl 0 rfl) ?_
  refine lv_iconst (v := 4) hx hb dLaw_1118 (by decide) ?_
  refine lv_iadd hx hb dLaw_1119 ?_
  refine lv_topi (fun z158 ez158 => ?_)
  have tz158 := iv_add (Y := 4) ti (by decide) ez158 (by omega) (by omega)
  refine va_sld hx hb hX hbl hbA hW.2.2.2.2.2.2.2 (iv_in (X := (i : Int) + 4) (by omega) (by omega) (by omega)) dLaw_1120 ?_
  rw [show z158.toNatClampNeg = i + 4 from by show z158.toInt.toNat = _; omega]
  refine lc_i (As := [.int (xs (i + 1)), .int (xs (i + 2)), .int (xs (i + 3)), .int (xs (i + 4))]) (rest := []) (n := 4) (d := 6) ⟨hx, hb, hml, hown, hts⟩ (c_X11_pour l E D Gc xa nn hW.2.1 (xs (i + 1)) (xs (i + 2)) (xs (i + 3)) (xs (i + 4))) wd_904 wd_905 wd_906 wd_1 wd_907 (by decide +kernel) ⟨Nat.le_of_ble_eq_true rfl, Nat.le_of_ble_eq_true rfl⟩ hW hN hK rfl hl.1 rfl (Nat.le_of_ble_eq_true rfl) dLaw_1121 ⟨by rw [hR1]; omega, by rw [hR2]; omega⟩ (fun r159 H locs hr159 hW => ?_)
  refine lv_pop hx hb dLaw_1124 rfl ?_
  refine lv_aload_n hx hb dLaw_1125 rfl (lv_at hl 1 rfl) ?_
  refine lv_aload_n hx hb dLaw_1126 rfl (lv_at hl 3 rfl) ?_
  refine lv_iload_n hx hb dLaw_1127 rfl (lv_at hl 0 rfl) ?_
  refine lv_iconst (v := 1) hx hb dLaw_1128 (by decide) ?_
  refine lv_iadd hx hb dLaw_1129 ?_
  refine lv_topi (fun z160 ez160 => ?_)
  have tz160 := iv_add (Y := 1) ti (by decide) ez160 (by omega) (by omega)
  refine va_sld hx hb hX hbl hbA hW.2.2.2.2.2.2.2 (iv_in (X := (i : Int) + 1) (by omega) (by omega) (by omega)) dLaw_1130 ?_
  rw [show z160.toNatClampNeg = i + 1 from by show z160.toInt.toNat = _; omega]
  refine lv_aload_n hx hb dLaw_1131 rfl (lv_at hl 3 rfl) ?_
  refine lv_iload_n hx hb dLaw_1132 rfl (lv_at hl 0 rfl) ?_
  refine lv_iconst (v := 2) hx hb dLaw_1133 (by decide) ?_
  refine lv_iadd hx hb dLaw_1134 ?_
  refine lv_topi (fun z161 ez161 => ?_)
  have tz161 := iv_add (Y := 2) ti (by decide) ez161 (by omega) (by omega)
  refine va_sld hx hb hX hbl hbA hW.2.2.2.2.2.2.2 (iv_in (X := (i : Int) + 2) (by omega) (by omega) (by omega)) dLaw_1135 ?_
  rw [show z161.toNatClampNeg = i + 2 from by show z161.toInt.toNat = _; omega]
  refine lv_aload_n hx hb dLaw_1136 rfl (lv_at hl 3 rfl) ?_
  refine lv_iload_n hx hb dLaw_1137 rfl (lv_at hl 0 rfl) ?_
  refine lv_iconst (v := 3) hx hb dLaw_1138 (by decide) ?_
  refine lv_iadd hx hb dLaw_1139 ?_
  refine lv_topi (fun z162 ez162 => ?_)
  have tz162 := iv_add (Y := 3) ti (by decide) ez162 (by omega) (by omega)
  refine va_sld hx hb hX hbl hbA hW.2.2.2.2.2.2.2 (iv_in (X := (i : Int) + 3) (by omega) (by omega) (by omega)) dLaw_1140 ?_
  rw [show z162.toNatClampNeg = i + 3 from by show z162.toInt.toNat = _; omega]
  refine lv_aload_n hx hb dLaw_1141 rfl (lv_at hl 3 rfl) ?_
  refine lv_iload_n hx hb dLaw_1142 rfl (lv_at hl 0 rfl) ?_
  refine lv_iconst (v := 4) hx hb dLaw_1143 (by decide) ?_
  refine lv_iadd hx hb dLaw_1144 ?_
  refine lv_topi (fun z163 ez163 => ?_)
  have tz163 := iv_add (Y := 4) ti (by decide) ez163 (by omega) (by omega)
  refine va_sld hx hb hX hbl hbA hW.2.2.2.2.2.2.2 (iv_in (X := (i : Int) + 4) (by omega) (by omega) (by omega)) dLaw_1145 ?_
  rw [show z163.toNatClampNeg = i + 4 from by show z163.toInt.toNat = _; omega]
  refine lm_i (post := fun _ => True) (As := [.int (xs (i + 1)), .int (xs (i + 2)), .int (xs (i + 3)), .int (xs (i + 4))]) (rest := []) (n := 4) (d := 69) ⟨hx, hb, hml, hown, hts⟩ (c_X12_pour l E D Gm ma hW.2.2.2.1 (xs (i + 1)) (xs (i + 2)) (xs (i + 3)) (xs (i + 4))) wd_1705 wd_1706 wd_1707 wd_13 wd_1708 (by decide +kernel) ⟨Nat.le_of_ble_eq_true rfl, Nat.le_of_ble_eq_true rfl⟩ hW hN hK rfl hl.1 rfl (Nat.le_of_ble_eq_true rfl) dLaw_1146 ⟨by rw [hR1]; omega, by rw [hR2]; omega⟩ (fun r164 H locs hr164 hW => ?_)
  refine lv_pop hx hb dLaw_1149 rfl ?_
  refine lv_goto (tgt := 2004) hx hb dLaw_1150 (by decide) ?_
  exact W.widen (k := cells + 18) (n := slots + 441) (by omega) (by omega) (kk _ _ _ _ _ X0 hW hT)
