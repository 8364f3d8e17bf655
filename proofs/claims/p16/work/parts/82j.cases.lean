set_option maxHeartbeats 4000000 in
set_option maxRecDepth 100000 in
theorem law_c45 {p : Program} {e : Env} {s : State} {m : MethodId} {below : List Frame} {meth : Method} {c : Code} {l : Launch} {b L : Nat} {xs : Nat → Int32} (C0 : lw_At p s m meth c b L xs) {E : Nat → Nat} {D : va_G} {adK adV : Nat → Nat} (X0 : LCx E D adK adV s) {xa ma i : Nat} (hi : i + 7 ≤ L) (hL : L ≤ 3584) {Gc Gm : th_G} {nn : Nat} {H : Heap} {locs : List Loc} (hW : LWs E D s xa ma Gc Gm nn H locs) (hT : TI E Gc xa nn) (hU : UQ Gm 1 ∧ UQ Gm 2 ∧ UQ Gm 11 ∧ UQ Gm 4 ∧ UQ Gm 10) {cells slots : Nat} (hc1 : cells + 18 ≤ 600000) (hc2 : slots + 441 ≤ 7302250) {ls : Array Slot} (hl : lv_has ls 4 [(3, .int (nI i)), (2, .ref ma), (1, .ref xa), (0, .ref b)]) (kk : ∀ (E : Nat → Nat) (Gc : th_G) (nn : Nat) (H : Heap) (locs : List Loc), LCx E D adK adV s → LWs E D s xa ma Gc Gm nn H locs → TI E Gc xa nn → W p l e room_1 s m #[Value.ref b] below meth c H locs (cells + 18) (slots + 441) (lw_Z below #[Value.ref b] s) (F0 m 2004 ls [])) : W p l e room_1 s m #[Value.ref b] below meth c H locs cells slots (lw_Z below #[Value.ref b] s) (F0 m 1843 ls []) := by
  obtain ⟨hx, hb, hr, hml, hown, hts0, hX, hbl, hlocks, hgv⟩ := id C0
  obtain ⟨hN, hK, hWS, hCL, hAO⟩ := id X0
  have hbA : ¬ LWa s b := Nat.not_le.mpr hbl
  have hts := lw_tb (w := Cond.initialized RX12) wd_13 hts0
  have hR1 : room_1.cells = 600000 := rfl
  have hR2 : room_1.slots = 7302250 := rfl
  have ti : (nI i).toInt = (i : Int) := nI_toInt (by omega)
  refine lv_aload_n hx hb dLaw_1843 rfl (lv_at hl 2 rfl) ?_
  refine lv_aload_n hx hb dLaw_1844 rfl (lv_at hl 3 rfl) ?_
  refine lv_iload_n hx hb dLaw_1845 rfl (lv_at hl 0 rfl) ?_
  refine lv_iconst (v := 1) hx hb dLaw_1846 (by decide) ?_
  refine lv_iadd hx hb dLaw_1847 ?_
  refine lv_topi (fun z291 ez291 => ?_)
  have tz291 := iv_add (Y := 1) ti (by decide) ez291 (by omega) (by omega)
  refine va_sld hx hb hX hbl hbA hW.2.2.2.2.2.2.2 (iv_in (X := (i : Int) + 1) (by omega) (by omega) (by omega)) dLaw_1848 ?_
  rw [show z291.toNatClampNeg = i + 1 from by show z291.toInt.toNat = _; omega]
  refine lc_i (As := [.int (xs (i + 1))]) (rest := []) (n := 1) (d := 8) ⟨hx, hb, hml, hown, hts⟩ (c_X11_set l E D Gc xa nn hW.2.1 (xs (i + 1))) wd_1172 wd_1173 wd_1174 wd_1 wd_1175 (by decide +kernel) ⟨Nat.le_of_ble_eq_true rfl, Nat.le_of_ble_eq_true rfl⟩ hW hN hK rfl hl.1 rfl (Nat.le_of_ble_eq_true rfl) dLaw_1849 ⟨by rw [hR1]; omega, by rw [hR2]; omega⟩ (fun r292 H locs hr292 hW => ?_)
  refine lv_pop hx hb dLaw_1852 rfl ?_
  refine lv_aload_n hx hb dLaw_1853 rfl (lv_at hl 1 rfl) ?_
  refine lv_aload_n hx hb dLaw_1854 rfl (lv_at hl 3 rfl) ?_
  refine lv_iload_n hx hb dLaw_1855 rfl (lv_at hl 0 rfl) ?_
  refine lv_iconst (v := 1) hx hb dLaw_1856 (by decide) ?_
  refine lv_iadd hx hb dLaw_1857 ?_
  refine lv_topi (fun z293 ez293 => ?_)
  have tz293 := iv_add (Y := 1) ti (by decide) ez293 (by omega) (by omega)
  refine va_sld hx hb hX hbl hbA hW.2.2.2.2.2.2.2 (iv_in (X := (i : Int) + 1) (by omega) (by omega) (by omega)) dLaw_1858 ?_
  rw [show z293.toNatClampNeg = i + 1 from by show z293.toInt.toNat = _; omega]
  refine lm_i (post := fun _ => True) (As := [.int (xs (i + 1))]) (rest := []) (n := 1) (d := 70) ⟨hx, hb, hml, hown, hts⟩ (c_X12_set l E D Gm ma hW.2.2.2.1 (xs (i + 1))) wd_1843 wd_1844 wd_1845 wd_13 wd_1846 (by decide +kernel) ⟨Nat.le_of_ble_eq_true rfl, Nat.le_of_ble_eq_true rfl⟩ hW hN hK rfl hl.1 rfl (Nat.le_of_ble_eq_true rfl) dLaw_1859 ⟨by rw [hR1]; omega, by rw [hR2]; omega⟩ (fun r294 H locs hr294 hW => ?_)
  refine lv_pop hx hb dLaw_1862 rfl ?_
  refine lv_goto (tgt := 2004) hx hb dLaw_1863 (by decide) ?_
  exact W.widen (k := cells + 18) (n := slots + 441) (by omega) (by omega) (kk _ _ _ _ _ X0 hW hT)
set_option maxHeartbeats 4000000 in
set_option maxRecDepth 100000 in
theorem law_c46 {p : Program} {e : Env} {s : State} {m : MethodId} {below : List Frame} {meth : Method} {c : Code} {l : Launch} {b L : Nat} {xs : Nat → Int32} (C0 : lw_At p s m meth c b L xs) {E : Nat → Nat} {D : va_G} {adK adV : Nat → Nat} (X0 : LCx E D adK adV s) {xa ma i : Nat} (hi : i + 7 ≤ L) (hL : L ≤ 3584) {Gc Gm : th_G} {nn : Nat} {H : Heap} {locs : List Loc} (hW : LWs E D s xa ma Gc Gm nn H locs) (hT : TI E Gc xa nn) (hU : UQ Gm 1 ∧ UQ Gm 2 ∧ UQ Gm 11 ∧ UQ Gm 4 ∧ UQ Gm 10) {cells slots : Nat} (hc1 : cells + 18 ≤ 600000) (hc2 : slots + 441 ≤ 7302250) {ls : Array Slot} (hl : lv_has ls 4 [(3, .int (nI i)), (2, .ref ma), (1, .ref xa), (0, .ref b)]) (kk : ∀ (E : Nat → Nat) (Gc : th_G) (nn : Nat) (H : Heap) (locs : List Loc), LCx E D adK adV s → LWs E D s xa ma Gc Gm nn H locs → TI E Gc xa nn → W p l e room_1 s m #[Value.ref b] below meth c H locs (cells + 18) (slots + 441) (lw_Z below #[Value.ref b] s) (F0 m 2004 ls [])) : W p l e room_1 s m #[Value.ref b] below meth c H locs cells slots (lw_Z below #[Value.ref b] s) (F0 m 1866 ls []) := by
  obtain ⟨hx, hb, hr, hml, hown, hts0, hX, hbl, hlocks, hgv⟩ := id C0
  obtain ⟨hN, hK, hWS, hCL, hAO⟩ := id X0
  have hbA : ¬ LWa s b := Nat.not_le.mpr hbl
  have hts := lw_tb (w := Cond.initialized RX12) wd_13 hts0
  have hR1 : room_1.cells = 600000 := rfl
  have hR2 : room_1.slots = 7302250 := rfl
  have ti : (nI i).toInt = (i : Int) := nI_toInt (by omega)
  refine lv_aload_n hx hb dLaw_1866 rfl (lv_at hl 2 rfl) ?_
  refine lv_aload_n hx hb dLaw_1867 rfl (lv_at hl 3 rfl) ?_
  refine lv_iload_n hx hb dLaw_1868 rfl (lv_at hl 0 rfl) ?_
  refine lv_iconst (v := 1) hx hb dLaw_1869 (by decide) ?_
  refine lv_iadd hx hb dLaw_1870 ?_
  refine lv_topi (fun z295 ez295 => ?_)
  have tz295 := iv_add (Y := 1) ti (by decide) ez295 (by omega) (by omega)
  refine va_sld hx hb hX hbl hbA hW.2.2.2.2.2.2.2 (iv_in (X := (i : Int) + 1) (by omega) (by omega) (by omega)) dLaw_1871 ?_
  rw [show z295.toNatClampNeg = i + 1 from by show z295.toInt.toNat = _; omega]
  refine lv_aload_n hx hb dLaw_1872 rfl (lv_at hl 3 rfl) ?_
  refine lv_iload_n hx hb dLaw_1873 rfl (lv_at hl 0 rfl) ?_
  refine lv_iconst (v := 2) hx hb dLaw_1874 (by decide) ?_
  refine lv_iadd hx hb dLaw_1875 ?_
  refine lv_topi (fun z296 ez296 => ?_)
  have tz296 := iv_add (Y := 2) ti (by decide) ez296 (by omega) (by omega)
  refine va_sld hx hb hX hbl hbA hW.2.2.2.2.2.2.2 (iv_in (X := (i : Int) + 2) (by omega) (by omega) (by omega)) dLaw_1876 ?_
  rw [show z296.toNatClampNeg = i + 2 from by show z296.toInt.toNat = _; omega]
  refine lc_i (As := [.int (xs (i + 1)), .int (xs (i + 2))]) (rest := []) (n := 2) (d := 8) ⟨hx, hb, hml, hown, hts⟩ (c_X11_week l E D Gc xa nn hW.2.1 (xs (i + 1)) (xs (i + 2))) wd_1177 wd_1178 wd_1179 wd_1 wd_1180 (by decide +kernel) ⟨Nat.le_of_ble_eq_true rfl, Nat.le_of_ble_eq_true rfl⟩ hW hN hK rfl hl.1 rfl (Nat.le_of_ble_eq_true rfl) dLaw_1877 ⟨by rw [hR1]; omega, by rw [hR2]; omega⟩ (fun r297 H locs hr297 hW => ?_)
  refine lv_pop hx hb dLaw_1880 rfl ?_
  refine lv_aload_n hx hb dLaw_1881 rfl (lv_at hl 1 rfl) ?_
  refine lv_aload_n hx hb dLaw_1882 rfl (lv_at hl 3 rfl) ?_
  refine lv_iload_n hx hb dLaw_1883 rfl (lv_at hl 0 rfl) ?_
  refine lv_iconst (v := 1) hx hb dLaw_1884 (by decide) ?_
  refine lv_iadd hx hb dLaw_1885 ?_
  refine lv_topi (fun z298 ez298 => ?_)
  have tz298 := iv_add (Y := 1) ti (by decide) ez298 (by omega) (by omega)
  refine va_sld hx hb hX hbl hbA hW.2.2.2.2.2.2.2 (iv_in (X := (i : Int) + 1) (by omega) (by omega) (by omega)) dLaw_1886 ?_
  rw [show z298.toNatClampNeg = i + 1 from by show z298.toInt.toNat = _; omega]
  refine lv_aload_n hx hb dLaw_1887 rfl (lv_at hl 3 rfl) ?_
  refine lv_iload_n hx hb dLaw_1888 rfl (lv_at hl 0 rfl) ?_
  refine lv_iconst (v := 2) hx hb dLaw_1889 (by decide) ?_
  refine lv_iadd hx hb dLaw_1890 ?_
  refine lv_topi (fun z299 ez299 => ?_)
  have tz299 := iv_add (Y := 2) ti (by decide) ez299 (by omega) (by omega)
  refine va_sld hx hb hX hbl hbA hW.2.2.2.2.2.2.2 (iv_in (X := (i : Int) + 2) (by omega) (by omega) (by omega)) dLaw_1891 ?_
  rw [show z299.toNatClampNeg = i + 2 from by show z299.toInt.toNat = _; omega]
  refine lm_i (post := fun _ => True) (As := [.int (xs (i + 1)), .int (xs (i + 2))]) (rest := []) (n := 2) (d := 68) ⟨hx, hb, hml, hown, hts⟩ (c_X12_week l E D Gm ma hW.2.2.2.1 (xs (i + 1)) (xs (i + 2))) wd_1847 wd_1848 wd_1849 wd_13 wd_1850 (by decide +kernel) ⟨Nat.le_of_ble_eq_true rfl, Nat.le_of_ble_eq_true rfl⟩ hW hN hK rfl hl.1 rfl (Nat.le_of_ble_eq_true rfl) dLaw_1892 ⟨by rw [hR1]; omega, by rw [hR2]; omega⟩ (fun r300 H locs hr300 hW => ?_)
  refine lv_pop hx hb dLaw_1895 rfl ?_
  refine lv_goto (tgt := 2004) hx hb dLaw_1896 (by decide) ?_
  exact W.widen (k := cells + 18) (n := slots + 441) (by omega) (by omega) (kk _ _ _ _ _ X0 hW hT)
set_option maxHeartbeats 4000000 in
set_option maxRecDepth 100000 in
theorem law_c47 {p : Program} {e : Env} {s : State} {m : MethodId} {below : List Frame} {meth : Method} {c : Code} {l : Launch} {b L : Nat} {xs : Nat → Int32} (C0 : lw_At p s m meth c b L xs) {E : Nat → Nat} {D : va_G} {adK adV : Nat → Nat} (X0 : LCx E D adK adV s) {xa ma i : Nat} (hi : i + 7 ≤ L) (hL : L ≤ 3584) {Gc Gm : th_G} {nn : Nat} {H : Heap} {locs : List Loc} (hW : LWs E D s xa ma Gc Gm nn H locs) (hT : TI E Gc xa nn) (hU : UQ Gm 1 ∧ UQ Gm 2 ∧ UQ Gm 11 ∧ UQ Gm 4 ∧ UQ Gm 10) {cells slots : Nat} (hc1 : cells + 18 ≤ 600000) (hc2 : slots + 441 ≤ 7302250) {ls : Array Slot} (hl : lv_has ls 4 [(3, .int (nI i)), (2, .ref ma), (1, .ref xa), (0, .ref b)]) (kk : ∀ (E : Nat → Nat) (Gc : th_G) (nn : Nat) (H : Heap) (locs : List Loc), LCx E D adK adV s → LWs E D s xa ma Gc Gm nn H locs → TI E Gc xa nn → W p l e room_1 s m #[Value.ref b] below meth c H locs (cells + 18) (slots + 441) (lw_Z below #[Value.ref b] s) (F0 m 2004 ls [])) : W p l e room_1 s m #[Value.ref b] below meth c H locs cells slots (lw_Z below #[Value.ref b] s) (F0 m 1899 ls []) := by
  obtain ⟨hx, hb, hr, hml, hown, hts0, hX, hbl, hlocks, hgv⟩ := id C0
  obtain ⟨hN, hK, hWS, hCL, hAO⟩ := id X0
  have hbA : ¬ LWa s b := Nat.not_le.mpr hbl
  have hts := lw_tb (w := Cond.initialized RX12) wd_13 hts0
  have hR1 : room_1.cells = 600000 := rfl
  have hR2 : room_1.slots = 7302250 := rfl
  have ti : (nI i).toInt = (i : Int) := nI_toInt (by omega)
  refine lv_aload_n hx hb dLaw_1899 rfl (lv_at hl 2 rfl) ?_
  refine lv_aload_n hx hb dLaw_1900 rfl (lv_at hl 3 rfl) ?_
  refine lv_iload_n hx hb dLaw_1901 rfl (lv_at hl 0 rfl) ?_
  refine lv_iconst (v := 1) hx hb dLaw_1902 (by decide) ?_
  refine lv_iadd hx hb dLaw_1903 ?_
  refine lv_topi (fun z301 ez301 => ?_)
  have tz301 := iv_add (Y := 1) ti (by decide) ez301 (by omega) (by omega)
  refine va_sld hx hb hX hbl hbA hW.2.2.2.2.2.2.2 (iv_in (X := (i : Int) + 1) (by omega) (by omega) (by omega)) dLaw_1904 ?_
  rw [show z301.toNatClampNeg = i + 1 from by show z301.toInt.toNat = _; omega]
  refine lc_i (As := [.int (xs (i + 1))]) (rest := []) (n := 1) (d := 1) ⟨hx, hb, hml, hown, hts⟩ (c_X11_drawn l E D Gc xa nn hW.2.1 (xs (i + 1))) wd_1194 wd_1195 wd_1196 wd_1 wd_1197 (by decide +kernel) ⟨Nat.le_of_ble_eq_true rfl, Nat.le_of_ble_eq_true rfl⟩ hW hN hK rfl hl.1 rfl (Nat.le_of_ble_eq_true rfl) dLaw_1905 ⟨by rw [hR1]; omega, by rw [hR2]; omega⟩ (fun r302 H locs hr302 hW => ?_)
  refine lv_pop hx hb dLaw_1908 rfl ?_
  refine lv_aload_n hx hb dLaw_1909 rfl (lv_at hl 1 rfl) ?_
  refine lv_aload_n hx hb dLaw_1910 rfl (lv_at hl 3 rfl) ?_
  refine lv_iload_n hx hb dLaw_1911 rfl (lv_at hl 0 rfl) ?_
  refine lv_iconst (v := 1) hx hb dLaw_1912 (by decide) ?_
  refine lv_iadd hx hb dLaw_1913 ?_
  refine lv_topi (fun z303 ez303 => ?_)
  have tz303 := iv_add (Y := 1) ti (by decide) ez303 (by omega) (by omega)
  refine va_sld hx hb hX hbl hbA hW.2.2.2.2.2.2.2 (iv_in (X := (i : Int) + 1) (by omega) (by omega) (by omega)) dLaw_1914 ?_
  rw [show z303.toNatClampNeg = i + 1 from by show z303.toInt.toNat = _; omega]
  refine lm_i (post := fun _ => True) (As := [.int (xs (i + 1))]) (rest := []) (n := 1) (d := 2) ⟨hx, hb, hml, hown, hts⟩ (c_X12_drawn l E D Gm ma hW.2.2.2.1 (xs (i + 1))) wd_1858 wd_1859 wd_1860 wd_13 wd_1861 (by decide +kernel) ⟨Nat.le_of_ble_eq_true rfl, Nat.le_of_ble_eq_true rfl⟩ hW hN hK rfl hl.1 rfl (Nat.le_of_ble_eq_true rfl) dLaw_1915 ⟨by rw [hR1]; omega, by rw [hR2]; omega⟩ (fun r304 H locs hr304 hW => ?_)
  refine lv_pop hx hb dLaw_1918 rfl ?_
  refine lv_goto (tgt := 2004) hx hb dLaw_1919 (by decide) ?_
  exact W.widen (k := cells + 18) (n := slots + 441) (by omega) (by omega) (kk _ _ _ _ _ X0 hW hT)
set_option maxHeartbeats 4000000 in
set_option maxRecDepth 100000 in
theorem law_c48 {p : Program} {e : Env} {s : State} {m : MethodId} {below : List Frame} {meth : Method} {c : Code} {l : Launch} {b L : Nat} {xs : Nat → Int32} (C0 : lw_At p s m meth c b L xs) {E : Nat → Nat} {D : va_G} {adK adV : Nat → Nat} (X0 : LCx E D adK adV s) {xa ma i : Nat} (hi : i + 7 ≤ L) (hL : L ≤ 3584) {Gc Gm : th_G} {nn : Nat} {H : Heap} {locs : List Loc} (hW : LWs E D s xa ma Gc Gm nn H locs) (hT : TI E Gc xa nn) (hU : UQ Gm 1 ∧ UQ Gm 2 ∧ UQ Gm 11 ∧ UQ Gm 4 ∧ UQ Gm 10) {cells slots : Nat} (hc1 : cells + 18 ≤ 600000) (hc2 : slots + 441 ≤ 7302250) {ls : Array Slot} (hl : lv_has ls 4 [(3, .int (nI i)), (2, .ref ma), (1, .ref xa), (0, .ref b)]) (kk : ∀ (E : Nat → Nat) (Gc : th_G) (nn : Nat) (H : Heap) (locs : List Loc), LCx E D adK adV s → LWs E D s xa ma Gc Gm nn H locs → TI E Gc xa nn → W p l e room_1 s m #[Value.ref b] below meth c H locs (cells + 18) (slots + 441) (lw_Z below #[Value.ref b] s) (F0 m 2004 ls [])) : W p l e room_1 s m #[Value.ref b] below meth c H locs cells slots (lw_Z below #[Value.ref b] s) (F0 m 1922 ls []) := by
  obtain ⟨hx, hb, hr, hml, hown, hts0, hX, hbl, hlocks, hgv⟩ := id C0
  obtain ⟨hN, hK, hWS, hCL, hAO⟩ := id X0
  have hbA : ¬ LWa s b := Nat.not_le.mpr hbl
  have hts := lw_tb (w := Cond.initialized RX12) wd_13 hts0
  have hR1 : room_1.cells = 600000 := rfl
  have hR2 : room_1.slots = 7302250 := rfl
  have ti : (nI i).toInt = (i : Int) := nI_toInt (by omega)
  refine lv_aload_n hx hb dLaw_1922 rfl (lv_at hl 2 rfl) ?_
  refine lv_aload_n hx hb dLaw_1923 rfl (lv_at hl 3 rfl) ?_
  refine lv_iload_n hx hb dLaw_1924 rfl (lv_at hl 0 rfl) ?_
  refine lv_iconst (v := 1) hx hb dLaw_1925 (by decide) ?_
  refine lv_iadd hx hb dLaw_1926 ?_
  refine lv_topi (fun z305 ez305 => ?_)
  have tz305 := iv_add (Y := 1) ti (by decide) ez305 (by omega) (by omega)
  refine va_sld hx hb hX hbl hbA hW.2.2.2.2.2.2.2 (iv_in (X := (i : Int) + 1) (by omega) (by omega) (by omega)) dLaw_1927 ?_
  rw [show z305.toNatClampNeg = i + 1 from by show z305.toInt.toNat = _; omega]
  obtain ⟨E, hEz, X0, hW, hT⟩ := ea_norm X0 hW hT
  obtain ⟨hN, hK, hWS, hCL, hAO⟩ := id X0
  obtain ⟨⟨sa, hTS⟩, ta, ra, hTP⟩ := id hT
  obtain ⟨f0, f1, hgB⟩ := TI_back (x := (xs (i + 1))) hTS
  have hsz0 : ∀ (q : Nat) (k : th_K), Gc q = some k → q < H.size := fun q k h => th_lt hW.1 h
  refine lc_im (As := [.int (xs (i + 1))]) (rest := []) (n := 1) ⟨hx, hb, hml, hown, hts⟩ (c_X11_image l E D Gc H.size xa nn hW.2.1 (xs (i + 1)) sa hTS.1 f0 f1 hEz) mi_blind (fun U hU9 hWm => ⟨by rw [hU9], ⟨by rw [hU9]; exact hW.1, hN.warm hWm, va_K.moved hWm.alike hK⟩, hAO.moved hWm.alike⟩) wd_1198 wd_1199 wd_1200 wd_1 wd_1201 ⟨rfl, rfl⟩ (by decide +kernel) ⟨Nat.le_of_ble_eq_true rfl, Nat.le_of_ble_eq_true rfl⟩ hW hK rfl hl.1 rfl (Nat.le_of_ble_eq_true rfl) dLaw_1928 ⟨by rw [hR1]; omega, by rw [hR2]; omega⟩ (fun r306 Gc E1 H locs hr306 hle hq hW => ?_)
  have XE1 := LCx_eq (E' := E1) (fun j hj => IMQ_lo hq j (by omega)) X0
  obtain ⟨hN, hK, hWS, hCL, hAO⟩ := id XE1
  refine lv_pop hx hb dLaw_1931 rfl ?_
  refine lv_aload_n hx hb dLaw_1932 rfl (lv_at hl 1 rfl) ?_
  refine lv_aload_n hx hb dLaw_1933 rfl (lv_at hl 3 rfl) ?_
  refine lv_iload_n hx hb dLaw_1934 rfl (lv_at hl 0 rfl) ?_
  refine lv_iconst (v := 1) hx hb dLaw_1935 (by decide) ?_
  refine lv_iadd hx hb dLaw_1936 ?_
  refine lv_topi (fun z307 ez307 => ?_)
  have tz307 := iv_add (Y := 1) ti (by decide) ez307 (by omega) (by omega)
  refine va_sld hx hb hX hbl hbA hW.2.2.2.2.2.2.2 (iv_in (X := (i : Int) + 1) (by omega) (by omega) (by omega)) dLaw_1937 ?_
  rw [show z307.toNatClampNeg = i + 1 from by show z307.toInt.toNat = _; omega]
  refine lm_e (As := [.int (xs (i + 1))]) (rest := []) (n := 1) (d := 1) ⟨hx, hb, hml, hown, hts⟩ (c_X12_image l E1 D Gm ma hW.2.2.2.1 (xs (i + 1)) hU.2.1 hU.2.2.1) mI_lo wd_1391 wd_1392 wd_1393 wd_13 wd_1394 (by decide +kernel) ⟨Nat.le_of_ble_eq_true rfl, Nat.le_of_ble_eq_true rfl⟩ hW hN hK rfl hl.1 rfl (Nat.le_of_ble_eq_true rfl) dLaw_1938 ⟨by rw [hR1]; omega, by rw [hR2]; omega⟩ (fun r308 H locs E2 hE2 hr308 hW => ?_)
  have XE2 := LCx_eq (E' := E2) (fun j hj => by rw [hE2]; exact mI_lo j (Or.inl hj)) XE1
  obtain ⟨hN, hK, hWS, hCL, hAO⟩ := id XE2
  have hT : TI E2 Gc xa nn := by rw [hE2]; exact TI_image hTS hTP hle hq hsz0
  refine lv_pop hx hb dLaw_1941 rfl ?_
  refine lv_goto (tgt := 2004) hx hb dLaw_1942 (by decide) ?_
  exact W.widen (k := cells + 18) (n := slots + 441) (by omega) (by omega) (kk _ _ _ _ _ XE2 hW hT)
set_option maxHeartbeats 4000000 in
set_option maxRecDepth 100000 in
theorem law_c49 {p : Program} {e : Env} {s : State} {m : MethodId} {below : List Frame} {meth : Method} {c : Code} {l : Launch} {b L : Nat} {xs : Nat → Int32} (C0 : lw_At p s m meth c b L xs) {E : Nat → Nat} {D : va_G} {adK adV : Nat → Nat} (X0 : LCx E D adK adV s) {xa ma i : Nat} (hi : i + 7 ≤ L) (hL : L ≤ 3584) {Gc Gm : th_G} {nn : Nat} {H : Heap} {locs : List Loc} (hW : LWs E D s xa ma Gc Gm nn H locs) (hT : TI E Gc xa nn) (hU : UQ Gm 1 ∧ UQ Gm 2 ∧ UQ Gm 11 ∧ UQ Gm 4 ∧ UQ Gm 10) {cells slots : Nat} (hc1 : cells + 18 ≤ 600000) (hc2 : slots + 441 ≤ 7302250) {ls : Array Slot} (hl : lv_has ls 4 [(3, .int (nI i)), (2, .ref ma), (1, .ref xa), (0, .ref b)]) (kk : ∀ (E : Nat → Nat) (Gc : th_G) (nn : Nat) (H : Heap) (locs : List Loc), LCx E D adK adV s → LWs E D s xa ma Gc Gm nn H locs → TI E Gc xa nn → W p l e room_1 s m #[Value.ref b] below meth c H locs (cells + 18) (slots + 441) (lw_Z below #[Value.ref b] s) (F0 m 2004 ls [])) : W p l e room_1 s m #[Value.ref b] below meth c H locs cells slots (lw_Z below #[Value.ref b] s) (F0 m 1945 ls []) := by
  obtain ⟨hx, hb, hr, hml, hown, hts0, hX, hbl, hlocks, hgv⟩ := id C0
  obtain ⟨hN, hK, hWS, hCL, hAO⟩ := id X0
  have hbA : ¬ LWa s b := Nat.not_le.mpr hbl
  have hts := lw_tb (w := Cond.initialized RX12) wd_13 hts0
  have hR1 : room_1.cells = 600000 := rfl
  have hR2 : room_1.slots = 7302250 := rfl
  have ti : (nI i).toInt = (i : Int) := nI_toInt (by omega)
  refine lv_aload_n hx hb dLaw_1945 rfl (lv_at hl 2 rfl) ?_
  refine lv_aload_n hx hb dLaw_1946 rfl (lv_at hl 3 rfl) ?_
  refine lv_iload_n hx hb dLaw_1947 rfl (lv_at hl 0 rfl) ?_
  refine lv_iconst (v := 1) hx hb dLaw_1948 (by decide) ?_
  refine lv_iadd hx hb dLaw_1949 ?_
  refine lv_topi (fun z309 ez309 => ?_)
  have tz309 := iv_add (Y := 1) ti (by decide) ez309 (by omega) (by omega)
  refine va_sld hx hb hX hbl hbA hW.2.2.2.2.2.2.2 (iv_in (X := (i : Int) + 1) (by omega) (by omega) (by omega)) dLaw_1950 ?_
  rw [show z309.toNatClampNeg = i + 1 from by show z309.toInt.toNat = _; omega]
  obtain ⟨⟨sa, hTS⟩, ta, ra, hTP⟩ := id hT
  obtain ⟨f0, f1, hgB⟩ := TI_back (x := (xs (i + 1))) hTS
  refine lc_e (As := [.int (xs (i + 1))]) (rest := []) (n := 1) (d := 3) ⟨hx, hb, hml, hown, hts⟩ (c_X11_back l E D Gc xa nn hW.2.1 (xs (i + 1)) sa hTS.1 f0 f1) (fun j hj => eu_ne (by omega)) wd_1211 wd_1212 wd_1213 wd_1 wd_1214 (by decide +kernel) ⟨Nat.le_of_ble_eq_true rfl, Nat.le_of_ble_eq_true rfl⟩ hW hN hK rfl hl.1 rfl (Nat.le_of_ble_eq_true rfl) dLaw_1951 ⟨by rw [hR1]; omega, by rw [hR2]; omega⟩ (fun r310 H locs E1 hE1 hr310 hW => ?_)
  have XE1 := LCx_eq (E' := E1) (fun j hj => by rw [hE1]; exact eu_ne (by omega)) X0
  obtain ⟨hN, hK, hWS, hCL, hAO⟩ := id XE1
  refine lv_pop hx hb dLaw_1954 rfl ?_
  refine lv_aload_n hx hb dLaw_1955 rfl (lv_at hl 1 rfl) ?_
  refine lv_aload_n hx hb dLaw_1956 rfl (lv_at hl 3 rfl) ?_
  refine lv_iload_n hx hb dLaw_1957 rfl (lv_at hl 0 rfl) ?_
  refine lv_iconst (v := 1) hx hb dLaw_1958 (by decide) ?_
  refine lv_iadd hx hb dLaw_1959 ?_
  refine lv_topi (fun z311 ez311 => ?_)
  have tz311 := iv_add (Y := 1) ti (by decide) ez311 (by omega) (by omega)
  refine va_sld hx hb hX hbl hbA hW.2.2.2.2.2.2.2 (iv_in (X := (i : Int) + 1) (by omega) (by omega) (by omega)) dLaw_1960 ?_
  rw [show z311.toNatClampNeg = i + 1 from by show z311.toInt.toNat = _; omega]
  refine lm_e (post := fun _ => True) (As := [.int (xs (i + 1))]) (rest := []) (n := 1) (d := 1) ⟨hx, hb, hml, hown, hts⟩ (c_X12_back l E1 D Gm ma hW.2.2.2.1 (xs (i + 1)) hU.1) (fun j hj => eu_ne (by omega)) wd_1406 wd_1407 wd_1408 wd_13 wd_1409 (by decide +kernel) ⟨Nat.le_of_ble_eq_true rfl, Nat.le_of_ble_eq_true rfl⟩ hW hN hK rfl hl.1 rfl (Nat.le_of_ble_eq_true rfl) dLaw_1961 ⟨by rw [hR1]; omega, by rw [hR2]; omega⟩ (fun r312 H locs E2 hE2 hr312 hW => ?_)
  have XE2 := LCx_eq (E' := E2) (fun j hj => by rw [hE2]; exact eu_ne (by omega)) XE1
  obtain ⟨hN, hK, hWS, hCL, hAO⟩ := id XE2
  have hT : TI E2 Gc xa nn := by rw [hE2, hE1, hgB]; exact TI_set hTS hTP
  refine lv_pop hx hb dLaw_1964 rfl ?_
  refine lv_goto (tgt := 2004) hx hb dLaw_1965 (by decide) ?_
  exact W.widen (k := cells + 18) (n := slots + 441) (by omega) (by omega) (kk _ _ _ _ _ XE2 hW hT)
