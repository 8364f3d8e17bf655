set_option maxHeartbeats 4000000 in
set_option maxRecDepth 100000 in
theorem law_c0 {p : Program} {e : Env} {s : State} {m : MethodId} {below : List Frame} {meth : Method} {c : Code} {l : Launch} {b L : Nat} {xs : Nat → Int32} (C0 : lw_At p s m meth c b L xs) {E : Nat → Nat} {D : va_G} {adK adV : Nat → Nat} (X0 : LCx E D adK adV s) {xa ma i : Nat} (hi : i + 7 ≤ L) (hL : L ≤ 3584) {Gc Gm : th_G} {nn : Nat} {H : Heap} {locs : List Loc} (hW : LWs E D s xa ma Gc Gm nn H locs) (hT : TI E Gc xa nn) (hU : UQ Gm 1 ∧ UQ Gm 2 ∧ UQ Gm 11 ∧ UQ Gm 4 ∧ UQ Gm 10) {cells slots : Nat} (hc1 : cells + 18 ≤ 600000) (hc2 : slots + 441 ≤ 7302250) {ls : Array Slot} (hl : lv_has ls 4 [(3, .int (nI i)), (2, .ref ma), (1, .ref xa), (0, .ref b)]) (kk : ∀ (E : Nat → Nat) (Gc : th_G) (nn : Nat) (H : Heap) (locs : List Loc), LCx E D adK adV s → LWs E D s xa ma Gc Gm nn H locs → TI E Gc xa nn → W p l e room_1 s m #[Value.ref b] below meth c H locs (cells + 18) (slots + 441) (lw_Z below #[Value.ref b] s) (F0 m 2004 ls [])) : W p l e room_1 s m #[Value.ref b] below meth c H locs cells slots (lw_Z below #[Value.ref b] s) (F0 m 256 ls []) := by
  obtain ⟨hx, hb, hr, hml, hown, hts0, hX, hbl, hlocks, hgv⟩ := id C0
  obtain ⟨hN, hK, hWS, hCL, hAO⟩ := id X0
  have hbA : ¬ LWa s b := Nat.not_le.mpr hbl
  have hts := lw_tb (w := Cond.initialized RX12) wd_13 hts0
  have hR1 : room_1.cells = 600000 := rfl
  have hR2 : room_1.slots = 7302250 := rfl
  have ti : (nI i).toInt = (i : Int) := nI_toInt (by omega)
  refine lv_aload_n hx hb dLaw_256 rfl (lv_at hl 2 rfl) ?_
  refine lv_aload_n hx hb dLaw_257 rfl (lv_at hl 3 rfl) ?_
  refine lv_iload_n hx hb dLaw_258 rfl (lv_at hl 0 rfl) ?_
  refine lv_iconst (v := 1) hx hb dLaw_259 (by decide) ?_
  refine lv_iadd hx hb dLaw_260 ?_
  refine lv_topi (fun z1 ez1 => ?_)
  have tz1 := iv_add (Y := 1) ti (by decide) ez1 (by omega) (by omega)
  refine va_sld hx hb hX hbl hbA hW.2.2.2.2.2.2.2 (iv_in (X := (i : Int) + 1) (by omega) (by omega) (by omega)) dLaw_261 ?_
  rw [show z1.toNatClampNeg = i + 1 from by show z1.toInt.toNat = _; omega]
  refine lv_aload_n hx hb dLaw_262 rfl (lv_at hl 3 rfl) ?_
  refine lv_iload_n hx hb dLaw_263 rfl (lv_at hl 0 rfl) ?_
  refine lv_iconst (v := 2) hx hb dLaw_264 (by decide) ?_
  refine lv_iadd hx hb dLaw_265 ?_
  refine lv_topi (fun z2 ez2 => ?_)
  have tz2 := iv_add (Y := 2) ti (by decide) ez2 (by omega) (by omega)
  refine va_sld hx hb hX hbl hbA hW.2.2.2.2.2.2.2 (iv_in (X := (i : Int) + 2) (by omega) (by omega) (by omega)) dLaw_266 ?_
  rw [show z2.toNatClampNeg = i + 2 from by show z2.toInt.toNat = _; omega]
  refine lv_aload_n hx hb dLaw_267 rfl (lv_at hl 3 rfl) ?_
  refine lv_iload_n hx hb dLaw_268 rfl (lv_at hl 0 rfl) ?_
  refine lv_iconst (v := 3) hx hb dLaw_269 (by decide) ?_
  refine lv_iadd hx hb dLaw_270 ?_
  refine lv_topi (fun z3 ez3 => ?_)
  have tz3 := iv_add (Y := 3) ti (by decide) ez3 (by omega) (by omega)
  refine va_sld hx hb hX hbl hbA hW.2.2.2.2.2.2.2 (iv_in (X := (i : Int) + 3) (by omega) (by omega) (by omega)) dLaw_271 ?_
  rw [show z3.toNatClampNeg = i + 3 from by show z3.toInt.toNat = _; omega]
  refine lv_aload_n hx hb dLaw_272 rfl (lv_at hl 3 rfl) ?_
  refine lv_iload_n hx hb dLaw_273 rfl (lv_at hl 0 rfl) ?_
  refine lv_iconst (v := 4) hx hb dLaw_274 (by decide) ?_
  refine lv_iadd hx hb dLaw_275 ?_
  refine lv_topi (fun z4 ez4 => ?_)
  have tz4 := iv_add (Y := 4) ti (by decide) ez4 (by omega) (by omega)
  refine va_sld hx hb hX hbl hbA hW.2.2.2.2.2.2.2 (iv_in (X := (i : Int) + 4) (by omega) (by omega) (by omega)) dLaw_276 ?_
  rw [show z4.toNatClampNeg = i + 4 from by show z4.toInt.toNat = _; omega]
  refine lv_aload_n hx hb dLaw_277 rfl (lv_at hl 3 rfl) ?_
  refine lv_iload_n hx hb dLaw_278 rfl (lv_at hl 0 rfl) ?_
  refine lv_iconst (v := 5) hx hb dLaw_279 (by decide) ?_
  refine lv_iadd hx hb dLaw_280 ?_
  refine lv_topi (fun z5 ez5 => ?_)
  have tz5 := iv_add (Y := 5) ti (by decide) ez5 (by omega) (by omega)
  refine va_sld hx hb hX hbl hbA hW.2.2.2.2.2.2.2 (iv_in (X := (i : Int) + 5) (by omega) (by omega) (by omega)) dLaw_281 ?_
  rw [show z5.toNatClampNeg = i + 5 from by show z5.toInt.toNat = _; omega]
  refine lv_aload_n hx hb dLaw_282 rfl (lv_at hl 3 rfl) ?_
  refine lv_iload_n hx hb dLaw_283 rfl (lv_at hl 0 rfl) ?_
  refine lv_bipush (v := 6) hx hb dLaw_284 (by decide) ?_
  refine lv_iadd hx hb dLaw_286 ?_
  refine lv_topi (fun z6 ez6 => ?_)
  have tz6 := iv_add (Y := 6) ti (by decide) ez6 (by omega) (by omega)
  refine va_sld hx hb hX hbl hbA hW.2.2.2.2.2.2.2 (iv_in (X := (i : Int) + 6) (by omega) (by omega) (by omega)) dLaw_287 ?_
  rw [show z6.toNatClampNeg = i + 6 from by show z6.toInt.toNat = _; omega]
  refine lc_i (As := [.int (xs (i + 1)), .int (xs (i + 2)), .int (xs (i + 3)), .int (xs (i + 4)), .int (xs (i + 5)), .int (xs (i + 6))]) (rest := []) (n := 6) (d := 3) ⟨hx, hb, hml, hown, hts⟩ (c_X11_pump l E D Gc xa nn hW.2.1 (xs (i + 1)) (xs (i + 2)) (xs (i + 3)) (xs (i + 4)) (xs (i + 5)) (xs (i + 6))) wd_397 wd_398 wd_399 wd_1 wd_400 (by decide +kernel) ⟨Nat.le_of_ble_eq_true rfl, Nat.le_of_ble_eq_true rfl⟩ hW hN hK rfl hl.1 rfl (Nat.le_of_ble_eq_true rfl) dLaw_288 ⟨by rw [hR1]; omega, by rw [hR2]; omega⟩ (fun r7 H locs hr7 hW => ?_)
  refine lv_pop hx hb dLaw_291 rfl ?_
  refine lv_aload_n hx hb dLaw_292 rfl (lv_at hl 1 rfl) ?_
  refine lv_aload_n hx hb dLaw_293 rfl (lv_at hl 3 rfl) ?_
  refine lv_iload_n hx hb dLaw_294 rfl (lv_at hl 0 rfl) ?_
  refine lv_iconst (v := 1) hx hb dLaw_295 (by decide) ?_
  refine lv_iadd hx hb dLaw_296 ?_
  refine lv_topi (fun z8 ez8 => ?_)
  have tz8 := iv_add (Y := 1) ti (by decide) ez8 (by omega) (by omega)
  refine va_sld hx hb hX hbl hbA hW.2.2.2.2.2.2.2 (iv_in (X := (i : Int) + 1) (by omega) (by omega) (by omega)) dLaw_297 ?_
  rw [show z8.toNatClampNeg = i + 1 from by show z8.toInt.toNat = _; omega]
  refine lv_aload_n hx hb dLaw_298 rfl (lv_at hl 3 rfl) ?_
  refine lv_iload_n hx hb dLaw_299 rfl (lv_at hl 0 rfl) ?_
  refine lv_iconst (v := 2) hx hb dLaw_300 (by decide) ?_
  refine lv_iadd hx hb dLaw_301 ?_
  refine lv_topi (fun z9 ez9 => ?_)
  have tz9 := iv_add (Y := 2) ti (by decide) ez9 (by omega) (by omega)
  refine va_sld hx hb hX hbl hbA hW.2.2.2.2.2.2.2 (iv_in (X := (i : Int) + 2) (by omega) (by omega) (by omega)) dLaw_302 ?_
  rw [show z9.toNatClampNeg = i + 2 from by show z9.toInt.toNat = _; omega]
  refine lv_aload_n hx hb dLaw_303 rfl (lv_at hl 3 rfl) ?_
  refine lv_iload_n hx hb dLaw_304 rfl (lv_at hl 0 rfl) ?_
  refine lv_iconst (v := 3) hx hb dLaw_305 (by decide) ?_
  refine lv_iadd hx hb dLaw_306 ?_
  refine lv_topi (fun z10 ez10 => ?_)
  have tz10 := iv_add (Y := 3) ti (by decide) ez10 (by omega) (by omega)
  refine va_sld hx hb hX hbl hbA hW.2.2.2.2.2.2.2 (iv_in (X := (i : Int) + 3) (by omega) (by omega) (by omega)) dLaw_307 ?_
  rw [show z10.toNatClampNeg = i + 3 from by show z10.toInt.toNat = _; omega]
  refine lv_aload_n hx hb dLaw_308 rfl (lv_at hl 3 rfl) ?_
  refine lv_iload_n hx hb dLaw_309 rfl (lv_at hl 0 rfl) ?_
  refine lv_iconst (v := 4) hx hb dLaw_310 (by decide) ?_
  refine lv_iadd hx hb dLaw_311 ?_
  refine lv_topi (fun z11 ez11 => ?_)
  have tz11 := iv_add (Y := 4) ti (by decide) ez11 (by omega) (by omega)
  refine va_sld hx hb hX hbl hbA hW.2.2.2.2.2.2.2 (iv_in (X := (i : Int) + 4) (by omega) (by omega) (by omega)) dLaw_312 ?_
  rw [show z11.toNatClampNeg = i + 4 from by show z11.toInt.toNat = _; omega]
  refine lv_aload_n hx hb dLaw_313 rfl (lv_at hl 3 rfl) ?_
  refine lv_iload_n hx hb dLaw_314 rfl (lv_at hl 0 rfl) ?_
  refine lv_iconst (v := 5) hx hb dLaw_315 (by decide) ?_
  refine lv_iadd hx hb dLaw_316 ?_
  refine lv_topi (fun z12 ez12 => ?_)
  have tz12 := iv_add (Y := 5) ti (by decide) ez12 (by omega) (by omega)
  refine va_sld hx hb hX hbl hbA hW.2.2.2.2.2.2.2 (iv_in (X := (i : Int) + 5) (by omega) (by omega) (by omega)) dLaw_317 ?_
  rw [show z12.toNatClampNeg = i + 5 from by show z12.toInt.toNat = _; omega]
  refine lv_aload_n hx hb dLaw_318 rfl (lv_at hl 3 rfl) ?_
  refine lv_iload_n hx hb dLaw_319 rfl (lv_at hl 0 rfl) ?_
  refine lv_bipush (v := 6) hx hb dLaw_320 (by decide) ?_
  refine lv_iadd hx hb dLaw_322 ?_
  refine lv_topi (fun z13 ez13 => ?_)
  have tz13 := iv_add (Y := 6) ti (by decide) ez13 (by omega) (by omega)
  refine va_sld hx hb hX hbl hbA hW.2.2.2.2.2.2.2 (iv_in (X := (i : Int) + 6) (by omega) (by omega) (by omega)) dLaw_323 ?_
  rw [show z13.toNatClampNeg = i + 6 from by show z13.toInt.toNat = _; omega]
  refine lm_i (As := [.int (xs (i + 1)), .int (xs (i + 2)), .int (xs (i + 3)), .int (xs (i + 4)), .int (xs (i + 5)), .int (xs (i + 6))]) (rest := []) (n := 6) (d := 2) ⟨hx, hb, hml, hown, hts⟩ (c_X12_pump l E D Gm ma hW.2.2.2.1 (xs (i + 1)) (xs (i + 2)) (xs (i + 3)) (xs (i + 4)) (xs (i + 5)) (xs (i + 6))) wd_1410 wd_1411 wd_1412 wd_13 wd_1413 (by decide +kernel) ⟨Nat.le_of_ble_eq_true rfl, Nat.le_of_ble_eq_true rfl⟩ hW hN hK rfl hl.1 rfl (Nat.le_of_ble_eq_true rfl) dLaw_324 ⟨by rw [hR1]; omega, by rw [hR2]; omega⟩ (fun r14 H locs hr14 hW => ?_)
  refine lv_pop hx hb dLaw_327 rfl ?_
  refine lv_goto (tgt := 2004) hx hb dLaw_328 (by decide) ?_
  exact W.widen (k := cells + 18) (n := slots + 441) (by omega) (by omega) (kk _ _ _ _ _ X0 hW hT)
set_option maxHeartbeats 4000000 in
set_option maxRecDepth 100000 in
theorem law_c1 {p : Program} {e : Env} {s : State} {m : MethodId} {below : List Frame} {meth : Method} {c : Code} {l : Launch} {b L : Nat} {xs : Nat → Int32} (C0 : lw_At p s m meth c b L xs) {E : Nat → Nat} {D : va_G} {adK adV : Nat → Nat} (X0 : LCx E D adK adV s) {xa ma i : Nat} (hi : i + 7 ≤ L) (hL : L ≤ 3584) {Gc Gm : th_G} {nn : Nat} {H : Heap} {locs : List Loc} (hW : LWs E D s xa ma Gc Gm nn H locs) (hT : TI E Gc xa nn) (hU : UQ Gm 1 ∧ UQ Gm 2 ∧ UQ Gm 11 ∧ UQ Gm 4 ∧ UQ Gm 10) {cells slots : Nat} (hc1 : cells + 18 ≤ 600000) (hc2 : slots + 441 ≤ 7302250) {ls : Array Slot} (hl : lv_has ls 4 [(3, .int (nI i)), (2, .ref ma), (1, .ref xa), (0, .ref b)]) (kk : ∀ (E : Nat → Nat) (Gc : th_G) (nn : Nat) (H : Heap) (locs : List Loc), LCx E D adK adV s → LWs E D s xa ma Gc Gm nn H locs → TI E Gc xa nn → W p l e room_1 s m #[Value.ref b] below meth c H locs (cells + 18) (slots + 441) (lw_Z below #[Value.ref b] s) (F0 m 2004 ls [])) : W p l e room_1 s m #[Value.ref b] below meth c H locs cells slots (lw_Z below #[Value.ref b] s) (F0 m 331 ls []) := by
  obtain ⟨hx, hb, hr, hml, hown, hts0, hX, hbl, hlocks, hgv⟩ := id C0
  obtain ⟨hN, hK, hWS, hCL, hAO⟩ := id X0
  have hbA : ¬ LWa s b := Nat.not_le.mpr hbl
  have hts := lw_tb (w := Cond.initialized RX12) wd_13 hts0
  have hR1 : room_1.cells = 600000 := rfl
  have hR2 : room_1.slots = 7302250 := rfl
  have ti : (nI i).toInt = (i : Int) := nI_toInt (by omega)
  refine lv_aload_n hx hb dLaw_331 rfl (lv_at hl 2 rfl) ?_
  refine lv_aload_n hx hb dLaw_332 rfl (lv_at hl 3 rfl) ?_
  refine lv_iload_n hx hb dLaw_333 rfl (lv_at hl 0 rfl) ?_
  refine lv_iconst (v := 1) hx hb dLaw_334 (by decide) ?_
  refine lv_iadd hx hb dLaw_335 ?_
  refine lv_topi (fun z15 ez15 => ?_)
  have tz15 := iv_add (Y := 1) ti (by decide) ez15 (by omega) (by omega)
  refine va_sld hx hb hX hbl hbA hW.2.2.2.2.2.2.2 (iv_in (X := (i : Int) + 1) (by omega) (by omega) (by omega)) dLaw_336 ?_
  rw [show z15.toNatClampNeg = i + 1 from by show z15.toInt.toNat = _; omega]
  refine lv_aload_n hx hb dLaw_337 rfl (lv_at hl 3 rfl) ?_
  refine lv_iload_n hx hb dLaw_338 rfl (lv_at hl 0 rfl) ?_
  refine lv_iconst (v := 2) hx hb dLaw_339 (by decide) ?_
  refine lv_iadd hx hb dLaw_340 ?_
  refine lv_topi (fun z16 ez16 => ?_)
  have tz16 := iv_add (Y := 2) ti (by decide) ez16 (by omega) (by omega)
  refine va_sld hx hb hX hbl hbA hW.2.2.2.2.2.2.2 (iv_in (X := (i : Int) + 2) (by omega) (by omega) (by omega)) dLaw_341 ?_
  rw [show z16.toNatClampNeg = i + 2 from by show z16.toInt.toNat = _; omega]
  refine lc_i (As := [.int (xs (i + 1)), .int (xs (i + 2))]) (rest := []) (n := 2) (d := 2) ⟨hx, hb, hml, hown, hts⟩ (c_X11_of l E D Gc xa nn hW.2.1 (xs (i + 1)) (xs (i + 2))) wd_451 wd_452 wd_453 wd_1 wd_454 (by decide +kernel) ⟨Nat.le_of_ble_eq_true rfl, Nat.le_of_ble_eq_true rfl⟩ hW hN hK rfl hl.1 rfl (Nat.le_of_ble_eq_true rfl) dLaw_342 ⟨by rw [hR1]; omega, by rw [hR2]; omega⟩ (fun r17 H locs hr17 hW => ?_)
  refine lv_pop hx hb dLaw_345 rfl ?_
  refine lv_aload_n hx hb dLaw_346 rfl (lv_at hl 1 rfl) ?_
  refine lv_aload_n hx hb dLaw_347 rfl (lv_at hl 3 rfl) ?_
  refine lv_iload_n hx hb dLaw_348 rfl (lv_at hl 0 rfl) ?_
  refine lv_iconst (v := 1) hx hb dLaw_349 (by decide) ?_
  refine lv_iadd hx hb dLaw_350 ?_
  refine lv_topi (fun z18 ez18 => ?_)
  have tz18 := iv_add (Y := 1) ti (by decide) ez18 (by omega) (by omega)
  refine va_sld hx hb hX hbl hbA hW.2.2.2.2.2.2.2 (iv_in (X := (i : Int) + 1) (by omega) (by omega) (by omega)) dLaw_351 ?_
  rw [show z18.toNatClampNeg = i + 1 from by show z18.toInt.toNat = _; omega]
  refine lv_aload_n hx hb dLaw_352 rfl (lv_at hl 3 rfl) ?_
  refine lv_iload_n hx hb dLaw_353 rfl (lv_at hl 0 rfl) ?_
  refine lv_iconst (v := 2) hx hb dLaw_354 (by decide) ?_
  refine lv_iadd hx hb dLaw_355 ?_
  refine lv_topi (fun z19 ez19 => ?_)
  have tz19 := iv_add (Y := 2) ti (by decide) ez19 (by omega) (by omega)
  refine va_sld hx hb hX hbl hbA hW.2.2.2.2.2.2.2 (iv_in (X := (i : Int) + 2) (by omega) (by omega) (by omega)) dLaw_356 ?_
  rw [show z19.toNatClampNeg = i + 2 from by show z19.toInt.toNat = _; omega]
  refine lm_i (post := fun _ => True) (As := [.int (xs (i + 1)), .int (xs (i + 2))]) (rest := []) (n := 2) (d := 1) ⟨hx, hb, hml, hown, hts⟩ (c_X12_of l E D Gm ma hW.2.2.2.1 (xs (i + 1)) (xs (i + 2))) wd_1417 wd_1418 wd_1419 wd_13 wd_1420 (by decide +kernel) ⟨Nat.le_of_ble_eq_true rfl, Nat.le_of_ble_eq_true rfl⟩ hW hN hK rfl hl.1 rfl (Nat.le_of_ble_eq_true rfl) dLaw_357 ⟨by rw [hR1]; omega, by rw [hR2]; omega⟩ (fun r20 H locs hr20 hW => ?_)
  refine lv_pop hx hb dLaw_360 rfl ?_
  refine lv_goto (tgt := 2004) hx hb dLaw_361 (by decide) ?_
  exact W.widen (k := cells + 18) (n := slots + 441) (by omega) (by omega) (kk _ _ _ _ _ X0 hW hT)
set_option maxHeartbeats 4000000 in
set_option maxRecDepth 100000 in
theorem law_c2 {p : Program} {e : Env} {s : State} {m : MethodId} {below : List Frame} {meth : Method} {c : Code} {l : Launch} {b L : Nat} {xs : Nat → Int32} (C0 : lw_At p s m meth c b L xs) {E : Nat → Nat} {D : va_G} {adK adV : Nat → Nat} (X0 : LCx E D adK adV s) {xa ma i : Nat} (hi : i + 7 ≤ L) (hL : L ≤ 3584) {Gc Gm : th_G} {nn : Nat} {H : Heap} {locs : List Loc} (hW : LWs E D s xa ma Gc Gm nn H locs) (hT : TI E Gc xa nn) (hU : UQ Gm 1 ∧ UQ Gm 2 ∧ UQ Gm 11 ∧ UQ Gm 4 ∧ UQ Gm 10) {cells slots : Nat} (hc1 : cells + 18 ≤ 600000) (hc2 : slots + 441 ≤ 7302250) {ls : Array Slot} (hl : lv_has ls 4 [(3, .int (nI i)), (2, .ref ma), (1, .ref xa), (0, .ref b)]) (kk : ∀ (E : Nat → Nat) (Gc : th_G) (nn : Nat) (H : Heap) (locs : List Loc), LCx E D adK adV s → LWs E D s xa ma Gc Gm nn H locs → TI E Gc xa nn → W p l e room_1 s m #[Value.ref b] below meth c H locs (cells + 18) (slots + 441) (lw_Z below #[Value.ref b] s) (F0 m 2004 ls [])) : W p l e room_1 s m #[Value.ref b] below meth c H locs cells slots (lw_Z below #[Value.ref b] s) (F0 m 364 ls []) := by
  obtain ⟨hx, hb, hr, hml, hown, hts0, hX, hbl, hlocks, hgv⟩ := id C0
  obtain ⟨hN, hK, hWS, hCL, hAO⟩ := id X0
  have hbA : ¬ LWa s b := Nat.not_le.mpr hbl
  have hts := lw_tb (w := Cond.initialized RX12) wd_13 hts0
  have hR1 : room_1.cells = 600000 := rfl
  have hR2 : room_1.slots = 7302250 := rfl
  have ti : (nI i).toInt = (i : Int) := nI_toInt (by omega)
  refine lv_aload_n hx hb dLaw_364 rfl (lv_at hl 2 rfl) ?_
  refine lv_aload_n hx hb dLaw_365 rfl (lv_at hl 3 rfl) ?_
  refine lv_iload_n hx hb dLaw_366 rfl (lv_at hl 0 rfl) ?_
  refine lv_iconst (v := 1) hx hb dLaw_367 (by decide) ?_
  refine lv_iadd hx hb dLaw_368 ?_
  refine lv_topi (fun z21 ez21 => ?_)
  have tz21 := iv_add (Y := 1) ti (by decide) ez21 (by omega) (by omega)
  refine va_sld hx hb hX hbl hbA hW.2.2.2.2.2.2.2 (iv_in (X := (i : Int) + 1) (by omega) (by omega) (by omega)) dLaw_369 ?_
  rw [show z21.toNatClampNeg = i + 1 from by show z21.toInt.toNat = _; omega]
  refine lv_aload_n hx hb dLaw_370 rfl (lv_at hl 3 rfl) ?_
  refine lv_iload_n hx hb dLaw_371 rfl (lv_at hl 0 rfl) ?_
  refine lv_iconst (v := 2) hx hb dLaw_372 (by decide) ?_
  refine lv_iadd hx hb dLaw_373 ?_
  refine lv_topi (fun z22 ez22 => ?_)
  have tz22 := iv_add (Y := 2) ti (by decide) ez22 (by omega) (by omega)
  refine va_sld hx hb hX hbl hbA hW.2.2.2.2.2.2.2 (iv_in (X := (i : Int) + 2) (by omega) (by omega) (by omega)) dLaw_374 ?_
  rw [show z22.toNatClampNeg = i + 2 from by show z22.toInt.toNat = _; omega]
  refine lv_aload_n hx hb dLaw_375 rfl (lv_at hl 3 rfl) ?_
  refine lv_iload_n hx hb dLaw_376 rfl (lv_at hl 0 rfl) ?_
  refine lv_iconst (v := 3) hx hb dLaw_377 (by decide) ?_
  refine lv_iadd hx hb dLaw_378 ?_
  refine lv_topi (fun z23 ez23 => ?_)
  have tz23 := iv_add (Y := 3) ti (by decide) ez23 (by omega) (by omega)
  refine va_sld hx hb hX hbl hbA hW.2.2.2.2.2.2.2 (iv_in (X := (i : Int) + 3) (by omega) (by omega) (by omega)) dLaw_379 ?_
  rw [show z23.toNatClampNeg = i + 3 from by show z23.toInt.toNat = _; omega]
  refine lc_i (As := [.int (xs (i + 1)), .int (xs (i + 2)), .int (xs (i + 3))]) (rest := []) (n := 3) (d := 3) ⟨hx, hb, hml, hown, hts⟩ (c_X11_strike l E D Gc xa nn hW.2.1 (xs (i + 1)) (xs (i + 2)) (xs (i + 3))) wd_459 wd_460 wd_461 wd_1 wd_462 (by decide +kernel) ⟨Nat.le_of_ble_eq_true rfl, Nat.le_of_ble_eq_true rfl⟩ hW hN hK rfl hl.1 rfl (Nat.le_of_ble_eq_true rfl) dLaw_380 ⟨by rw [hR1]; omega, by rw [hR2]; omega⟩ (fun r24 H locs hr24 hW => ?_)
  refine lv_pop hx hb dLaw_383 rfl ?_
  refine lv_aload_n hx hb dLaw_384 rfl (lv_at hl 1 rfl) ?_
  refine lv_aload_n hx hb dLaw_385 rfl (lv_at hl 3 rfl) ?_
  refine lv_iload_n hx hb dLaw_386 rfl (lv_at hl 0 rfl) ?_
  refine lv_iconst (v := 1) hx hb dLaw_387 (by decide) ?_
  refine lv_iadd hx hb dLaw_388 ?_
  refine lv_topi (fun z25 ez25 => ?_)
  have tz25 := iv_add (Y := 1) ti (by decide) ez25 (by omega) (by omega)
  refine va_sld hx hb hX hbl hbA hW.2.2.2.2.2.2.2 (iv_in (X := (i : Int) + 1) (by omega) (by omega) (by omega)) dLaw_389 ?_
  rw [show z25.toNatClampNeg = i + 1 from by show z25.toInt.toNat = _; omega]
  refine lv_aload_n hx hb dLaw_390 rfl (lv_at hl 3 rfl) ?_
  refine lv_iload_n hx hb dLaw_391 rfl (lv_at hl 0 rfl) ?_
  refine lv_iconst (v := 2) hx hb dLaw_392 (by decide) ?_
  refine lv_iadd hx hb dLaw_393 ?_
  refine lv_topi (fun z26 ez26 => ?_)
  have tz26 := iv_add (Y := 2) ti (by decide) ez26 (by omega) (by omega)
  refine va_sld hx hb hX hbl hbA hW.2.2.2.2.2.2.2 (iv_in (X := (i : Int) + 2) (by omega) (by omega) (by omega)) dLaw_394 ?_
  rw [show z26.toNatClampNeg = i + 2 from by show z26.toInt.toNat = _; omega]
  refine lv_aload_n hx hb dLaw_395 rfl (lv_at hl 3 rfl) ?_
  refine lv_iload_n hx hb dLaw_396 rfl (lv_at hl 0 rfl) ?_
  refine lv_iconst (v := 3) hx hb dLaw_397 (by decide) ?_
  refine lv_iadd hx hb dLaw_398 ?_
  refine lv_topi (fun z27 ez27 => ?_)
  have tz27 := iv_add (Y := 3) ti (by decide) ez27 (by omega) (by omega)
  refine va_sld hx hb hX hbl hbA hW.2.2.2.2.2.2.2 (iv_in (X := (i : Int) + 3) (by omega) (by omega) (by omega)) dLaw_399 ?_
  rw [show z27.toNatClampNeg = i + 3 from by show z27.toInt.toNat = _; omega]
  refine lm_i (post := fun _ => True) (As := [.int (xs (i + 1)), .int (xs (i + 2)), .int (xs (i + 3))]) (rest := []) (n := 3) (d := 3) ⟨hx, hb, hml, hown, hts⟩ (c_X12_strike l E D Gm ma hW.2.2.2.1 (xs (i + 1)) (xs (i + 2)) (xs (i + 3))) wd_1421 wd_1422 wd_1423 wd_13 wd_1424 (by decide +kernel) ⟨Nat.le_of_ble_eq_true rfl, Nat.le_of_ble_eq_true rfl⟩ hW hN hK rfl hl.1 rfl (Nat.le_of_ble_eq_true rfl) dLaw_400 ⟨by rw [hR1]; omega, by rw [hR2]; omega⟩ (fun r28 H locs hr28 hW => ?_)
  refine lv_pop hx hb dLaw_403 rfl ?_
  refine lv_goto (tgt := 2004) hx hb dLaw_404 (by decide) ?_
  exact W.widen (k := cells + 18) (n := slots + 441) (by omega) (by omega) (kk _ _ _ _ _ X0 hW hT)
set_option maxHeartbeats 4000000 in
set_option maxRecDepth 100000 in
theorem law_c3 {p : Program} {e : Env} {s : State} {m : MethodId} {below : List Frame} {meth : Method} {c : Code} {l : Launch} {b L : Nat} {xs : Nat → Int32} (C0 : lw_At p s m meth c b L xs) {E : Nat → Nat} {D : va_G} {adK adV : Nat → Nat} (X0 : LCx E D adK adV s) {xa ma i : Nat} (hi : i + 7 ≤ L) (hL : L ≤ 3584) {Gc Gm : th_G} {nn : Nat} {H : Heap} {locs : List Loc} (hW : LWs E D s xa ma Gc Gm nn H locs) (hT : TI E Gc xa nn) (hU : UQ Gm 1 ∧ UQ Gm 2 ∧ UQ Gm 11 ∧ UQ Gm 4 ∧ UQ Gm 10) {cells slots : Nat} (hc1 : cells + 18 ≤ 600000) (hc2 : slots + 441 ≤ 7302250) {ls : Array Slot} (hl : lv_has ls 4 [(3, .int (nI i)), (2, .ref ma), (1, .ref xa), (0, .ref b)]) (kk : ∀ (E : Nat → Nat) (Gc : th_G) (nn : Nat) (H : Heap) (locs : List Loc), LCx E D adK adV s → LWs E D s xa ma Gc Gm nn H locs → TI E Gc xa nn → W p l e room_1 s m #[Value.ref b] below meth c H locs (cells + 18) (slots + 441) (lw_Z below #[Value.ref b] s) (F0 m 2004 ls [])) : W p l e room_1 s m #[Value.ref b] below meth c H locs cells slots (lw_Z below #[Value.ref b] s) (F0 m 407 ls []) := by
  obtain ⟨hx, hb, hr, hml, hown, hts0, hX, hbl, hlocks, hgv⟩ := id C0
  obtain ⟨hN, hK, hWS, hCL, hAO⟩ := id X0
  have hbA : ¬ LWa s b := Nat.not_le.mpr hbl
  have hts := lw_tb (w := Cond.initialized RX12) wd_13 hts0
  have hR1 : room_1.cells = 600000 := rfl
  have hR2 : room_1.slots = 7302250 := rfl
  have ti : (nI i).toInt = (i : Int) := nI_toInt (by omega)
  refine lv_aload_n hx hb dLaw_407 rfl (lv_at hl 2 rfl) ?_
  refine lv_aload_n hx hb dLaw_408 rfl (lv_at hl 3 rfl) ?_
  refine lv_iload_n hx hb dLaw_409 rfl (lv_at hl 0 rfl) ?_
  refine lv_iconst (v := 1) hx hb dLaw_410 (by decide) ?_
  refine lv_iadd hx hb dLaw_411 ?_
  refine lv_topi (fun z29 ez29 => ?_)
  have tz29 := iv_add (Y := 1) ti (by decide) ez29 (by omega) (by omega)
  refine va_sld hx hb hX hbl hbA hW.2.2.2.2.2.2.2 (iv_in (X := (i : Int) + 1) (by omega) (by omega) (by omega)) dLaw_412 ?_
  rw [show z29.toNatClampNeg = i + 1 from by show z29.toInt.toNat = _; omega]
  refine lv_aload_n hx hb dLaw_413 rfl (lv_at hl 3 rfl) ?_
  refine lv_iload_n hx hb dLaw_414 rfl (lv_at hl 0 rfl) ?_
  refine lv_iconst (v := 2) hx hb dLaw_415 (by decide) ?_
  refine lv_iadd hx hb dLaw_416 ?_
  refine lv_topi (fun z30 ez30 => ?_)
  have tz30 := iv_add (Y := 2) ti (by decide) ez30 (by omega) (by omega)
  refine va_sld hx hb hX hbl hbA hW.2.2.2.2.2.2.2 (iv_in (X := (i : Int) + 2) (by omega) (by omega) (by omega)) dLaw_417 ?_
  rw [show z30.toNatClampNeg = i + 2 from by show z30.toInt.toNat = _; omega]
  refine lv_aload_n hx hb dLaw_418 rfl (lv_at hl 3 rfl) ?_
  refine lv_iload_n hx hb dLaw_419 rfl (lv_at hl 0 rfl) ?_
  refine lv_iconst (v := 3) hx hb dLaw_420 (by decide) ?_
  refine lv_iadd hx hb dLaw_421 ?_
  refine lv_topi (fun z31 ez31 => ?_)
  have tz31 := iv_add (Y := 3) ti (by decide) ez31 (by omega) (by omega)
  refine va_sld hx hb hX hbl hbA hW.2.2.2.2.2.2.2 (iv_in (X := (i : Int) + 3) (by omega) (by omega) (by omega)) dLaw_422 ?_
  rw [show z31.toNatClampNeg = i + 3 from by show z31.toInt.toNat = _; omega]
  refine lc_i (As := [.int (xs (i + 1)), .int (xs (i + 2)), .int (xs (i + 3))]) (rest := []) (n := 3) (d := 3) ⟨hx, hb, hml, hown, hts⟩ (c_X11_gate l E D Gc xa nn hW.2.1 (xs (i + 1)) (xs (i + 2)) (xs (i + 3))) wd_477 wd_478 wd_479 wd_1 wd_480 (by decide +kernel) ⟨Nat.le_of_ble_eq_true rfl, Nat.le_of_ble_eq_true rfl⟩ hW hN hK rfl hl.1 rfl (Nat.le_of_ble_eq_true rfl) dLaw_423 ⟨by rw [hR1]; omega, by rw [hR2]; omega⟩ (fun r32 H locs hr32 hW => ?_)
  refine lv_pop hx hb dLaw_426 rfl ?_
  refine lv_aload_n hx hb dLaw_427 rfl (lv_at hl 1 rfl) ?_
  refine lv_aload_n hx hb dLaw_428 rfl (lv_at hl 3 rfl) ?_
  refine lv_iload_n hx hb dLaw_429 rfl (lv_at hl 0 rfl) ?_
  refine lv_iconst (v := 1) hx hb dLaw_430 (by decide) ?_
  refine lv_iadd hx hb dLaw_431 ?_
  refine lv_topi (fun z33 ez33 => ?_)
  have tz33 := iv_add (Y := 1) ti (by decide) ez33 (by omega) (by omega)
  refine va_sld hx hb hX hbl hbA hW.2.2.2.2.2.2.2 (iv_in (X := (i : Int) + 1) (by omega) (by omega) (by omega)) dLaw_432 ?_
  rw [show z33.toNatClampNeg = i + 1 from by show z33.toInt.toNat = _; omega]
  refine lv_aload_n hx hb dLaw_433 rfl (lv_at hl 3 rfl) ?_
  refine lv_iload_n hx hb dLaw_434 rfl (lv_at hl 0 rfl) ?_
  refine lv_iconst (v := 2) hx hb dLaw_435 (by decide) ?_
  refine lv_iadd hx hb dLaw_436 ?_
  refine lv_topi (fun z34 ez34 => ?_)
  have tz34 := iv_add (Y := 2) ti (by decide) ez34 (by omega) (by omega)
  refine va_sld hx hb hX hbl hbA hW.2.2.2.2.2.2.2 (iv_in (X := (i : Int) + 2) (by omega) (by omega) (by omega)) dLaw_437 ?_
  rw [show z34.toNatClampNeg = i + 2 from by show z34.toInt.toNat = _; omega]
  refine lv_aload_n hx hb dLaw_438 rfl (lv_at hl 3 rfl) ?_
  refine lv_iload_n hx hb dLaw_439 rfl (lv_at hl 0 rfl) ?_
  refine lv_iconst (v := 3) hx hb dLaw_440 (by decide) ?_
  refine lv_iadd hx hb dLaw_441 ?_
  refine lv_topi (fun z35 ez35 => ?_)
  have tz35 := iv_add (Y := 3) ti (by decide) ez35 (by omega) (by omega)
  refine va_sld hx hb hX hbl hbA hW.2.2.2.2.2.2.2 (iv_in (X := (i : Int) + 3) (by omega) (by omega) (by omega)) dLaw_442 ?_
  rw [show z35.toNatClampNeg = i + 3 from by show z35.toInt.toNat = _; omega]
  refine lm_i (post := fun _ => True) (As := [.int (xs (i + 1)), .int (xs (i + 2)), .int (xs (i + 3))]) (rest := []) (n := 3) (d := 3) ⟨hx, hb, hml, hown, hts⟩ (c_X12_gate l E D Gm ma hW.2.2.2.1 (xs (i + 1)) (xs (i + 2)) (xs (i + 3))) wd_1431 wd_1432 wd_1433 wd_13 wd_1434 (by decide +kernel) ⟨Nat.le_of_ble_eq_true rfl, Nat.le_of_ble_eq_true rfl⟩ hW hN hK rfl hl.1 rfl (Nat.le_of_ble_eq_true rfl) dLaw_443 ⟨by rw [hR1]; omega, by rw [hR2]; omega⟩ (fun r36 H locs hr36 hW => ?_)
  refine lv_pop hx hb dLaw_446 rfl ?_
  refine lv_goto (tgt := 2004) hx hb dLaw_447 (by decide) ?_
  exact W.widen (k := cells + 18) (n := slots + 441) (by omega) (by omega) (kk _ _ _ _ _ X0 hW hT)
set_option maxHeartbeats 4000000 in
set_option maxRecDepth 100000 in
theorem law_c4 {p : Program} {e : Env} {s : State} {m : MethodId} {below : List Frame} {meth : Method} {c : Code} {l : Launch} {b L : Nat} {xs : Nat → Int32} (C0 : lw_At p s m meth c b L xs) {E : Nat → Nat} {D : va_G} {adK adV : Nat → Nat} (X0 : LCx E D adK adV s) {xa ma i : Nat} (hi : i + 7 ≤ L) (hL : L ≤ 3584) {Gc Gm : th_G} {nn : Nat} {H : Heap} {locs : List Loc} (hW : LWs E D s xa ma Gc Gm nn H locs) (hT : TI E Gc xa nn) (hU : UQ Gm 1 ∧ UQ Gm 2 ∧ UQ Gm 11 ∧ UQ Gm 4 ∧ UQ Gm 10) {cells slots : Nat} (hc1 : cells + 18 ≤ 600000) (hc2 : slots + 441 ≤ 7302250) {ls : Array Slot} (hl : lv_has ls 4 [(3, .int (nI i)), (2, .ref ma), (1, .ref xa), (0, .ref b)]) (kk : ∀ (E : Nat → Nat) (Gc : th_G) (nn : Nat) (H : Heap) (locs : List Loc), LCx E D adK adV s → LWs E D s xa ma Gc Gm nn H locs → TI E Gc xa nn → W p l e room_1 s m #[Value.ref b] below meth c H locs (cells + 18) (slots + 441) (lw_Z below #[Value.ref b] s) (F0 m 2004 ls [])) : W p l e room_1 s m #[Value.ref b] below meth c H locs cells slots (lw_Z below #[Value.ref b] s) (F0 m 450 ls []) := by
  obtain ⟨hx, hb, hr, hml, hown, hts0, hX, hbl, hlocks, hgv⟩ := id C0
  obtain ⟨hN, hK, hWS, hCL, hAO⟩ := id X0
  have hbA : ¬ LWa s b := Nat.not_le.mpr hbl
  have hts := lw_tb (w := Cond.initialized RX12) wd_13 hts0
  have hR1 : room_1.cells = 600000 := rfl
  have hR2 : room_1.slots = 7302250 := rfl
  have ti : (nI i).toInt = (i : Int) := nI_toInt (by omega)
  refine lv_aload_n hx hb dLaw_450 rfl (lv_at hl 2 rfl) ?_
  refine lv_aload_n hx hb dLaw_451 rfl (lv_at hl 3 rfl) ?_
  refine lv_iload_n hx hb dLaw_452 rfl (lv_at hl 0 rfl) ?_
  refine lv_iconst (v := 1) hx hb dLaw_453 (by decide) ?_
  refine lv_iadd hx hb dLaw_454 ?_
  refine lv_topi (fun z37 ez37 => ?_)
  have tz37 := iv_add (Y := 1) ti (by decide) ez37 (by omega) (by omega)
  refine va_sld hx hb hX hbl hbA hW.2.2.2.2.2.2.2 (iv_in (X := (i : Int) + 1) (by omega) (by omega) (by omega)) dLaw_455 ?_
  rw [show z37.toNatClampNeg = i + 1 from by show z37.toInt.toNat = _; omega]
  refine lc_i (As := [.int (xs (i + 1))]) (rest := []) (n := 1) (d := 3) ⟨hx, hb, hml, hown, hts⟩ (c_X11_open l E D Gc xa nn hW.2.1 (xs (i + 1))) wd_490 wd_491 wd_492 wd_1 wd_493 (by decide +kernel) ⟨Nat.le_of_ble_eq_true rfl, Nat.le_of_ble_eq_true rfl⟩ hW hN hK rfl hl.1 rfl (Nat.le_of_ble_eq_true rfl) dLaw_456 ⟨by rw [hR1]; omega, by rw [hR2]; omega⟩ (fun r38 H locs hr38 hW => ?_)
  refine lv_pop hx hb dLaw_459 rfl ?_
  refine lv_aload_n hx hb dLaw_460 rfl (lv_at hl 1 rfl) ?_
  refine lv_aload_n hx hb dLaw_461 rfl (lv_at hl 3 rfl) ?_
  refine lv_iload_n hx hb dLaw_462 rfl (lv_at hl 0 rfl) ?_
  refine lv_iconst (v := 1) hx hb dLaw_463 (by decide) ?_
  refine lv_iadd hx hb dLaw_464 ?_
  refine lv_topi (fun z39 ez39 => ?_)
  have tz39 := iv_add (Y := 1) ti (by decide) ez39 (by omega) (by omega)
  refine va_sld hx hb hX hbl hbA hW.2.2.2.2.2.2.2 (iv_in (X := (i : Int) + 1) (by omega) (by omega) (by omega)) dLaw_465 ?_
  rw [show z39.toNatClampNeg = i + 1 from by show z39.toInt.toNat = _; omega]
  refine lm_i (post := fun _ => True) (As := [.int (xs (i + 1))]) (rest := []) (n := 1) (d := 1) ⟨hx, hb, hml, hown, hts⟩ (c_X12_open l E D Gm ma hW.2.2.2.1 (xs (i + 1))) wd_1439 wd_1440 wd_1441 wd_13 wd_1442 (by decide +kernel) ⟨Nat.le_of_ble_eq_true rfl, Nat.le_of_ble_eq_true rfl⟩ hW hN hK rfl hl.1 rfl (Nat.le_of_ble_eq_true rfl) dLaw_466 ⟨by rw [hR1]; omega, by rw [hR2]; omega⟩ (fun r40 H locs hr40 hW => ?_)
  refine lv_pop hx hb dLaw_469 rfl ?_
  refine lv_goto (tgt := 2004) hx hb dLaw_470 (by decide) ?_
  exact W.widen (k := cells + 18) (n := slots + 441) (by omega) (by omega) (kk _ _ _ _ _ X0 hW hT)
