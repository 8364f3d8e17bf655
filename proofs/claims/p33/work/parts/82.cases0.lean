set_option maxHeartbeats 4000000 in
set_option maxRecDepth 100000 in
theorem law_c0 {p : Program} {e : Env} {s : State} {m : MethodId} {below : List Frame} {meth : Method} {c : Code} {l : Launch} {b L : Nat} {xs : Nat → Int32} (C0 : lw_At p s m meth c b L xs) {E : Nat → Nat} {D : va_G} {adK adV : Nat → Nat} (X0 : LCx E D adK adV s) {xa ma i : Nat} (hi : i + 7 ≤ L) (hL : L ≤ 3584) {Gc Gm : th_G} {nn : Nat} {H : Heap} {locs : List Loc} (hW : LWs E D s xa ma Gc Gm nn H locs) (hT : TI E Gc xa nn) (hU : UQ Gm 1 ∧ UQ Gm 2 ∧ UQ Gm 11) {cells slots : Nat} (hc1 : cells + 18 ≤ 600000) (hc2 : slots + 441 ≤ 7302250) {ls : Array Slot} (hl : lv_has ls 4 [(3, .int (nI i)), (2, .ref ma), (1, .ref xa), (0, .ref b)]) (kk : ∀ (E : Nat → Nat) (Gc : th_G) (nn : Nat) (H : Heap) (locs : List Loc), LCx E D adK adV s → LWs E D s xa ma Gc Gm nn H locs → TI E Gc xa nn → W p l e room_1 s m #[Value.ref b] below meth c H locs (cells + 18) (slots + 441) (lw_Z below #[Value.ref b] s) (F0 m 2004 ls [])) : W p l e room_1 s m #[Value.ref b] below meth c H locs cells slots (lw_Z below #[Value.ref b] s) (F0 m 256 ls []) := by
  obtain ⟨hx, hb, hr, hml, hown, hts0, hX, hbl, hlocks, hgv⟩ := id C0
  obtain ⟨hN, hK, hWS, hCL, hAO⟩ := id X0
  have hbA : ¬ LWa s b := Nat.not_le.mpr hbl
  have hts := lw_tb (w := Cond.initialized RX12) wd_13 hts0
  have hR1 : room_1.cells = 600000 := rfl
  have hR2 : room_1.slots = 7302250 := rfl
  have ti : (nI i).toInt = (i : Int) := nI_toInt (by omega)
  refine lv_aload_n hx hb dLaw_256 rfl (lv_at hl 2 rfl) ?_
  refine lv_aload_n hx hb dLaw_257 rfl (lv_at hl 3 rfl) ?_
  refine lv_iload_n hx hb dLaw_258 rfl (lv_at hl 0 rfl) ?_
  refine lv_iconst (v := 1) hx hb dLaw_259 (by decide) ?_
  refine lv_iadd hx hb dLaw_260 ?_
  refine lv_topi (fun z1 ez1 => ?_)
  have tz1 := iv_add (Y := 1) ti (by decide) ez1 (by omega) (by omega)
  refine va_sld hx hb hX hbl hbA hW.2.2.2.2.2.2.2 (iv_in (X := (i : Int) + 1) (by omega) (by omega) (by omega)) dLaw_261 ?_
  rw [show z1.toNatClampNeg = i + 1 from by show z1.toInt.toNat = _; omega]
  refine lv_aload_n hx hb dLaw_262 rfl (lv_at hl 3 rfl) ?_
  refine lv_iload_n hx hb dLaw_263 rfl (lv_at hl 0 rfl) ?_
  refine lv_iconst (v := 2) hx hb dLaw_264 (by decide) ?_
  refine lv_iadd hx hb dLaw_265 ?_
  refine lv_topi (fun z2 ez2 => ?_)
  have tz2 := iv_add (Y := 2) ti (by decide) ez2 (by omega) (by omega)
  refine va_sld hx hb hX hbl hbA hW.2.2.2.2.2.2.2 (iv_in (X := (i : Int) + 2) (by omega) (by omega) (by omega)) dLaw_266 ?_
  rw [show z2.toNatClampNeg = i + 2 from by show z2.toInt.toNat = _; omega]
  refine lv_aload_n hx hb dLaw_267 rfl (lv_at hl 3 rfl) ?_
  refine lv_iload_n hx hb dLaw_268 rfl (lv_at hl 0 rfl) ?_
  refine lv_iconst (v := 3) hx hb dLaw_269 (by decide) ?_
  refine lv_iadd hx hb dLaw_270 ?_
  refine lv_topi (fun z3 ez3 => ?_)
  have tz3 := iv_add (Y := 3) ti (by decide) ez3 (by omega) (by omega)
  refine va_sld hx hb hX hbl hbA hW.2.2.2.2.2.2.2 (iv_in (X := (i : Int) + 3) (by omega) (by omega) (by omega)) dLaw_271 ?_
  rw [show z3.toNatClampNeg = i + 3 from by show z3.toInt.toNat = _; omega]
  refine lv_aload_n hx hb dLaw_272 rfl (lv_at hl 3 rfl) ?_
  refine lv_iload_n hx hb dLaw_273 rfl (lv_at hl 0 rfl) ?_
  refine lv_iconst (v := 4) hx hb dLaw_274 (by decide) ?_
  refine lv_iadd hx hb dLaw_275 ?_
  refine lv_topi (fun z4 ez4 => ?_)
  have tz4 := iv_add (Y := 4) ti (by decide) ez4 (by omega) (by omega)
  refine va_sld hx hb hX hbl hbA hW.2.2.2.2.2.2.2 (iv_in (X := (i : Int) + 4) (by omega) (by omega) (by omega)) dLaw_276 ?_
  rw [show z4.toNatClampNeg = i + 4 from by show z4.toInt.toNat = _; omega]
  refine lv_aload_n hx hb dLaw_277 rfl (lv_at hl 3 rfl) ?_
  refine lv_iload_n hx hb dLaw_278 rfl (lv_at hl 0 rfl) ?_
  refine lv_iconst (v := 5) hx hb dLaw_279 (by decide) ?_
  refine lv_iadd hx hb dLaw_280 ?_
  refine lv_topi (fun z5 ez5 => ?_)
  have tz5 := iv_add (Y := 5) ti (by decide) ez5 (by omega) (by omega)
  refine va_sld hx hb hX hbl hbA hW.2.2.2.2.2.2.2 (iv_in (X := (i : Int) + 5) (by omega) (by omega) (by omega)) dLaw_281 ?_
  rw [show z5.toNatClampNeg = i + 5 from by show z5.toInt.toNat = _; omega]
  refine lv_aload_n hx hb dLaw_282 rfl (lv_at hl 3 rfl) ?_
  refine lv_iload_n hx hb dLaw_283 rfl (lv_at hl 0 rfl) ?_
  refine lv_bipush (v := 6) hx hb dLaw_284 (by decide) ?_
  refine lv_iadd hx hb dLaw_286 ?_
  refine lv_topi (fun z6 ez6 => ?_)
  have tz6 := iv_add (Y := 6) ti (by decide) ez6 (by omega) (by omega)
  refine va_sld hx hb hX hbl hbA hW.2.2.2.2.2.2.2 (iv_in (X := (i : Int) + 6) (by omega) (by omega) (by omega)) dLaw_287 ?_
  rw [show z6.toNatClampNeg = i + 6 from by show z6.toInt.toNat = _; omega]
  refine lc_i (As := [.int (xs (i + 1)), .int (xs (i + 2)), .int (xs (i + 3)), .int (xs (i + 4)), .int (xs (i + 5)), .int (xs (i + 6))]) (rest := []) (n := 6) (d := 3) ⟨hx, hb, hml, hown, hts⟩ (c_X11_pump l E D Gc xa nn hW.2.1 (xs (i + 1)) (xs (i + 2)) (xs (i + 3)) (xs (i + 4)) (xs (i + 5)) (xs (i + 6))) wd_397 wd_398 wd_399 wd_1 wd_400 (by decide +kernel) ⟨Nat.le_of_ble_eq_true rfl, Nat.le_of_ble_eq_true rfl⟩ hW hN hK rfl hl.1 rfl (Nat.le_of_ble_eq_true rfl) dLaw_288 ⟨by rw [hR1]; omega, by rw [hR2]; omega⟩ (fun r7 H locs hr7 hW => ?_)
  refine lv_pop hx hb dLaw_291 rfl ?_
  refine lv_aload_n hx hb dLaw_292 rfl (lv_at hl 1 rfl) ?_
  refine lv_aload_n hx hb dLaw_293 rfl (lv_at hl 3 rfl) ?_
  refine lv_iload_n hx hb dLaw_294 rfl (lv_at hl 0 rfl) ?_
  refine lv_iconst (v := 1) hx hb dLaw_295 (by decide) ?_
  refine lv_iadd hx hb dLaw_296 ?_
  refine lv_topi (fun z8 ez8 => ?_)
  have tz8 := iv_add (Y := 1) ti (by decide) ez8 (by omega) (by omega)
  refine va_sld hx hb hX hbl hbA hW.2.2.2.2.2.2.2 (iv_in (X := (i : Int) + 1) (by omega) (by omega) (by omega)) dLaw_297 ?_
  rw [show z8.toNatClampNeg = i + 1 from by show z8.toInt.toNat = _; omega]
  refine lv_aload_n hx hb dLaw_298 rfl (lv_at hl 3 rfl) ?_
  refine lv_iload_n hx hb dLaw_299 rfl (lv_at hl 0 rfl) ?_
  refine lv_iconst (v := 2) hx hb dLaw_300 (by decide) ?_
  refine lv_iadd hx hb dLaw_301 ?_
  refine lv_topi (fun z9 ez9 => ?_)
  have tz9 := iv_add (Y := 2) ti (by decide) ez9 (by omega) (by omega)
  refine va_sld hx hb hX hbl hbA hW.2.2.2.2.2.2.2 (iv_in (X := (i : Int) + 2) (by omega) (by omega) (by omega)) dLaw_302 ?_
  rw [show z9.toNatClampNeg = i + 2 from by show z9.toInt.toNat = _; omega]
  refine lv_aload_n hx hb dLaw_303 rfl (lv_at hl 3 rfl) ?_
  refine lv_iload_n hx hb dLaw_304 rfl (lv_at hl 0 rfl) ?_
  refine lv_iconst (v := 3) hx hb dLaw_305 (by decide) ?_
  refine lv_iadd hx hb dLaw_306 ?_
  refine lv_topi (fun z10 ez10 => ?_)
  have tz10 := iv_add (Y := 3) ti (by decide) ez10 (by omega) (by omega)
  refine va_sld hx hb hX hbl hbA hW.2.2.2.2.2.2.2 (iv_in (X := (i : Int) + 3) (by omega) (by omega) (by omega)) dLaw_307 ?_
  rw [show z10.toNatClampNeg = i + 3 from by show z10.toInt.toNat = _; omega]
  refine lv_aload_n hx hb dLaw_308 rfl (lv_at hl 3 rfl) ?_
  refine lv_iload_n hx hb dLaw_309 rfl (lv_at hl 0 rfl) ?_
  refine lv_iconst (v := 4) hx hb dLaw_310 (by decide) ?_
  refine lv_iadd hx hb dLaw_311 ?_
  refine lv_topi (fun z11 ez11 => ?_)
  have tz11 := iv_add (Y := 4) ti (by decide) ez11 (by omega) (by omega)
  refine va_sld hx hb hX hbl hbA hW.2.2.2.2.2.2.2 (iv_in (X := (i : Int) + 4) (by omega) (by omega) (by omega)) dLaw_312 ?_
  rw [show z11.toNatClampNeg = i + 4 from by show z11.toInt.toNat = _; omega]
  refine lv_aload_n hx hb dLaw_313 rfl (lv_at hl 3 rfl) ?_
  refine lv_iload_n hx hb dLaw_314 rfl (lv_at hl 0 rfl) ?_
  refine lv_iconst (v := 5) hx hb dLaw_315 (by decide) ?_
  refine lv_iadd hx hb dLaw_316 ?_
  refine lv_topi (fun z12 ez12 => ?_)
  have tz12 := iv_add (Y := 5) ti (by decide) ez12 (by omega) (by omega)
  refine va_sld hx hb hX hbl hbA hW.2.2.2.2.2.2.2 (iv_in (X := (i : Int) + 5) (by omega) (by omega) (by omega)) dLaw_317 ?_
  rw [show z12.toNatClampNeg = i + 5 from by show z12.toInt.toNat = _; omega]
  refine lv_aload_n hx hb dLaw_318 rfl (lv_at hl 3 rfl) ?_
  refine lv_iload_n hx hb dLaw_319 rfl (lv_at hl 0 rfl) ?_
  refine lv_bipush (v := 6) hx hb dLaw_320 (by decide) ?_
  refine lv_iadd hx hb dLaw_322 ?_
  refine lv_topi (fun z13 ez13 => ?_)
  have tz13 := iv_add (Y := 6) ti (by decide) ez13 (by omega) (by omega)
  refine va_sld hx hb hX hbl hbA hW.2.2.2.2.2.2.2 (iv_in (X := (i : Int) + 6) (by omega) (by omega) (by omega)) dLaw_323 ?_
  rw [show z13.toNatClampNeg = i + 6 from by show z13.toInt.toNat = _; omega]
  refine lm_i (As := [.int (xs (i + 1)), .int (xs (i + 2)), .int (xs (i + 3)), .int (xs (i + 4)), .int (xs (i + 5)), .int (xs (i + 6))]) (rest := []) (n := 6) (d := 2) ⟨hx, hb, hml, hown, hts⟩ (c_X12_pump l E D Gm ma hW.2.2.2.1 (xs (i + 1)) (xs (i + 2)) (xs (i + 3)) (xs (i + 4)) (xs (i + 5)) (xs (i + 6))) wd_1410 wd_1411 wd_1412 wd_13 wd_1413 (by decide +kernel) ⟨Nat.le_of_ble_eq_true rfl, Nat.le_of_ble_eq_true rfl⟩ hW hN hK rfl hl.1 rfl (Nat.le_of_ble_eq_true rfl) dLaw_324 ⟨by rw [hR1]; omega, by rw [hR2]; omega⟩ (fun r14 H locs hr14 hW => ?_)
  refine lv_pop hx hb dLaw_327 rfl ?_
  refine lv_goto (tgt := 2004) hx hb dLaw_328 (by decide) ?_
  exact W.widen (k := cells + 18) (n := slots + 441) (by omega) (by omega) (kk _ _ _ _ _ X0 hW hT)
set_option maxHeartbeats 4000000 in
set_option maxRecDepth 100000 in
theorem law_c1 {p : Program} {e : Env} {s : State} {m : MethodId} {below : List Frame} {meth : Method} {c : Code} {l : Launch} {b L : Nat} {xs : Nat → Int32} (C0 : lw_At p s m meth c b L xs) {E : Nat → Nat} {D : va_G} {adK adV : Nat → Nat} (X0 : LCx E D adK adV s) {xa ma i : Nat} (hi : i + 7 ≤ L) (hL : L ≤ 3584) {Gc Gm : th_G} {nn : Nat} {H : Heap} {locs : List Loc} (hW : LWs E D s xa ma Gc Gm nn H locs) (hT : TI E Gc xa nn) (hU : UQ Gm 1 ∧ UQ Gm 2 ∧ UQ Gm 11) {cells slots : Nat} (hc1 : cells + 18 ≤ 600000) (hc2 : slots + 441 ≤ 7302250) {ls : Array Slot} (hl : lv_has ls 4 [(3, .int (nI i)), (2, .ref ma), (1, .ref xa), (0, .ref b)]) (kk : ∀ (E : Nat → Nat) (Gc : th_G) (nn : Nat) (H : Heap) (locs : List Loc), LCx E D adK adV s → LWs E D s xa ma Gc Gm nn H locs → TI E Gc xa nn → W p l e room_1 s m #[Value.ref b] below meth c H locs (cells + 18) (slots + 441) (lw_Z below #[Value.ref b] s) (F0 m 2004 ls [])) : W p l e room_1 s m #[Value.ref b] below meth c H locs cells slots (lw_Z below #[Value.ref b] s) (F0 m 331 ls []) := by
  obtain ⟨hx, hb, hr, hml, hown, hts0, hX, hbl, hlocks, hgv⟩ := id C0
  obtain ⟨hN, hK, hWS, hCL, hAO⟩ := id X0
  have hbA : ¬ LWa s b := Nat.not_le.mpr hbl
  have hts := lw_tb (w := Cond.initialized RX12) wd_13 hts0
  have hR1 : room_1.cells = 600000 := rfl
  have hR2 : room_1.slots = 7302250 := rfl
  have ti : (nI i).toInt = (i : Int) := nI_toInt (by omega)
  refine lv_aload_n hx hb dLaw_331 rfl (lv_at hl 2 rfl) ?_
  refine lv_aload_n hx hb dLaw_332 rfl (lv_at hl 3 rfl) ?_
  refine lv_iload_n hx hb dLaw_333 rfl (lv_at hl 0 rfl) ?_
  refine lv_iconst (v := 1) hx hb dLaw_334 (by decide) ?_
  refine lv_iadd hx hb dLaw_335 ?_
  refine lv_topi (fun z15 ez15 => ?_)
  have tz15 := iv_add (Y := 1) ti (by decide) ez15 (by omega) (by omega)
  refine va_sld hx hb hX hbl hbA hW.2.2.2.2.2.2.2 (iv_in (X := (i : Int) + 1) (by omega) (by omega) (by omega)) dLaw_336 ?_
  rw [show z15.toNatClampNeg = i + 1 from by show z15.toInt.toNat = _; omega]
  refine lv_aload_n hx hb dLaw_337 rfl (lv_at hl 3 rfl) ?_
  refine lv_iload_n hx hb dLaw_338 rfl (lv_at hl 0 rfl) ?_
  refine lv_iconst (v := 2) hx hb dLaw_339 (by decide) ?_
  refine lv_iadd hx hb dLaw_340 ?_
  refine lv_topi (fun z16 ez16 => ?_)
  have tz16 := iv_add (Y := 2) ti (by decide) ez16 (by omega) (by omega)
  refine va_sld hx hb hX hbl hbA hW.2.2.2.2.2.2.2 (iv_in (X := (i : Int) + 2) (by omega) (by omega) (by omega)) dLaw_341 ?_
  rw [show z16.toNatClampNeg = i + 2 from by show z16.toInt.toNat = _; omega]
  refine lc_i (As := [.int (xs (i + 1)), .int (xs (i + 2))]) (rest := []) (n := 2) (d := 2) ⟨hx, hb, hml, hown, hts⟩ (c_X11_of l E D Gc xa nn hW.2.1 (xs (i + 1)) (xs (i + 2))) wd_451 wd_452 wd_453 wd_1 wd_454 (by decide +kernel) ⟨Nat.le_of_ble_eq_true rfl, Nat.le_of_ble_eq_true rfl⟩ hW hN hK rfl hl.1 rfl (Nat.le_of_ble_eq_true rfl) dLaw_342 ⟨by rw [hR1]; omega, by rw [hR2]; omega⟩ (fun r17 H locs hr17 hW => ?_)
  refine lv_pop hx hb dLaw_345 rfl ?_
  refine lv_aload_n hx hb dLaw_346 rfl (lv_at hl 1 rfl) ?_
  refine lv_aload_n hx hb dLaw_347 rfl (lv_at hl 3 rfl) ?_
  refine lv_iload_n hx hb dLaw_348 rfl (lv_at hl 0 rfl) ?_
  refine lv_iconst (v := 1) hx hb dLaw_349 (by decide) ?_
  refine lv_iadd hx hb dLaw_350 ?_
  refine lv_topi (fun z18 ez18 => ?_)
  have tz18 := iv_add (Y := 1) ti (by decide) ez18 (by omega) (by omega)
  refine va_sld hx hb hX hbl hbA hW.2.2.2.2.2.2.2 (iv_in (X := (i : Int) + 1) (by omega) (by omega) (by omega)) dLaw_351 ?_
  rw [show z18.toNatClampNeg = i + 1 from by show z18.toInt.toNat = _; omega]
  refine lv_aload_n hx hb dLaw_352 rfl (lv_at hl 3 rfl) ?_
  refine lv_iload_n hx hb dLaw_353 rfl (lv_at hl 0 rfl) ?_
  refine lv_iconst (v := 2) hx hb dLaw_354 (by decide) ?_
  refine lv_iadd hx hb dLaw_355 ?_
  refine lv_topi (fun z19 ez19 => ?_)
  have tz19 := iv_add (Y := 2) ti (by decide) ez19 (by omega) (by omega)
  refine va_sld hx hb hX hbl hbA hW.2.2.2.2.2.2.2 (iv_in (X := (i : Int) + 2) (by omega) (by omega) (by omega)) dLaw_356 ?_
  rw [show z19.toNatClampNeg = i + 2 from by show z19.toInt.toNat = _; omega]
  refine lm_i (post := fun _ => True) (As := [.int (xs (i + 1)), .int (xs (i + 2))]) (rest := []) (n := 2) (d := 1) ⟨hx, hb, hml, hown, hts⟩ (c_X12_of l E D Gm ma hW.2.2.2.1 (xs (i + 1)) (xs (i + 2))) wd_1417 wd_1418 wd_1419 wd_13 wd_1420 (by decide +kernel) ⟨Nat.le_of_ble_eq_true rfl, Nat.le_of_ble_eq_true rfl⟩ hW hN hK rfl hl.1 rfl (Nat.le_of_ble_eq_true rfl) dLaw_357 ⟨by rw [hR1]; omega, by rw [hR2]; omega⟩ (fun r20 H locs hr20 hW => ?_)
  refine lv_pop hx hb dLaw_360 rfl ?_
  refine lv_goto (tgt := 2004) hx hb dLaw_361 (by decide) ?_
  exact W.widen (k := cells + 18) (n := slots + 441) (by omega) (by omega) (kk _ _ _ _ _ X0 hW hT)
set_option maxHeartbeats 4000000 in
set_option maxRecDepth 100000 in
theorem law_c2 {p : Program} {e : Env} {s : State} {m : MethodId} {below : List Frame} {meth : Method} {c : Code} {l : Launch} {b L : Nat} {xs : Nat → Int32} (C0 : lw_At p s m meth c b L xs) {E : Nat → Nat} {D : va_G} {adK adV : Nat → Nat} (X0 : LCx E D adK adV s) {xa ma i : Nat} (hi : i + 7 ≤ L) (hL : L ≤ 3584) {Gc Gm : th_G} {nn : Nat} {H : Heap} {locs : List Loc} (hW : LWs E D s xa ma Gc Gm nn H locs) (hT : TI E Gc xa nn) (hU : UQ Gm 1 ∧ UQ Gm 2 ∧ UQ Gm 11) {cells slots : Nat} (hc1 : cells + 18 ≤ 600000) (hc2 : slots + 441 ≤ 7302250) {ls : Array Slot} (hl : lv_has ls 4 [(3, .int (nI i)), (2, .ref ma), (1, .ref xa), (0, .ref b)]) (kk : ∀ (E : Nat → Nat) (Gc : th_G) (nn : Nat) (H : Heap) (locs : List Loc), LCx E D adK adV s → LWs E D s xa ma Gc Gm nn H locs → TI E Gc xa nn → W p l e room_1 s m #[Value.ref b] below meth c H locs (cells + 18) (slots + 441) (lw_Z below #[Value.ref b] s) (F0 m 2004 ls [])) : W p l e room_1 s m #[Value.ref b] below meth c H locs cells slots (lw_Z below #[Value.ref b] s) (F0 m 364 ls []) := by
  obtain ⟨hx, hb, hr, hml, hown, hts0, hX, hbl, hlocks, hgv⟩ := id C0
  obtain ⟨hN, hK, hWS, hCL, hAO⟩ := id X0
  have hbA : ¬ LWa s b := Nat.not_le.mpr hbl
  have hts := lw_tb (w := Cond.initialized RX12) wd_13 hts0
  have hR1 : room_1.cells = 600000 := rfl
  have hR2 : room_1.slots = 7302250 := rfl
  have ti : (nI i).toInt = (i : Int) := nI_toInt (by omega)
  refine lv_aload_n hx hb dLaw_364 rfl (lv_at hl 2 rfl) ?_
  refine lv_aload_n hx hb dLaw_365 rfl (lv_at hl 3 rfl) ?_
  refine lv_iload_n hx hb dLaw_366 rfl (lv_at hl 0 rfl) ?_
  refine lv_iconst (v := 1) hx hb dLaw_367 (by decide) ?_
  refine lv_iadd hx hb dLaw_368 ?_
  refine lv_topi (fun z21 ez21 => ?_)
  have tz21 := iv_add (Y := 1) ti (by decide) ez21 (by omega) (by omega)
  refine va_sld hx hb hX hbl hbA hW.2.2.2.2.2.2.2 (iv_in (X := (i : Int) + 1) (by omega) (by omega) (by omega)) dLaw_369 ?_
  rw [show z21.toNatClampNeg = i + 1 from by show z21.toInt.toNat = _; omega]
  refine lv_aload_n hx hb dLaw_370 rfl (lv_at hl 3 rfl) ?_
  refine lv_iload_n hx hb dLaw_371 rfl (lv_at hl 0 rfl) ?_
  refine lv_iconst (v := 2) hx hb dLaw_372 (by decide) ?_
  refine lv_iadd hx hb dLaw_373 ?_
  refine lv_topi (fun z22 ez22 => ?_)
  have tz22 := iv_add (Y := 2) ti (by decide) ez22 (by omega) (by omega)
  refine va_sld hx hb hX hbl hbA hW.2.2.2.2.2.2.2 (iv_in (X := (i : Int) + 2) (by omega) (by omega) (by omega)) dLaw_374 ?_
  rw [show z22.toNatClampNeg = i + 2 from by show z22.toInt.toNat = _; omega]
  refine lv_aload_n hx hb dLaw_375 rfl (lv_at hl 3 rfl) ?_
  refine lv_iload_n hx hb dLaw_376 rfl (lv_at hl 0 rfl) ?_
  refine lv_iconst (v := 3) hx hb dLaw_377 (by decide) ?_
  refine lv_iadd hx hb dLaw_378 ?_
  refine lv_topi (fun z23 ez23 => ?_)
  have tz23 := iv_add (Y := 3) ti (by decide) ez23 (by omega) (by omega)
  refine va_sld hx hb hX hbl hbA hW.2.2.2.2.2.2.2 (iv_in (X := (i : Int) + 3) (by omega) (by omega) (by omega)) dLaw_379 ?_
  rw [show z23.toNatClampNeg = i + 3 from by show z23.toInt.toNat = _; omega]
  refine lc_i (As := [.int (xs (i + 1)), .int (xs (i + 2)), .int (xs (i + 3))]) (rest := []) (n := 3) (d := 3) ⟨hx, hb, hml, hown, hts⟩ (c_X11_strike l E D Gc xa nn hW.2.1 (xs (i + 1)) (xs (i + 2)) (xs (i + 3))) wd_459 wd_460 wd_461 wd_1 wd_462 (by decide +kernel) ⟨Nat.le_of_ble_eq_true rfl, Nat.le_of_ble_eq_true rfl⟩ hW hN hK rfl hl.1 rfl (Nat.le_of_ble_eq_true rfl) dLaw_380 ⟨by rw [hR1]; omega, by rw [hR2]; omega⟩ (fun r24 H locs hr24 hW => ?_)
  refine lv_pop hx hb dLaw_383 rfl ?_
  refine lv_aload_n hx hb dLaw_384 rfl (lv_at hl 1 rfl) ?_
  refine lv_aload_n hx hb dLaw_385 rfl (lv_at hl 3 rfl) ?_
  refine lv_iload_n hx hb dLaw_386 rfl (lv_at hl 0 rfl) ?_
  refine lv_iconst (v := 1) hx hb dLaw_387 (by decide) ?_
  refine lv_iadd hx hb dLaw_388 ?_
  refine lv_topi (fun z25 ez25 => ?_)
  have tz25 := iv_add (Y := 1) ti (by decide) ez25 (by omega) (by omega)
  refine va_sld hx hb hX hbl hbA hW.2.2.2.2.2.2.2 (iv_in (X := (i : Int) + 1) (by omega) (by omega) (by omega)) dLaw_389 ?_
  rw [show z25.toNatClampNeg = i + 1 from by show z25.toInt.toNat = _; omega]
  refine lv_aload_n hx hb dLaw_390 rfl (lv_at hl 3 rfl) ?_
  refine lv_iload_n hx hb dLaw_391 rfl (lv_at hl 0 rfl) ?_
  refine lv_iconst (v := 2) hx hb dLaw_392 (by decide) ?_
  refine lv_iadd hx hb dLaw_393 ?_
  refine lv_topi (fun z26 ez26 => ?_)
  have tz26 := iv_add (Y := 2) ti (by decide) ez26 (by omega) (by omega)
  refine va_sld hx hb hX hbl hbA hW.2.2.2.2.2.2.2 (iv_in (X := (i : Int) + 2) (by omega) (by omega) (by omega)) dLaw_394 ?_
  rw [show z26.toNatClampNeg = i + 2 from by show z26.toInt.toNat = _; omega]
  refine lv_aload_n hx hb dLaw_395 rfl (lv_at hl 3 rfl) ?_
  refine lv_iload_n hx hb dLaw_396 rfl (lv_at hl 0 rfl) ?_
  refine lv_iconst (v := 3) hx hb dLaw_397 (by decide) ?_
  refine lv_iadd hx hb dLaw_398 ?_
  refine lv_topi (fun z27 ez27 => ?_)
  have tz27 := iv_add (Y := 3) ti (by decide) ez27 (by omega) (by omega)
  refine va_sld hx hb hX hbl hbA hW.2.2.2.2.2.2.2 (iv_in (X := (i : Int) + 3) (by omega) (by omega) (by omega)) dLaw_399 ?_
  rw [show z27.toNatClampNeg = i + 3 from by show z27.toInt.toNat = _; omega]
  refine lm_i (post := fun _ => True) (As := [.int (xs (i + 1)), .int (xs (i + 2)), .int (xs (i + 3))]) (rest := []) (n := 3) (d := 3) ⟨hx, hb, hml, hown, hts⟩ (c_X12_strike l E D Gm ma hW.2.2.2.1 (xs (i + 1)) (xs (i + 2)) (xs (i + 3))) wd_1421 wd_1422 wd_1423 wd_13 wd_1424 (by decide +kernel) ⟨Nat.le_of_ble_eq_true rfl, Nat.le_of_ble_eq_true rfl⟩ hW hN hK rfl hl.1 rfl (Nat.le_of_ble_eq_true rfl) dLaw_400 ⟨by rw [hR1]; omega, by rw [hR2]; omega⟩ (fun r28 H locs hr28 hW => ?_)
  refine lv_pop hx hb dLaw_403 rfl ?_
  refine lv_goto (tgt := 2004) hx hb dLaw_404 (by decide) ?_
  exact W.widen (k := cells + 18) (n := slots + 441) (by omega) (by omega) (kk _ _ _ _ _ X0 hW hT)
set_option maxHeartbeats 4000000 in
set_option maxRecDepth 100000 in
theorem law_c3 {p : Program} {e : Env} {s : State} {m : MethodId} {below : List Frame} {meth : Method} {c : Code} {l : Launch} {b L : Nat} {xs : Nat → Int32} (C0 : lw_At p s m meth c b L xs) {E : Nat → Nat} {D : va_G} {adK adV : Nat → Nat} (X0 : LCx E D adK adV s) {xa ma i : Nat} (hi : i + 7 ≤ L) (hL : L ≤ 3584) {Gc Gm : th_G} {nn : Nat} {H : Heap} {locs : List Loc} (hW : LWs E D s xa ma Gc Gm nn H locs) (hT : TI E Gc xa nn) (hU : UQ Gm 1 ∧ UQ Gm 2 ∧ UQ Gm 11) {cells slots : Nat} (hc1 : cells + 18 ≤ 600000) (hc2 : slots + 441 ≤ 7302250) {ls : Array Slot} (hl : lv_has ls 4 [(3, .int (nI i)), (2, .ref ma), (1, .ref xa), (0, .ref b)]) (kk : ∀ (E : Nat → Nat) (Gc : th_G) (nn : Nat) (H : Heap) (locs : List Loc), LCx E D adK adV s → LWs E D s xa ma Gc Gm nn H locs → TI E Gc xa nn → W p l e room_1 s m #[Value.ref b] below meth c H locs (cells + 18) (slots + 441) (lw_Z below #[Value.ref b] s) (F0 m 2004 ls [])) : W p l e room_1 s m #[Value.ref b] below meth c H locs cells slots (lw_Z below #[Value.ref b] s) (F0 m 407 ls []) := by
  obtain ⟨hx, hb, hr, hml, hown, hts0, hX, hbl, hlocks, hgv⟩ := id C0
  obtain ⟨hN, hK, hWS, hCL, hAO⟩ := id X0
  have hbA : ¬ LWa s b := Nat.not_le.mpr hbl
  have hts := lw_tb (w := Cond.initialized RX12) wd_13 hts0
  have hR1 : room_1.cells = 600000 := rfl
  have hR2 : room_1.slots = 7302250 := rfl
  have ti : (nI i).toInt = (i : Int) := nI_toInt (by omega)
  refine lv_aload_n hx hb dLaw_407 rfl (lv_at hl 2 rfl) ?_
  refine lv_aload_n hx hb dLaw_408 rfl (lv_at hl 3 rfl) ?_
  refine lv_iload_n hx hb dLaw_409 rfl (lv_at hl 0 rfl) ?_
  refine lv_iconst (v := 1) hx hb dLaw_410 (by decide) ?_
  refine lv_iadd hx hb dLaw_411 ?_
  refine lv_topi (fun z29 ez29 => ?_)
  have tz29 := iv_add (Y := 1) ti (by decide) ez29 (by omega) (by omega)
  refine va_sld hx hb hX hbl hbA hW.2.2.2.2.2.2.2 (iv_in (X := (i : Int) + 1) (by omega) (by omega) (by omega)) dLaw_412 ?_
  rw [show z29.toNatClampNeg = i + 1 from by show z29.toInt.toNat = _; omega]
  refine lv_aload_n hx hb dLaw_413 rfl (lv_at hl 3 rfl) ?_
  refine lv_iload_n hx hb dLaw_414 rfl (lv_at hl 0 rfl) ?_
  refine lv_iconst (v := 2) hx hb dLaw_415 (by decide) ?_
  refine lv_iadd hx hb dLaw_416 ?_
  refine lv_topi (fun z30 ez30 => ?_)
  have tz30 := iv_add (Y := 2) ti (by decide) ez30 (by omega) (by omega)
  refine va_sld hx hb hX hbl hbA hW.2.2.2.2.2.2.2 (iv_in (X := (i : Int) + 2) (by omega) (by omega) (by omega)) dLaw_417 ?_
  rw [show z30.toNatClampNeg = i + 2 from by show z30.toInt.toNat = _; omega]
  refine lv_aload_n hx hb dLaw_418 rfl (lv_at hl 3 rfl) ?_
  refine lv_iload_n hx hb dLaw_419 rfl (lv_at hl 0 rfl) ?_
  refine lv_iconst (v := 3) hx hb dLaw_420 (by decide) ?_
  refine lv_iadd hx hb dLaw_421 ?_
  refine lv_topi (fun z31 ez31 => ?_)
  have tz31 := iv_add (Y := 3) ti (by decide) ez31 (by omega) (by omega)
  refine va_sld hx hb hX hbl hbA hW.2.2.2.2.2.2.2 (iv_in (X := (i : Int) + 3) (by omega) (by omega) (by omega)) dLaw_422 ?_
  rw [show z31.toNatClampNeg = i + 3 from by show z31.toInt.toNat = _; omega]
  refine lc_i (As := [.int (xs (i + 1)), .int (xs (i + 2)), .int (xs (i + 3))]) (rest := []) (n := 3) (d := 3) ⟨hx, hb, hml, hown, hts⟩ (c_X11_gate l E D Gc xa nn hW.2.1 (xs (i + 1)) (xs (i + 2)) (xs (i + 3))) wd_477 wd_478 wd_479 wd_1 wd_480 (by decide +kernel) ⟨Nat.le_of_ble_eq_true rfl, Nat.le_of_ble_eq_true rfl⟩ hW hN hK rfl hl.1 rfl (Nat.le_of_ble_eq_true rfl) dLaw_423 ⟨by rw [hR1]; omega, by rw [hR2]; omega⟩ (fun r32 H locs hr32 hW => ?_)
  refine lv_pop hx hb dLaw_426 rfl ?_
  refine lv_aload_n hx hb dLaw_427 rfl (lv_at hl 1 rfl) ?_
  refine lv_aload_n hx hb dLaw_428 rfl (lv_at hl 3 rfl) ?_
  refine lv_iload_n hx hb dLaw_429 rfl (lv_at hl 0 rfl) ?_
  refine lv_iconst (v := 1) hx hb dLaw_430 (by decide) ?_
  refine lv_iadd hx hb dLaw_431 ?_
  refine lv_topi (fun z33 ez33 => ?_)
  have tz33 := iv_add (Y := 1) ti (by decide) ez33 (by omega) (by omega)
  refine va_sld hx hb hX hbl hbA hW.2.2.2.2.2.2.2 (iv_in (X := (i : Int) + 1) (by omega) (by omega) (by omega)) dLaw_432 ?_
  rw [show z33.toNatClampNeg = i + 1 from by show z33.toInt.toNat = _; omega]
  refine lv_aload_n hx hb dLaw_433 rfl (lv_at hl 3 rfl) ?_
  refine lv_iload_n hx hb dLaw_434 rfl (lv_at hl 0 rfl) ?_
  refine lv_iconst (v := 2) hx hb dLaw_435 (by decide) ?_
  refine lv_iadd hx hb dLaw_436 ?_
  refine lv_topi (fun z34 ez34 => ?_)
  have tz34 := iv_add (Y := 2) ti (by decide) ez34 (by omega) (by omega)
  refine va_sld hx hb hX hbl hbA hW.2.2.2.2.2.2.2 (iv_in (X := (i : Int) + 2) (by omega) (by omega) (by omega)) dLaw_437 ?_
  rw [show z34.toNatClampNeg = i + 2 from by show z34.toInt.toNat = _; omega]
  refine lv_aload_n hx hb dLaw_438 rfl (lv_at hl 3 rfl) ?_
  refine lv_iload_n hx hb dLaw_439 rfl (lv_at hl 0 rfl) ?_
  refine lv_iconst (v := 3) hx hb dLaw_440 (by decide) ?_
  refine lv_iadd hx hb dLaw_441 ?_
  refine lv_topi (fun z35 ez35 => ?_)
  have tz35 := iv_add (Y := 3) ti (by decide) ez35 (by omega) (by omega)
  refine va_sld hx hb hX hbl hbA hW.2.2.2.2.2.2.2 (iv_in (X := (i : Int) + 3) (by omega) (by omega) (by omega)) dLaw_442 ?_
  rw [show z35.toNatClampNeg = i + 3 from by show z35.toInt.toNat = _; omega]
  refine lm_i (post := fun _ => True) (As := [.int (xs (i + 1)), .int (xs (i + 2)), .int (xs (i + 3))]) (rest := []) (n := 3) (d := 3) ⟨hx, hb, hml, hown, hts⟩ (c_X12_gate l E D Gm ma hW.2.2.2.1 (xs (i + 1)) (xs (i + 2)) (xs (i + 3))) wd_1431 wd_1432 wd_1433 wd_13 wd_1434 (by decide +kernel) ⟨Nat.le_of_ble_eq_true rfl, Nat.le_of_ble_eq_true rfl⟩ hW hN hK rfl hl.1 rfl (Nat.le_of_ble_eq_true rfl) dLaw_443 ⟨by rw [hR1]; omega, by rw [hR2]; omega⟩ (fun r36 H locs hr36 hW => ?_)
  refine lv_pop hx hb dLaw_446 rfl ?_
  refine lv_goto (tgt := 2004) hx hb dLaw_447 (by decide) ?_
  exact W.widen (k := cells + 18) (n := slots + 441) (by omega) (by omega) (kk _ _ _ _ _ X0 hW hT)
set_option maxHeartbeats 4000000 in
set_option maxRecDepth 100000 in
theorem law_c4 {p : Program} {e : Env} {s : State} {m : MethodId} {below : List Frame} {meth : Method} {c : Code} {l : Launch} {b L : Nat} {xs : Nat → Int32} (C0 : lw_At p s m meth c b L xs) {E : Nat → Nat} {D : va_G} {adK adV : Nat → Nat} (X0 : LCx E D adK adV s) {xa ma i : Nat} (hi : i + 7 ≤ L) (hL : L ≤ 3584) {Gc Gm : th_G} {nn : Nat} {H : Heap} {locs : List Loc} (hW : LWs E D s xa ma Gc Gm nn H locs) (hT : TI E Gc xa nn) (hU : UQ Gm 1 ∧ UQ Gm 2 ∧ UQ Gm 11) {cells slots : Nat} (hc1 : cells + 18 ≤ 600000) (hc2 : slots + 441 ≤ 7302250) {ls : Array Slot} (hl : lv_has ls 4 [(3, .int (nI i)), (2, .ref ma), (1, .ref xa), (0, .ref b)]) (kk : ∀ (E : Nat → Nat) (Gc : th_G) (nn : Nat) (H : Heap) (locs : List Loc), LCx E D adK adV s → LWs E D s xa ma Gc Gm nn H locs → TI E Gc xa nn → W p l e room_1 s m #[Value.ref b] below meth c H locs (cells + 18) (slots + 441) (lw_Z below #[Value.ref b] s) (F0 m 2004 ls [])) : W p l e room_1 s m #[Value.ref b] below meth c H locs cells slots (lw_Z below #[Value.ref b] s) (F0 m 450 ls []) := by
  obtain ⟨hx, hb, hr, hml, hown, hts0, hX, hbl, hlocks, hgv⟩ := id C0
  obtain ⟨hN, hK, hWS, hCL, hAO⟩ := id X0
  have hbA : ¬ LWa s b := Nat.not_le.mpr hbl
  have hts := lw_tb (w := Cond.initialized RX12) wd_13 hts0
  have hR1 : room_1.cells = 600000 := rfl
  have hR2 : room_1.slots = 7302250 := rfl
  have ti : (nI i).toInt = (i : Int) := nI_toInt (by omega)
  refine lv_aload_n hx hb dLaw_450 rfl (lv_at hl 2 rfl) ?_
  refine lv_aload_n hx hb dLaw_451 rfl (lv_at hl 3 rfl) ?_
  refine lv_iload_n hx hb dLaw_452 rfl (lv_at hl 0 rfl) ?_
  refine lv_iconst (v := 1) hx hb dLaw_453 (by decide) ?_
  refine lv_iadd hx hb dLaw_454 ?_
  refine lv_topi (fun z37 ez37 => ?_)
  have tz37 := iv_add (Y := 1) ti (by decide) ez37 (by omega) (by omega)
  refine va_sld hx hb hX hbl hbA hW.2.2.2.2.2.2.2 (iv_in (X := (i : Int) + 1) (by omega) (by omega) (by omega)) dLaw_455 ?_
  rw [show z37.toNatClampNeg = i + 1 from by show z37.toInt.toNat = _; omega]
  refine lc_i (As := [.int (xs (i + 1))]) (rest := []) (n := 1) (d := 3) ⟨hx, hb, hml, hown, hts⟩ (c_X11_open l E D Gc xa nn hW.2.1 (xs (i + 1))) wd_490 wd_491 wd_492 wd_1 wd_493 (by decide +kernel) ⟨Nat.le_of_ble_eq_true rfl, Nat.le_of_ble_eq_true rfl⟩ hW hN hK rfl hl.1 rfl (Nat.le_of_ble_eq_true rfl) dLaw_456 ⟨by rw [hR1]; omega, by rw [hR2]; omega⟩ (fun r38 H locs hr38 hW => ?_)
  refine lv_pop hx hb dLaw_459 rfl ?_
  refine lv_aload_n hx hb dLaw_460 rfl (lv_at hl 1 rfl) ?_
  refine lv_aload_n hx hb dLaw_461 rfl (lv_at hl 3 rfl) ?_
  refine lv_iload_n hx hb dLaw_462 rfl (lv_at hl 0 rfl) ?_
  refine lv_iconst (v := 1) hx hb dLaw_463 (by decide) ?_
  refine lv_iadd hx hb dLaw_464 ?_
  refine lv_topi (fun z39 ez39 => ?_)
  have tz39 := iv_add (Y := 1) ti (by decide) ez39 (by omega) (by omega)
  refine va_sld hx hb hX hbl hbA hW.2.2.2.2.2.2.2 (iv_in (X := (i : Int) + 1) (by omega) (by omega) (by omega)) dLaw_465 ?_
  rw [show z39.toNatClampNeg = i + 1 from by show z39.toInt.toNat = _; omega]
  refine lm_i (post := fun _ => True) (As := [.int (xs (i + 1))]) (rest := []) (n := 1) (d := 1) ⟨hx, hb, hml, hown, hts⟩ (c_X12_open l E D Gm ma hW.2.2.2.1 (xs (i + 1))) wd_1439 wd_1440 wd_1441 wd_13 wd_1442 (by decide +kernel) ⟨Nat.le_of_ble_eq_true rfl, Nat.le_of_ble_eq_true rfl⟩ hW hN hK rfl hl.1 rfl (Nat.le_of_ble_eq_true rfl) dLaw_466 ⟨by rw [hR1]; omega, by rw [hR2]; omega⟩ (fun r40 H locs hr40 hW => ?_)
  refine lv_pop hx hb dLaw_469 rfl ?_
  refine lv_goto (tgt := 2004) hx hb dLaw_470 (by decide) ?_
  exact W.widen (k := cells + 18) (n := slots + 441) (by omega) (by omega) (kk _ _ _ _ _ X0 hW hT)
set_option maxHeartbeats 4000000 in
set_option maxRecDepth 100000 in
theorem law_c5 {p : Program} {e : Env} {s : State} {m : MethodId} {below : List Frame} {meth : Method} {c : Code} {l : Launch} {b L : Nat} {xs : Nat → Int32} (C0 : lw_At p s m meth c b L xs) {E : Nat → Nat} {D : va_G} {adK adV : Nat → Nat} (X0 : LCx E D adK adV s) {xa ma i : Nat} (hi : i + 7 ≤ L) (hL : L ≤ 3584) {Gc Gm : th_G} {nn : Nat} {H : Heap} {locs : List Loc} (hW : LWs E D s xa ma Gc Gm nn H locs) (hT : TI E Gc xa nn) (hU : UQ Gm 1 ∧ UQ Gm 2 ∧ UQ Gm 11) {cells slots : Nat} (hc1 : cells + 18 ≤ 600000) (hc2 : slots + 441 ≤ 7302250) {ls : Array Slot} (hl : lv_has ls 4 [(3, .int (nI i)), (2, .ref ma), (1, .ref xa), (0, .ref b)]) (kk : ∀ (E : Nat → Nat) (Gc : th_G) (nn : Nat) (H : Heap) (locs : List Loc), LCx E D adK adV s → LWs E D s xa ma Gc Gm nn H locs → TI E Gc xa nn → W p l e room_1 s m #[Value.ref b] below meth c H locs (cells + 18) (slots + 441) (lw_Z below #[Value.ref b] s) (F0 m 2004 ls [])) : W p l e room_1 s m #[Value.ref b] below meth c H locs cells slots (lw_Z below #[Value.ref b] s) (F0 m 473 ls []) := by
  obtain ⟨hx, hb, hr, hml, hown, hts0, hX, hbl, hlocks, hgv⟩ := id C0
  obtain ⟨hN, hK, hWS, hCL, hAO⟩ := id X0
  have hbA : ¬ LWa s b := Nat.not_le.mpr hbl
  have hts := lw_tb (w := Cond.initialized RX12) wd_13 hts0
  have hR1 : room_1.cells = 600000 := rfl
  have hR2 : room_1.slots = 7302250 := rfl
  have ti : (nI i).toInt = (i : Int) := nI_toInt (by omega)
  refine lv_aload_n hx hb dLaw_473 rfl (lv_at hl 2 rfl) ?_
  refine lv_aload_n hx hb dLaw_474 rfl (lv_at hl 3 rfl) ?_
  refine lv_iload_n hx hb dLaw_475 rfl (lv_at hl 0 rfl) ?_
  refine lv_iconst (v := 1) hx hb dLaw_476 (by decide) ?_
  refine lv_iadd hx hb dLaw_477 ?_
  refine lv_topi (fun z41 ez41 => ?_)
  have tz41 := iv_add (Y := 1) ti (by decide) ez41 (by omega) (by omega)
  refine va_sld hx hb hX hbl hbA hW.2.2.2.2.2.2.2 (iv_in (X := (i : Int) + 1) (by omega) (by omega) (by omega)) dLaw_478 ?_
  rw [show z41.toNatClampNeg = i + 1 from by show z41.toInt.toNat = _; omega]
  refine lc_i (As := [.int (xs (i + 1))]) (rest := []) (n := 1) (d := 3) ⟨hx, hb, hml, hown, hts⟩ (c_X11_mill l E D Gc xa nn hW.2.1 (xs (i + 1))) wd_510 wd_511 wd_512 wd_1 wd_513 (by decide +kernel) ⟨Nat.le_of_ble_eq_true rfl, Nat.le_of_ble_eq_true rfl⟩ hW hN hK rfl hl.1 rfl (Nat.le_of_ble_eq_true rfl) dLaw_479 ⟨by rw [hR1]; omega, by rw [hR2]; omega⟩ (fun r42 H locs hr42 hW => ?_)
  refine lv_pop hx hb dLaw_482 rfl ?_
  refine lv_aload_n hx hb dLaw_483 rfl (lv_at hl 1 rfl) ?_
  refine lv_aload_n hx hb dLaw_484 rfl (lv_at hl 3 rfl) ?_
  refine lv_iload_n hx hb dLaw_485 rfl (lv_at hl 0 rfl) ?_
  refine lv_iconst (v := 1) hx hb dLaw_486 (by decide) ?_
  refine lv_iadd hx hb dLaw_487 ?_
  refine lv_topi (fun z43 ez43 => ?_)
  have tz43 := iv_add (Y := 1) ti (by decide) ez43 (by omega) (by omega)
  refine va_sld hx hb hX hbl hbA hW.2.2.2.2.2.2.2 (iv_in (X := (i : Int) + 1) (by omega) (by omega) (by omega)) dLaw_488 ?_
  rw [show z43.toNatClampNeg = i + 1 from by show z43.toInt.toNat = _; omega]
  refine lm_i (post := fun _ => True) (As := [.int (xs (i + 1))]) (rest := []) (n := 1) (d := 2) ⟨hx, hb, hml, hown, hts⟩ (c_X12_mill l E D Gm ma hW.2.2.2.1 (xs (i + 1))) wd_1443 wd_1444 wd_1445 wd_13 wd_1446 (by decide +kernel) ⟨Nat.le_of_ble_eq_true rfl, Nat.le_of_ble_eq_true rfl⟩ hW hN hK rfl hl.1 rfl (Nat.le_of_ble_eq_true rfl) dLaw_489 ⟨by rw [hR1]; omega, by rw [hR2]; omega⟩ (fun r44 H locs hr44 hW => ?_)
  refine lv_pop hx hb dLaw_492 rfl ?_
  refine lv_goto (tgt := 2004) hx hb dLaw_493 (by decide) ?_
  exact W.widen (k := cells + 18) (n := slots + 441) (by omega) (by omega) (kk _ _ _ _ _ X0 hW hT)
set_option maxHeartbeats 4000000 in
set_option maxRecDepth 100000 in
theorem law_c6 {p : Program} {e : Env} {s : State} {m : MethodId} {below : List Frame} {meth : Method} {c : Code} {l : Launch} {b L : Nat} {xs : Nat → Int32} (C0 : lw_At p s m meth c b L xs) {E : Nat → Nat} {D : va_G} {adK adV : Nat → Nat} (X0 : LCx E D adK adV s) {xa ma i : Nat} (hi : i + 7 ≤ L) (hL : L ≤ 3584) {Gc Gm : th_G} {nn : Nat} {H : Heap} {locs : List Loc} (hW : LWs E D s xa ma Gc Gm nn H locs) (hT : TI E Gc xa nn) (hU : UQ Gm 1 ∧ UQ Gm 2 ∧ UQ Gm 11) {cells slots : Nat} (hc1 : cells + 18 ≤ 600000) (hc2 : slots + 441 ≤ 7302250) {ls : Array Slot} (hl : lv_has ls 4 [(3, .int (nI i)), (2, .ref ma), (1, .ref xa), (0, .ref b)]) (kk : ∀ (E : Nat → Nat) (Gc : th_G) (nn : Nat) (H : Heap) (locs : List Loc), LCx E D adK adV s → LWs E D s xa ma Gc Gm nn H locs → TI E Gc xa nn → W p l e room_1 s m #[Value.ref b] below meth c H locs (cells + 18) (slots + 441) (lw_Z below #[Value.ref b] s) (F0 m 2004 ls [])) : W p l e room_1 s m #[Value.ref b] below meth c H locs cells slots (lw_Z below #[Value.ref b] s) (F0 m 496 ls []) := by
  obtain ⟨hx, hb, hr, hml, hown, hts0, hX, hbl, hlocks, hgv⟩ := id C0
  obtain ⟨hN, hK, hWS, hCL, hAO⟩ := id X0
  have hbA : ¬ LWa s b := Nat.not_le.mpr hbl
  have hts := lw_tb (w := Cond.initialized RX12) wd_13 hts0
  have hR1 : room_1.cells = 600000 := rfl
  have hR2 : room_1.slots = 7302250 := rfl
  have ti : (nI i).toInt = (i : Int) := nI_toInt (by omega)
  refine lv_aload_n hx hb dLaw_496 rfl (lv_at hl 2 rfl) ?_
  refine lv_aload_n hx hb dLaw_497 rfl (lv_at hl 3 rfl) ?_
  refine lv_iload_n hx hb dLaw_498 rfl (lv_at hl 0 rfl) ?_
  refine lv_iconst (v := 1) hx hb dLaw_499 (by decide) ?_
  refine lv_iadd hx hb dLaw_500 ?_
  refine lv_topi (fun z45 ez45 => ?_)
  have tz45 := iv_add (Y := 1) ti (by decide) ez45 (by omega) (by omega)
  refine va_sld hx hb hX hbl hbA hW.2.2.2.2.2.2.2 (iv_in (X := (i : Int) + 1) (by omega) (by omega) (by omega)) dLaw_501 ?_
  rw [show z45.toNatClampNeg = i + 1 from by show z45.toInt.toNat = _; omega]
  refine lv_aload_n hx hb dLaw_502 rfl (lv_at hl 3 rfl) ?_
  refine lv_iload_n hx hb dLaw_503 rfl (lv_at hl 0 rfl) ?_
  refine lv_iconst (v := 2) hx hb dLaw_504 (by decide) ?_
  refine lv_iadd hx hb dLaw_505 ?_
  refine lv_topi (fun z46 ez46 => ?_)
  have tz46 := iv_add (Y := 2) ti (by decide) ez46 (by omega) (by omega)
  refine va_sld hx hb hX hbl hbA hW.2.2.2.2.2.2.2 (iv_in (X := (i : Int) + 2) (by omega) (by omega) (by omega)) dLaw_506 ?_
  rw [show z46.toNatClampNeg = i + 2 from by show z46.toInt.toNat = _; omega]
  refine lv_aload_n hx hb dLaw_507 rfl (lv_at hl 3 rfl) ?_
  refine lv_iload_n hx hb dLaw_508 rfl (lv_at hl 0 rfl) ?_
  refine lv_iconst (v := 3) hx hb dLaw_509 (by decide) ?_
  refine lv_iadd hx hb dLaw_510 ?_
  refine lv_topi (fun z47 ez47 => ?_)
  have tz47 := iv_add (Y := 3) ti (by decide) ez47 (by omega) (by omega)
  refine va_sld hx hb hX hbl hbA hW.2.2.2.2.2.2.2 (iv_in (X := (i : Int) + 3) (by omega) (by omega) (by omega)) dLaw_511 ?_
  rw [show z47.toNatClampNeg = i + 3 from by show z47.toInt.toNat = _; omega]
  refine lc_i (As := [.int (xs (i + 1)), .int (xs (i + 2)), .int (xs (i + 3))]) (rest := []) (n := 3) (d := 7) ⟨hx, hb, hml, hown, hts⟩ (c_X11_grinds l E D Gc xa nn hW.2.1 (xs (i + 1)) (xs (i + 2)) (xs (i + 3))) wd_514 wd_515 wd_516 wd_1 wd_517 (by decide +kernel) ⟨Nat.le_of_ble_eq_true rfl, Nat.le_of_ble_eq_true rfl⟩ hW hN hK rfl hl.1 rfl (Nat.le_of_ble_eq_true rfl) dLaw_512 ⟨by rw [hR1]; omega, by rw [hR2]; omega⟩ (fun r48 H locs hr48 hW => ?_)
  refine lv_pop hx hb dLaw_515 rfl ?_
  refine lv_aload_n hx hb dLaw_516 rfl (lv_at hl 1 rfl) ?_
  refine lv_aload_n hx hb dLaw_517 rfl (lv_at hl 3 rfl) ?_
  refine lv_iload_n hx hb dLaw_518 rfl (lv_at hl 0 rfl) ?_
  refine lv_iconst (v := 1) hx hb dLaw_519 (by decide) ?_
  refine lv_iadd hx hb dLaw_520 ?_
  refine lv_topi (fun z49 ez49 => ?_)
  have tz49 := iv_add (Y := 1) ti (by decide) ez49 (by omega) (by omega)
  refine va_sld hx hb hX hbl hbA hW.2.2.2.2.2.2.2 (iv_in (X := (i : Int) + 1) (by omega) (by omega) (by omega)) dLaw_521 ?_
  rw [show z49.toNatClampNeg = i + 1 from by show z49.toInt.toNat = _; omega]
  refine lv_aload_n hx hb dLaw_522 rfl (lv_at hl 3 rfl) ?_
  refine lv_iload_n hx hb dLaw_523 rfl (lv_at hl 0 rfl) ?_
  refine lv_iconst (v := 2) hx hb dLaw_524 (by decide) ?_
  refine lv_iadd hx hb dLaw_525 ?_
  refine lv_topi (fun z50 ez50 => ?_)
  have tz50 := iv_add (Y := 2) ti (by decide) ez50 (by omega) (by omega)
  refine va_sld hx hb hX hbl hbA hW.2.2.2.2.2.2.2 (iv_in (X := (i : Int) + 2) (by omega) (by omega) (by omega)) dLaw_526 ?_
  rw [show z50.toNatClampNeg = i + 2 from by show z50.toInt.toNat = _; omega]
  refine lv_aload_n hx hb dLaw_527 rfl (lv_at hl 3 rfl) ?_
  refine lv_iload_n hx hb dLaw_528 rfl (lv_at hl 0 rfl) ?_
  refine lv_iconst (v := 3) hx hb dLaw_529 (by decide) ?_
  refine lv_iadd hx hb dLaw_530 ?_
  refine lv_topi (fun z51 ez51 => ?_)
  have tz51 := iv_add (Y := 3) ti (by decide) ez51 (by omega) (by omega)
  refine va_sld hx hb hX hbl hbA hW.2.2.2.2.2.2.2 (iv_in (X := (i : Int) + 3) (by omega) (by omega) (by omega)) dLaw_531 ?_
  rw [show z51.toNatClampNeg = i + 3 from by show z51.toInt.toNat = _; omega]
  refine lm_i (post := fun _ => True) (As := [.int (xs (i + 1)), .int (xs (i + 2)), .int (xs (i + 3))]) (rest := []) (n := 3) (d := 69) ⟨hx, hb, hml, hown, hts⟩ (c_X12_grinds l E D Gm ma hW.2.2.2.1 (xs (i + 1)) (xs (i + 2)) (xs (i + 3))) wd_1647 wd_1648 wd_1649 wd_13 wd_1650 (by decide +kernel) ⟨Nat.le_of_ble_eq_true rfl, Nat.le_of_ble_eq_true rfl⟩ hW hN hK rfl hl.1 rfl (Nat.le_of_ble_eq_true rfl) dLaw_532 ⟨by rw [hR1]; omega, by rw [hR2]; omega⟩ (fun r52 H locs hr52 hW => ?_)
  refine lv_pop hx hb dLaw_535 rfl ?_
  refine lv_goto (tgt := 2004) hx hb dLaw_536 (by decide) ?_
  exact W.widen (k := cells + 18) (n := slots + 441) (by omega) (by omega) (kk _ _ _ _ _ X0 hW hT)
set_option maxHeartbeats 4000000 in
set_option maxRecDepth 100000 in
theorem law_c7 {p : Program} {e : Env} {s : State} {m : MethodId} {below : List Frame} {meth : Method} {c : Code} {l : Launch} {b L : Nat} {xs : Nat → Int32} (C0 : lw_At p s m meth c b L xs) {E : Nat → Nat} {D : va_G} {adK adV : Nat → Nat} (X0 : LCx E D adK adV s) {xa ma i : Nat} (hi : i + 7 ≤ L) (hL : L ≤ 3584) {Gc Gm : th_G} {nn : Nat} {H : Heap} {locs : List Loc} (hW : LWs E D s xa ma Gc Gm nn H locs) (hT : TI E Gc xa nn) (hU : UQ Gm 1 ∧ UQ Gm 2 ∧ UQ Gm 11) {cells slots : Nat} (hc1 : cells + 18 ≤ 600000) (hc2 : slots + 441 ≤ 7302250) {ls : Array Slot} (hl : lv_has ls 4 [(3, .int (nI i)), (2, .ref ma), (1, .ref xa), (0, .ref b)]) (kk : ∀ (E : Nat → Nat) (Gc : th_G) (nn : Nat) (H : Heap) (locs : List Loc), LCx E D adK adV s → LWs E D s xa ma Gc Gm nn H locs → TI E Gc xa nn → W p l e room_1 s m #[Value.ref b] below meth c H locs (cells + 18) (slots + 441) (lw_Z below #[Value.ref b] s) (F0 m 2004 ls [])) : W p l e room_1 s m #[Value.ref b] below meth c H locs cells slots (lw_Z below #[Value.ref b] s) (F0 m 539 ls []) := by
  obtain ⟨hx, hb, hr, hml, hown, hts0, hX, hbl, hlocks, hgv⟩ := id C0
  obtain ⟨hN, hK, hWS, hCL, hAO⟩ := id X0
  have hbA : ¬ LWa s b := Nat.not_le.mpr hbl
  have hts := lw_tb (w := Cond.initialized RX12) wd_13 hts0
  have hR1 : room_1.cells = 600000 := rfl
  have hR2 : room_1.slots = 7302250 := rfl
  have ti : (nI i).toInt = (i : Int) := nI_toInt (by omega)
  refine lv_aload_n hx hb dLaw_539 rfl (lv_at hl 2 rfl) ?_
  refine lv_aload_n hx hb dLaw_540 rfl (lv_at hl 3 rfl) ?_
  refine lv_iload_n hx hb dLaw_541 rfl (lv_at hl 0 rfl) ?_
  refine lv_iconst (v := 1) hx hb dLaw_542 (by decide) ?_
  refine lv_iadd hx hb dLaw_543 ?_
  refine lv_topi (fun z53 ez53 => ?_)
  have tz53 := iv_add (Y := 1) ti (by decide) ez53 (by omega) (by omega)
  refine va_sld hx hb hX hbl hbA hW.2.2.2.2.2.2.2 (iv_in (X := (i : Int) + 1) (by omega) (by omega) (by omega)) dLaw_544 ?_
  rw [show z53.toNatClampNeg = i + 1 from by show z53.toInt.toNat = _; omega]
  refine lv_aload_n hx hb dLaw_545 rfl (lv_at hl 3 rfl) ?_
  refine lv_iload_n hx hb dLaw_546 rfl (lv_at hl 0 rfl) ?_
  refine lv_iconst (v := 2) hx hb dLaw_547 (by decide) ?_
  refine lv_iadd hx hb dLaw_548 ?_
  refine lv_topi (fun z54 ez54 => ?_)
  have tz54 := iv_add (Y := 2) ti (by decide) ez54 (by omega) (by omega)
  refine va_sld hx hb hX hbl hbA hW.2.2.2.2.2.2.2 (iv_in (X := (i : Int) + 2) (by omega) (by omega) (by omega)) dLaw_549 ?_
  rw [show z54.toNatClampNeg = i + 2 from by show z54.toInt.toNat = _; omega]
  refine lc_i (As := [.int (xs (i + 1)), .int (xs (i + 2))]) (rest := []) (n := 2) (d := 3) ⟨hx, hb, hml, hown, hts⟩ (c_X11_terms l E D Gc xa nn hW.2.1 (xs (i + 1)) (xs (i + 2))) wd_593 wd_594 wd_595 wd_1 wd_596 (by decide +kernel) ⟨Nat.le_of_ble_eq_true rfl, Nat.le_of_ble_eq_true rfl⟩ hW hN hK rfl hl.1 rfl (Nat.le_of_ble_eq_true rfl) dLaw_550 ⟨by rw [hR1]; omega, by rw [hR2]; omega⟩ (fun r55 H locs hr55 hW => ?_)
  refine lv_pop hx hb dLaw_553 rfl ?_
  refine lv_aload_n hx hb dLaw_554 rfl (lv_at hl 1 rfl) ?_
  refine lv_aload_n hx hb dLaw_555 rfl (lv_at hl 3 rfl) ?_
  refine lv_iload_n hx hb dLaw_556 rfl (lv_at hl 0 rfl) ?_
  refine lv_iconst (v := 1) hx hb dLaw_557 (by decide) ?_
  refine lv_iadd hx hb dLaw_558 ?_
  refine lv_topi (fun z56 ez56 => ?_)
  have tz56 := iv_add (Y := 1) ti (by decide) ez56 (by omega) (by omega)
  refine va_sld hx hb hX hbl hbA hW.2.2.2.2.2.2.2 (iv_in (X := (i : Int) + 1) (by omega) (by omega) (by omega)) dLaw_559 ?_
  rw [show z56.toNatClampNeg = i + 1 from by show z56.toInt.toNat = _; omega]
  refine lv_aload_n hx hb dLaw_560 rfl (lv_at hl 3 rfl) ?_
  refine lv_iload_n hx hb dLaw_561 rfl (lv_at hl 0 rfl) ?_
  refine lv_iconst (v := 2) hx hb dLaw_562 (by decide) ?_
  refine lv_iadd hx hb dLaw_563 ?_
  refine lv_topi (fun z57 ez57 => ?_)
  have tz57 := iv_add (Y := 2) ti (by decide) ez57 (by omega) (by omega)
  refine va_sld hx hb hX hbl hbA hW.2.2.2.2.2.2.2 (iv_in (X := (i : Int) + 2) (by omega) (by omega) (by omega)) dLaw_564 ?_
  rw [show z57.toNatClampNeg = i + 2 from by show z57.toInt.toNat = _; omega]
  refine lm_i (post := fun _ => True) (As := [.int (xs (i + 1)), .int (xs (i + 2))]) (rest := []) (n := 2) (d := 1) ⟨hx, hb, hml, hown, hts⟩ (c_X12_terms l E D Gm ma hW.2.2.2.1 (xs (i + 1)) (xs (i + 2))) wd_1447 wd_1448 wd_1449 wd_13 wd_1450 (by decide +kernel) ⟨Nat.le_of_ble_eq_true rfl, Nat.le_of_ble_eq_true rfl⟩ hW hN hK rfl hl.1 rfl (Nat.le_of_ble_eq_true rfl) dLaw_565 ⟨by rw [hR1]; omega, by rw [hR2]; omega⟩ (fun r58 H locs hr58 hW => ?_)
  refine lv_pop hx hb dLaw_568 rfl ?_
  refine lv_goto (tgt := 2004) hx hb dLaw_569 (by decide) ?_
  exact W.widen (k := cells + 18) (n := slots + 441) (by omega) (by omega) (kk _ _ _ _ _ X0 hW hT)
set_option maxHeartbeats 4000000 in
set_option maxRecDepth 100000 in
theorem law_c8 {p : Program} {e : Env} {s : State} {m : MethodId} {below : List Frame} {meth : Method} {c : Code} {l : Launch} {b L : Nat} {xs : Nat → Int32} (C0 : lw_At p s m meth c b L xs) {E : Nat → Nat} {D : va_G} {adK adV : Nat → Nat} (X0 : LCx E D adK adV s) {xa ma i : Nat} (hi : i + 7 ≤ L) (hL : L ≤ 3584) {Gc Gm : th_G} {nn : Nat} {H : Heap} {locs : List Loc} (hW : LWs E D s xa ma Gc Gm nn H locs) (hT : TI E Gc xa nn) (hU : UQ Gm 1 ∧ UQ Gm 2 ∧ UQ Gm 11) {cells slots : Nat} (hc1 : cells + 18 ≤ 600000) (hc2 : slots + 441 ≤ 7302250) {ls : Array Slot} (hl : lv_has ls 4 [(3, .int (nI i)), (2, .ref ma), (1, .ref xa), (0, .ref b)]) (kk : ∀ (E : Nat → Nat) (Gc : th_G) (nn : Nat) (H : Heap) (locs : List Loc), LCx E D adK adV s → LWs E D s xa ma Gc Gm nn H locs → TI E Gc xa nn → W p l e room_1 s m #[Value.ref b] below meth c H locs (cells + 18) (slots + 441) (lw_Z below #[Value.ref b] s) (F0 m 2004 ls [])) : W p l e room_1 s m #[Value.ref b] below meth c H locs cells slots (lw_Z below #[Value.ref b] s) (F0 m 572 ls []) := by
  obtain ⟨hx, hb, hr, hml, hown, hts0, hX, hbl, hlocks, hgv⟩ := id C0
  obtain ⟨hN, hK, hWS, hCL, hAO⟩ := id X0
  have hbA : ¬ LWa s b := Nat.not_le.mpr hbl
  have hts := lw_tb (w := Cond.initialized RX12) wd_13 hts0
  have hR1 : room_1.cells = 600000 := rfl
  have hR2 : room_1.slots = 7302250 := rfl
  have ti : (nI i).toInt = (i : Int) := nI_toInt (by omega)
  refine lv_aload_n hx hb dLaw_572 rfl (lv_at hl 2 rfl) ?_
  refine lv_aload_n hx hb dLaw_573 rfl (lv_at hl 3 rfl) ?_
  refine lv_iload_n hx hb dLaw_574 rfl (lv_at hl 0 rfl) ?_
  refine lv_iconst (v := 1) hx hb dLaw_575 (by decide) ?_
  refine lv_iadd hx hb dLaw_576 ?_
  refine lv_topi (fun z59 ez59 => ?_)
  have tz59 := iv_add (Y := 1) ti (by decide) ez59 (by omega) (by omega)
  refine va_sld hx hb hX hbl hbA hW.2.2.2.2.2.2.2 (iv_in (X := (i : Int) + 1) (by omega) (by omega) (by omega)) dLaw_577 ?_
  rw [show z59.toNatClampNeg = i + 1 from by show z59.toInt.toNat = _; omega]
  refine lv_aload_n hx hb dLaw_578 rfl (lv_at hl 3 rfl) ?_
  refine lv_iload_n hx hb dLaw_579 rfl (lv_at hl 0 rfl) ?_
  refine lv_iconst (v := 2) hx hb dLaw_580 (by decide) ?_
  refine lv_iadd hx hb dLaw_581 ?_
  refine lv_topi (fun z60 ez60 => ?_)
  have tz60 := iv_add (Y := 2) ti (by decide) ez60 (by omega) (by omega)
  refine va_sld hx hb hX hbl hbA hW.2.2.2.2.2.2.2 (iv_in (X := (i : Int) + 2) (by omega) (by omega) (by omega)) dLaw_582 ?_
  rw [show z60.toNatClampNeg = i + 2 from by show z60.toInt.toNat = _; omega]
  refine lv_aload_n hx hb dLaw_583 rfl (lv_at hl 3 rfl) ?_
  refine lv_iload_n hx hb dLaw_584 rfl (lv_at hl 0 rfl) ?_
  refine lv_iconst (v := 3) hx hb dLaw_585 (by decide) ?_
  refine lv_iadd hx hb dLaw_586 ?_
  refine lv_topi (fun z61 ez61 => ?_)
  have tz61 := iv_add (Y := 3) ti (by decide) ez61 (by omega) (by omega)
  refine va_sld hx hb hX hbl hbA hW.2.2.2.2.2.2.2 (iv_in (X := (i : Int) + 3) (by omega) (by omega) (by omega)) dLaw_587 ?_
  rw [show z61.toNatClampNeg = i + 3 from by show z61.toInt.toNat = _; omega]
  refine lv_aload_n hx hb dLaw_588 rfl (lv_at hl 3 rfl) ?_
  refine lv_iload_n hx hb dLaw_589 rfl (lv_at hl 0 rfl) ?_
  refine lv_iconst (v := 4) hx hb dLaw_590 (by decide) ?_
  refine lv_iadd hx hb dLaw_591 ?_
  refine lv_topi (fun z62 ez62 => ?_)
  have tz62 := iv_add (Y := 4) ti (by decide) ez62 (by omega) (by omega)
  refine va_sld hx hb hX hbl hbA hW.2.2.2.2.2.2.2 (iv_in (X := (i : Int) + 4) (by omega) (by omega) (by omega)) dLaw_592 ?_
  rw [show z62.toNatClampNeg = i + 4 from by show z62.toInt.toNat = _; omega]
  refine lv_aload_n hx hb dLaw_593 rfl (lv_at hl 3 rfl) ?_
  refine lv_iload_n hx hb dLaw_594 rfl (lv_at hl 0 rfl) ?_
  refine lv_iconst (v := 5) hx hb dLaw_595 (by decide) ?_
  refine lv_iadd hx hb dLaw_596 ?_
  refine lv_topi (fun z63 ez63 => ?_)
  have tz63 := iv_add (Y := 5) ti (by decide) ez63 (by omega) (by omega)
  refine va_sld hx hb hX hbl hbA hW.2.2.2.2.2.2.2 (iv_in (X := (i : Int) + 5) (by omega) (by omega) (by omega)) dLaw_597 ?_
  rw [show z63.toNatClampNeg = i + 5 from by show z63.toInt.toNat = _; omega]
  refine lc_i (As := [.int (xs (i + 1)), .int (xs (i + 2)), .int (xs (i + 3)), .int (xs (i + 4)), .int (xs (i + 5))]) (rest := []) (n := 5) (d := 1) ⟨hx, hb, hml, hown, hts⟩ (c_X11_feed l E D Gc xa nn hW.2.1 (xs (i + 1)) (xs (i + 2)) (xs (i + 3)) (xs (i + 4)) (xs (i + 5))) wd_597 wd_598 wd_599 wd_1 wd_600 (by decide +kernel) ⟨Nat.le_of_ble_eq_true rfl, Nat.le_of_ble_eq_true rfl⟩ hW hN hK rfl hl.1 rfl (Nat.le_of_ble_eq_true rfl) dLaw_598 ⟨by rw [hR1]; omega, by rw [hR2]; omega⟩ (fun r64 H locs hr64 hW => ?_)
  refine lv_pop hx hb dLaw_601 rfl ?_
  refine lv_aload_n hx hb dLaw_602 rfl (lv_at hl 1 rfl) ?_
  refine lv_aload_n hx hb dLaw_603 rfl (lv_at hl 3 rfl) ?_
  refine lv_iload_n hx hb dLaw_604 rfl (lv_at hl 0 rfl) ?_
  refine lv_iconst (v := 1) hx hb dLaw_605 (by decide) ?_
  refine lv_iadd hx hb dLaw_606 ?_
  refine lv_topi (fun z65 ez65 => ?_)
  have tz65 := iv_add (Y := 1) ti (by decide) ez65 (by omega) (by omega)
  refine va_sld hx hb hX hbl hbA hW.2.2.2.2.2.2.2 (iv_in (X := (i : Int) + 1) (by omega) (by omega) (by omega)) dLaw_607 ?_
  rw [show z65.toNatClampNeg = i + 1 from by show z65.toInt.toNat = _; omega]
  refine lv_aload_n hx hb dLaw_608 rfl (lv_at hl 3 rfl) ?_
  refine lv_iload_n hx hb dLaw_609 rfl (lv_at hl 0 rfl) ?_
  refine lv_iconst (v := 2) hx hb dLaw_610 (by decide) ?_
  refine lv_iadd hx hb dLaw_611 ?_
  refine lv_topi (fun z66 ez66 => ?_)
  have tz66 := iv_add (Y := 2) ti (by decide) ez66 (by omega) (by omega)
  refine va_sld hx hb hX hbl hbA hW.2.2.2.2.2.2.2 (iv_in (X := (i : Int) + 2) (by omega) (by omega) (by omega)) dLaw_612 ?_
  rw [show z66.toNatClampNeg = i + 2 from by show z66.toInt.toNat = _; omega]
  refine lv_aload_n hx hb dLaw_613 rfl (lv_at hl 3 rfl) ?_
  refine lv_iload_n hx hb dLaw_614 rfl (lv_at hl 0 rfl) ?_
  refine lv_iconst (v := 3) hx hb dLaw_615 (by decide) ?_
  refine lv_iadd hx hb dLaw_616 ?_
  refine lv_topi (fun z67 ez67 => ?_)
  have tz67 := iv_add (Y := 3) ti (by decide) ez67 (by omega) (by omega)
  refine va_sld hx hb hX hbl hbA hW.2.2.2.2.2.2.2 (iv_in (X := (i : Int) + 3) (by omega) (by omega) (by omega)) dLaw_617 ?_
  rw [show z67.toNatClampNeg = i + 3 from by show z67.toInt.toNat = _; omega]
  refine lv_aload_n hx hb dLaw_618 rfl (lv_at hl 3 rfl) ?_
  refine lv_iload_n hx hb dLaw_619 rfl (lv_at hl 0 rfl) ?_
  refine lv_iconst (v := 4) hx hb dLaw_620 (by decide) ?_
  refine lv_iadd hx hb dLaw_621 ?_
  refine lv_topi (fun z68 ez68 => ?_)
  have tz68 := iv_add (Y := 4) ti (by decide) ez68 (by omega) (by omega)
  refine va_sld hx hb hX hbl hbA hW.2.2.2.2.2.2.2 (iv_in (X := (i : Int) + 4) (by omega) (by omega) (by omega)) dLaw_622 ?_
  rw [show z68.toNatClampNeg = i + 4 from by show z68.toInt.toNat = _; omega]
  refine lv_aload_n hx hb dLaw_623 rfl (lv_at hl 3 rfl) ?_
  refine lv_iload_n hx hb dLaw_624 rfl (lv_at hl 0 rfl) ?_
  refine lv_iconst (v := 5) hx hb dLaw_625 (by decide) ?_
  refine lv_iadd hx hb dLaw_626 ?_
  refine lv_topi (fun z69 ez69 => ?_)
  have tz69 := iv_add (Y := 5) ti (by decide) ez69 (by omega) (by omega)
  refine va_sld hx hb hX hbl hbA hW.2.2.2.2.2.2.2 (iv_in (X := (i : Int) + 5) (by omega) (by omega) (by omega)) dLaw_627 ?_
  rw [show z69.toNatClampNeg = i + 5 from by show z69.toInt.toNat = _; omega]
  refine lm_i (post := fun _ => True) (As := [.int (xs (i + 1)), .int (xs (i + 2)), .int (xs (i + 3)), .int (xs (i + 4)), .int (xs (i + 5))]) (rest := []) (n := 5) (d := 0) ⟨hx, hb, hml, hown, hts⟩ (c_X12_feed l E D Gm ma hW.2.2.2.1 (xs (i + 1)) (xs (i + 2)) (xs (i + 3)) (xs (i + 4)) (xs (i + 5))) wd_1552 wd_1553 wd_1554 wd_13 wd_1555 (by decide +kernel) ⟨Nat.le_of_ble_eq_true rfl, Nat.le_of_ble_eq_true rfl⟩ hW hN hK rfl hl.1 rfl (Nat.le_of_ble_eq_true rfl) dLaw_628 ⟨by rw [hR1]; omega, by rw [hR2]; omega⟩ (fun r70 H locs hr70 hW => ?_)
  refine lv_pop hx hb dLaw_631 rfl ?_
  refine lv_goto (tgt := 2004) hx hb dLaw_632 (by decide) ?_
  exact W.widen (k := cells + 18) (n := slots + 441) (by omega) (by omega) (kk _ _ _ _ _ X0 hW hT)
set_option maxHeartbeats 4000000 in
set_option maxRecDepth 100000 in
theorem law_c9 {p : Program} {e : Env} {s : State} {m : MethodId} {below : List Frame} {meth : Method} {c : Code} {l : Launch} {b L : Nat} {xs : Nat → Int32} (C0 : lw_At p s m meth c b L xs) {E : Nat → Nat} {D : va_G} {adK adV : Nat → Nat} (X0 : LCx E D adK adV s) {xa ma i : Nat} (hi : i + 7 ≤ L) (hL : L ≤ 3584) {Gc Gm : th_G} {nn : Nat} {H : Heap} {locs : List Loc} (hW : LWs E D s xa ma Gc Gm nn H locs) (hT : TI E Gc xa nn) (hU : UQ Gm 1 ∧ UQ Gm 2 ∧ UQ Gm 11) {cells slots : Nat} (hc1 : cells + 18 ≤ 600000) (hc2 : slots + 441 ≤ 7302250) {ls : Array Slot} (hl : lv_has ls 4 [(3, .int (nI i)), (2, .ref ma), (1, .ref xa), (0, .ref b)]) (kk : ∀ (E : Nat → Nat) (Gc : th_G) (nn : Nat) (H : Heap) (locs : List Loc), LCx E D adK adV s → LWs E D s xa ma Gc Gm nn H locs → TI E Gc xa nn → W p l e room_1 s m #[Value.ref b] below meth c H locs (cells + 18) (slots + 441) (lw_Z below #[Value.ref b] s) (F0 m 2004 ls [])) : W p l e room_1 s m #[Value.ref b] below meth c H locs cells slots (lw_Z below #[Value.ref b] s) (F0 m 635 ls []) := by
  obtain ⟨hx, hb, hr, hml, hown, hts0, hX, hbl, hlocks, hgv⟩ := id C0
  obtain ⟨hN, hK, hWS, hCL, hAO⟩ := id X0
  have hbA : ¬ LWa s b := Nat.not_le.mpr hbl
  have hts := lw_tb (w := Cond.initialized RX12) wd_13 hts0
  have hR1 : room_1.cells = 600000 := rfl
  have hR2 : room_1.slots = 7302250 := rfl
  have ti : (nI i).toInt = (i : Int) := nI_toInt (by omega)
  refine lv_aload_n hx hb dLaw_635 rfl (lv_at hl 2 rfl) ?_
  refine lv_aload_n hx hb dLaw_636 rfl (lv_at hl 3 rfl) ?_
  refine lv_iload_n hx hb dLaw_637 rfl (lv_at hl 0 rfl) ?_
  refine lv_iconst (v := 1) hx hb dLaw_638 (by decide) ?_
  refine lv_iadd hx hb dLaw_639 ?_
  refine lv_topi (fun z71 ez71 => ?_)
  have tz71 := iv_add (Y := 1) ti (by decide) ez71 (by omega) (by omega)
  refine va_sld hx hb hX hbl hbA hW.2.2.2.2.2.2.2 (iv_in (X := (i : Int) + 1) (by omega) (by omega) (by omega)) dLaw_640 ?_
  rw [show z71.toNatClampNeg = i + 1 from by show z71.toInt.toNat = _; omega]
  refine lc_i (As := [.int (xs (i + 1))]) (rest := []) (n := 1) (d := 0) ⟨hx, hb, hml, hown, hts⟩ (c_X11_end l E D Gc xa nn hW.2.1 (xs (i + 1))) wd_605 wd_606 wd_607 wd_1 wd_608 (by decide +kernel) ⟨Nat.le_of_ble_eq_true rfl, Nat.le_of_ble_eq_true rfl⟩ hW hN hK rfl hl.1 rfl (Nat.le_of_ble_eq_true rfl) dLaw_641 ⟨by rw [hR1]; omega, by rw [hR2]; omega⟩ (fun r72 H locs hr72 hW => ?_)
  refine lv_pop hx hb dLaw_644 rfl ?_
  refine lv_aload_n hx hb dLaw_645 rfl (lv_at hl 1 rfl) ?_
  refine lv_aload_n hx hb dLaw_646 rfl (lv_at hl 3 rfl) ?_
  refine lv_iload_n hx hb dLaw_647 rfl (lv_at hl 0 rfl) ?_
  refine lv_iconst (v := 1) hx hb dLaw_648 (by decide) ?_
  refine lv_iadd hx hb dLaw_649 ?_
  refine lv_topi (fun z73 ez73 => ?_)
  have tz73 := iv_add (Y := 1) ti (by decide) ez73 (by omega) (by omega)
  refine va_sld hx hb hX hbl hbA hW.2.2.2.2.2.2.2 (iv_in (X := (i : Int) + 1) (by omega) (by omega) (by omega)) dLaw_650 ?_
  rw [show z73.toNatClampNeg = i + 1 from by show z73.toInt.toNat = _; omega]
  refine lm_i (post := fun _ => True) (As := [.int (xs (i + 1))]) (rest := []) (n := 1) (d := 1) ⟨hx, hb, hml, hown, hts⟩ (c_X12_end l E D Gm ma hW.2.2.2.1 (xs (i + 1))) wd_1556 wd_1557 wd_1558 wd_13 wd_1559 (by decide +kernel) ⟨Nat.le_of_ble_eq_true rfl, Nat.le_of_ble_eq_true rfl⟩ hW hN hK rfl hl.1 rfl (Nat.le_of_ble_eq_true rfl) dLaw_651 ⟨by rw [hR1]; omega, by rw [hR2]; omega⟩ (fun r74 H locs hr74 hW => ?_)
  refine lv_pop hx hb dLaw_654 rfl ?_
  refine lv_goto (tgt := 2004) hx hb dLaw_655 (by decide) ?_
  exact W.widen (k := cells + 18) (n := slots + 441) (by omega) (by omega) (kk _ _ _ _ _ X0 hW hT)
set_option maxHeartbeats 4000000 in
set_option maxRecDepth 100000 in
theorem law_c10 {p : Program} {e : Env} {s : State} {m : MethodId} {below : List Frame} {meth : Method} {c : Code} {l : Launch} {b L : Nat} {xs : Nat → Int32} (C0 : lw_At p s m meth c b L xs) {E : Nat → Nat} {D : va_G} {adK adV : Nat → Nat} (X0 : LCx E D adK adV s) {xa ma i : Nat} (hi : i + 7 ≤ L) (hL : L ≤ 3584) {Gc Gm : th_G} {nn : Nat} {H : Heap} {locs : List Loc} (hW : LWs E D s xa ma Gc Gm nn H locs) (hT : TI E Gc xa nn) (hU : UQ Gm 1 ∧ UQ Gm 2 ∧ UQ Gm 11) {cells slots : Nat} (hc1 : cells + 18 ≤ 600000) (hc2 : slots + 441 ≤ 7302250) {ls : Array Slot} (hl : lv_has ls 4 [(3, .int (nI i)), (2, .ref ma), (1, .ref xa), (0, .ref b)]) (kk : ∀ (E : Nat → Nat) (Gc : th_G) (nn : Nat) (H : Heap) (locs : List Loc), LCx E D adK adV s → LWs E D s xa ma Gc Gm nn H locs → TI E Gc xa nn → W p l e room_1 s m #[Value.ref b] below meth c H locs (cells + 18) (slots + 441) (lw_Z below #[Value.ref b] s) (F0 m 2004 ls [])) : W p l e room_1 s m #[Value.ref b] below meth c H locs cells slots (lw_Z below #[Value.ref b] s) (F0 m 658 ls []) := by
  obtain ⟨hx, hb, hr, hml, hown, hts0, hX, hbl, hlocks, hgv⟩ := id C0
  obtain ⟨hN, hK, hWS, hCL, hAO⟩ := id X0
  have hbA : ¬ LWa s b := Nat.not_le.mpr hbl
  have hts := lw_tb (w := Cond.initialized RX12) wd_13 hts0
  have hR1 : room_1.cells = 600000 := rfl
  have hR2 : room_1.slots = 7302250 := rfl
  have ti : (nI i).toInt = (i : Int) := nI_toInt (by omega)
  refine lv_aload_n hx hb dLaw_658 rfl (lv_at hl 2 rfl) ?_
  refine lc_i (As := []) (rest := []) (n := 0) (d := 7) ⟨hx, hb, hml, hown, hts⟩ (c_X11_row l E D Gc xa nn hW.2.1 ) wd_609 wd_610 wd_611 wd_1 wd_612 (by decide +kernel) ⟨Nat.le_of_ble_eq_true rfl, Nat.le_of_ble_eq_true rfl⟩ hW hN hK rfl hl.1 rfl (Nat.le_of_ble_eq_true rfl) dLaw_659 ⟨by rw [hR1]; omega, by rw [hR2]; omega⟩ (fun r75 H locs hr75 hW => ?_)
  refine lv_pop hx hb dLaw_662 rfl ?_
  refine lv_aload_n hx hb dLaw_663 rfl (lv_at hl 1 rfl) ?_
  refine lm_i (post := fun _ => True) (As := []) (rest := []) (n := 0) (d := 69) ⟨hx, hb, hml, hown, hts⟩ (c_X12_row l E D Gm ma hW.2.2.2.1 ) wd_1451 wd_1452 wd_1453 wd_13 wd_1454 (by decide +kernel) ⟨Nat.le_of_ble_eq_true rfl, Nat.le_of_ble_eq_true rfl⟩ hW hN hK rfl hl.1 rfl (Nat.le_of_ble_eq_true rfl) dLaw_664 ⟨by rw [hR1]; omega, by rw [hR2]; omega⟩ (fun r76 H locs hr76 hW => ?_)
  refine lv_pop hx hb dLaw_667 rfl ?_
  refine lv_goto (tgt := 2004) hx hb dLaw_668 (by decide) ?_
  exact W.widen (k := cells + 18) (n := slots + 441) (by omega) (by omega) (kk _ _ _ _ _ X0 hW hT)
set_option maxHeartbeats 4000000 in
set_option maxRecDepth 100000 in
theorem law_c11 {p : Program} {e : Env} {s : State} {m : MethodId} {below : List Frame} {meth : Method} {c : Code} {l : Launch} {b L : Nat} {xs : Nat → Int32} (C0 : lw_At p s m meth c b L xs) {E : Nat → Nat} {D : va_G} {adK adV : Nat → Nat} (X0 : LCx E D adK adV s) {xa ma i : Nat} (hi : i + 7 ≤ L) (hL : L ≤ 3584) {Gc Gm : th_G} {nn : Nat} {H : Heap} {locs : List Loc} (hW : LWs E D s xa ma Gc Gm nn H locs) (hT : TI E Gc xa nn) (hU : UQ Gm 1 ∧ UQ Gm 2 ∧ UQ Gm 11) {cells slots : Nat} (hc1 : cells + 18 ≤ 600000) (hc2 : slots + 441 ≤ 7302250) {ls : Array Slot} (hl : lv_has ls 4 [(3, .int (nI i)), (2, .ref ma), (1, .ref xa), (0, .ref b)]) (kk : ∀ (E : Nat → Nat) (Gc : th_G) (nn : Nat) (H : Heap) (locs : List Loc), LCx E D adK adV s → LWs E D s xa ma Gc Gm nn H locs → TI E Gc xa nn → W p l e room_1 s m #[Value.ref b] below meth c H locs (cells + 18) (slots + 441) (lw_Z below #[Value.ref b] s) (F0 m 2004 ls [])) : W p l e room_1 s m #[Value.ref b] below meth c H locs cells slots (lw_Z below #[Value.ref b] s) (F0 m 671 ls []) := by
  obtain ⟨hx, hb, hr, hml, hown, hts0, hX, hbl, hlocks, hgv⟩ := id C0
  obtain ⟨hN, hK, hWS, hCL, hAO⟩ := id X0
  have hbA : ¬ LWa s b := Nat.not_le.mpr hbl
  have hts := lw_tb (w := Cond.initialized RX12) wd_13 hts0
  have hR1 : room_1.cells = 600000 := rfl
  have hR2 : room_1.slots = 7302250 := rfl
  have ti : (nI i).toInt = (i : Int) := nI_toInt (by omega)
  refine lv_aload_n hx hb dLaw_671 rfl (lv_at hl 2 rfl) ?_
  refine lc_i (As := []) (rest := []) (n := 0) (d := 0) ⟨hx, hb, hml, hown, hts⟩ (c_X11_foam l E D Gc xa nn hW.2.1 ) wd_635 wd_636 wd_637 wd_1 wd_638 (by decide +kernel) ⟨Nat.le_of_ble_eq_true rfl, Nat.le_of_ble_eq_true rfl⟩ hW hN hK rfl hl.1 rfl (Nat.le_of_ble_eq_true rfl) dLaw_672 ⟨by rw [hR1]; omega, by rw [hR2]; omega⟩ (fun r77 H locs hr77 hW => ?_)
  refine lv_pop hx hb dLaw_675 rfl ?_
  refine lv_aload_n hx hb dLaw_676 rfl (lv_at hl 1 rfl) ?_
  refine lm_i (post := fun _ => True) (As := []) (rest := []) (n := 0) (d := 0) ⟨hx, hb, hml, hown, hts⟩ (c_X12_foam l E D Gm ma hW.2.2.2.1 ) wd_1548 wd_1549 wd_1550 wd_13 wd_1551 (by decide +kernel) ⟨Nat.le_of_ble_eq_true rfl, Nat.le_of_ble_eq_true rfl⟩ hW hN hK rfl hl.1 rfl (Nat.le_of_ble_eq_true rfl) dLaw_677 ⟨by rw [hR1]; omega, by rw [hR2]; omega⟩ (fun r78 H locs hr78 hW => ?_)
  refine lv_pop hx hb dLaw_680 rfl ?_
  refine lv_goto (tgt := 2004) hx hb dLaw_681 (by decide) ?_
  exact W.widen (k := cells + 18) (n := slots + 441) (by omega) (by omega) (kk _ _ _ _ _ X0 hW hT)
set_option maxHeartbeats 4000000 in
set_option maxRecDepth 100000 in
theorem law_c12 {p : Program} {e : Env} {s : State} {m : MethodId} {below : List Frame} {meth : Method} {c : Code} {l : Launch} {b L : Nat} {xs : Nat → Int32} (C0 : lw_At p s m meth c b L xs) {E : Nat → Nat} {D : va_G} {adK adV : Nat → Nat} (X0 : LCx E D adK adV s) {xa ma i : Nat} (hi : i + 7 ≤ L) (hL : L ≤ 3584) {Gc Gm : th_G} {nn : Nat} {H : Heap} {locs : List Loc} (hW : LWs E D s xa ma Gc Gm nn H locs) (hT : TI E Gc xa nn) (hU : UQ Gm 1 ∧ UQ Gm 2 ∧ UQ Gm 11) {cells slots : Nat} (hc1 : cells + 18 ≤ 600000) (hc2 : slots + 441 ≤ 7302250) {ls : Array Slot} (hl : lv_has ls 4 [(3, .int (nI i)), (2, .ref ma), (1, .ref xa), (0, .ref b)]) (kk : ∀ (E : Nat → Nat) (Gc : th_G) (nn : Nat) (H : Heap) (locs : List Loc), LCx E D adK adV s → LWs E D s xa ma Gc Gm nn H locs → TI E Gc xa nn → W p l e room_1 s m #[Value.ref b] below meth c H locs (cells + 18) (slots + 441) (lw_Z below #[Value.ref b] s) (F0 m 2004 ls [])) : W p l e room_1 s m #[Value.ref b] below meth c H locs cells slots (lw_Z below #[Value.ref b] s) (F0 m 684 ls []) := by
  obtain ⟨hx, hb, hr, hml, hown, hts0, hX, hbl, hlocks, hgv⟩ := id C0
  obtain ⟨hN, hK, hWS, hCL, hAO⟩ := id X0
  have hbA : ¬ LWa s b := Nat.not_le.mpr hbl
  have hts := lw_tb (w := Cond.initialized RX12) wd_13 hts0
  have hR1 : room_1.cells = 600000 := rfl
  have hR2 : room_1.slots = 7302250 := rfl
  have ti : (nI i).toInt = (i : Int) := nI_toInt (by omega)
  refine lv_aload_n hx hb dLaw_684 rfl (lv_at hl 2 rfl) ?_
  refine lc_mk (As := []) (rest := []) (n := 0) ⟨hx, hb, hml, hown, hts⟩ (c_X11_law l E D Gc H.size adK adV xa nn hW.2.1) lw_blind (fun U hU9 hWm => ⟨by rw [hU9], ⟨by rw [hU9]; exact hW.1, hN.warm hWm, va_K.moved hWm.alike hK⟩, by rw [hU9]; exact ((hWS.kept hW.2.2.2.2.2.2.2.2.1).narrow (lw_nA hW)).warm hWm, hCL.warm hWm⟩) wd_639 wd_640 wd_641 wd_1 wd_642 ⟨rfl, rfl⟩ (by decide +kernel) ⟨Nat.le_of_ble_eq_true rfl, Nat.le_of_ble_eq_true rfl⟩ hW hK rfl hl.1 rfl (Nat.le_of_ble_eq_true rfl) dLaw_685 ⟨by rw [hR1]; omega, by rw [hR2]; omega⟩ (fun r79 Gc H locs hr79 hle hW => ?_)
  have hT := TI_gle hle hT
  refine lv_pop hx hb dLaw_688 rfl ?_
  refine lv_aload_n hx hb dLaw_689 rfl (lv_at hl 1 rfl) ?_
  refine lm_i (post := fun _ => True) (As := []) (rest := []) (n := 0) (d := 59) ⟨hx, hb, hml, hown, hts⟩ (c_X12_law l E D Gm ma hW.2.2.2.1 ) wd_1560 wd_1561 wd_1562 wd_13 wd_1563 (by decide +kernel) ⟨Nat.le_of_ble_eq_true rfl, Nat.le_of_ble_eq_true rfl⟩ hW hN hK rfl hl.1 rfl (Nat.le_of_ble_eq_true rfl) dLaw_690 ⟨by rw [hR1]; omega, by rw [hR2]; omega⟩ (fun r80 H locs hr80 hW => ?_)
  refine lv_pop hx hb dLaw_693 rfl ?_
  refine lv_goto (tgt := 2004) hx hb dLaw_694 (by decide) ?_
  exact W.widen (k := cells + 18) (n := slots + 441) (by omega) (by omega) (kk _ _ _ _ _ X0 hW hT)
