
theorem wk_same {P : Prop} {r t a : Int32} (h : (r = -1 ∧ ¬ P) ∨ (r = a ∧ P)) (h' : (t = -1 ∧ ¬ P) ∨ (t = a ∧ P)) : r = t := by
  rcases h with ⟨a, b⟩ | ⟨a, b⟩ <;> rcases h' with ⟨a', b'⟩ | ⟨a', b'⟩ <;> first | (rw [a, a']; done) | exact absurd b b' | exact absurd b' b
set_option maxHeartbeats 4000000 in
set_option maxRecDepth 100000 in
theorem c_X12_draws_100x (l : Launch) (E : Nat → ClassId) (D : va_G) (G : th_G) (h0 : Nat) (hG0 : G h0 = some (10, 0)) (z9 : Int32) (hz9 : (0 : Int) ≤ z9.toInt ∧ z9.toInt ≤ 1000002) : Met l yX12_draws (tb (.code yX12_draws cX12_draws 2 (some .int))) (rm 0) (va_Pc [.ref h0, .int 100] (PX E D G (fun H => gf D h0 51 z9 H))) (QXi E D G (fun r H => ∃ w : Int32, gf D h0 51 w H ∧ w.toInt = (1103 * z9.toInt + 12345) % 1000003 ∧ (r : Int32).toInt = w.toInt % 100)) 0 0 (th_A G) := by
  refine Met.ofW (cc := cX12_draws) (maxL := 2) (ret := (some .int)) (by decide) rfl ?_
  intro p e s m args below meth c s₁ B hml hv
  obtain ⟨hav, ⟨hI, hN, hK⟩, hX⟩ := hv
  have hx := B.exec
  have hb := B.bytes
  have hr := B.returns
  have hts := atoms_spec (ws := tb (.code yX12_draws cX12_draws 2 (some .int))) B.pre
  have hown : s.vm.findClass RX12 = some m.cls := findClass_of_methodNamed B.named
  have hlocks := B.notSynchronized
  have hS : va_S (th_A G) s.heap s.heap [] := va_S.rf
  have hl := lv_entry ([.ref h0, .int 100]) (n := 2) (Nat.le_of_ble_eq_true rfl)
  rw [show entryFrame m args 2 = entryFrame m ([.ref h0, .int 100] : List Value).toArray 2 from by rw [hav], lg_entry_eq]
  generalize (lg_sl ([.ref h0, .int 100]) ++ List.replicate (2 - (lg_sl ([.ref h0, .int 100])).length) Slot.unset).toArray = ls at hl ⊢
  have hl : lv_has ls 2 [(0, .ref h0), (1, .int 100)] := hl
  generalize hR : (headSpec (tb (.code yX12_draws cX12_draws 2 (some .int))) (rm 0)).room = R
  have hR := hR.symm
  generalize hQ : MQ below (QXi E D G (fun r H => ∃ w : Int32, gf D h0 51 w H ∧ w.toInt = (1103 * z9.toInt + 12345) % 1000003 ∧ (r : Int32).toInt = w.toInt % 100)) args s 0 0 (th_A G) = QF
  have hQ := hQ.symm
  refine lv_aload_n hx hb dX12_draws_0 rfl (lv_at hl 0 rfl) ?_
  refine lv_ldc2 hx hb hown (hts _ (tb_c wd_1855)) dX12_draws_1 ?_
  refine lv_topl (fun l1 e2 => ?_)
  have tl1 : l1.toInt = 1103 := by rw [e2]; decide
  refine lv_aload_n hx hb dX12_draws_4 rfl (lv_at hl 0 rfl) ?_
  refine gmI hx hb hts inT12 hown hK hI List.not_mem_nil hG0 51 (by decide) (hts _ (tb_c wd_1284)) rfl rfl dX12_draws_5 (fun w3 hg4 k5 k6 => ?_)
  obtain rfl := gf.uniq (by decide) hX hg4
  refine lv_i2l hx hb dX12_draws_8 rfl ?_
  refine lv_topl (fun l7 e8 => ?_)
  have tl7 : l7.toInt = z9.toInt := il_i2l e8
  refine lv_lmul hx hb dX12_draws_9 ?_
  refine lv_topl (fun l9 e10 => ?_)
  have tl9 : l9.toInt = (1103) * l7.toInt := il_mul (X := (1103)) (Y := l7.toInt) tl1 rfl e10 (by omega) (by omega)
  refine lv_ldc2 hx hb hown (hts _ (tb_c wd_1856)) dX12_draws_10 ?_
  refine lv_topl (fun l11 e12 => ?_)
  have tl11 : l11.toInt = 12345 := by rw [e12]; decide
  refine lv_ladd hx hb dX12_draws_13 ?_
  refine lv_topl (fun l13 e14 => ?_)
  have tl13 : l13.toInt = l9.toInt + (12345) := il_add (X := l9.toInt) (Y := (12345)) rfl tl11 e14 (by omega) (by omega)
  refine lv_ldc2 hx hb hown (hts _ (tb_c wd_1857)) dX12_draws_14 ?_
  refine lv_topl (fun l15 e16 => ?_)
  have tl15 : l15.toInt = 1000003 := by rw [e16]; decide
  refine lv_lrem hx hb dX12_draws_17 (by rw [e16]; decide) ?_
  refine lv_topl (fun l17 e18 => ?_)
  have tl17 : l17.toInt = l13.toInt % 1000003 := il_rem (X := l13.toInt) (Y := 1000003) rfl tl15 e18 (by omega) (by omega)
  refine lv_l2i hx hb dX12_draws_18 rfl ?_
  refine lv_topi (fun v21 e20 => ?_)
  have tv21 : v21.toInt = l17.toInt := il_l2i rfl e20 (by omega) (by omega)
  refine pmI (ty := .int) hx hb hts inT12 hown hK hI List.not_mem_nil hG0 hS ⟨_, hG0⟩ 51 (by decide) (Or.inr rfl) (hts _ (tb_c wd_1284)) rfl rfl (by decide +kernel) rfl rfl rfl (by omega) (by omega) dX12_draws_19 (fun H locs hI hgP hS => ?_)
  have hg22 := hgP.2.1
  refine lv_aload_n hx hb dX12_draws_22 rfl (lv_at hl 0 rfl) ?_
  refine gmI hx hb hts inT12 hown hK hI List.not_mem_nil hG0 51 (by decide) (hts _ (tb_c wd_1284)) rfl rfl dX12_draws_23 (fun w23 hg24 k25 k26 => ?_)
  obtain rfl := gf.uniq (by decide) hg22 hg24
  refine lv_iload_n hx hb dX12_draws_26 rfl (lv_at hl 1 rfl) ?_
  refine lv_irem hx hb dX12_draws_27 (by decide) ?_
  refine lv_topi (fun v27 e28 => ?_)
  have tv27 := iv_remp (X := v21.toInt) (Y := 100) rfl (by decide) e28 (by decide) (by omega)
  have hpost : ∃ w : Int32, gf D h0 51 w H ∧ w.toInt = (1103 * z9.toInt + 12345) % 1000003 ∧ (v27 : Int32).toInt = w.toInt % 100 := ⟨v21, hg22, by omega, by omega⟩
  rw [hQ]
  exact W.iret (v := v27) hx hb hr (fun t ht hW => ⟨⟨v27, v27, rfl, rfl, ⟨by rw [ht]; exact hI, hN.warm hW, va_K.moved hW.alike hK⟩, by first | (rw [ht]; exact hpost) | exact hpost⟩, hS.F ht⟩) hS.2.2 dX12_draws_28
set_option maxHeartbeats 4000000 in
set_option maxRecDepth 100000 in
theorem c_X12_weekx (l : Launch) (E : Nat → ClassId) (D : va_G) (G : th_G) (h0 : Nat) (hG0 : G h0 = some (10, 0)) (x1 : Int32) (x2 : Int32) : Met l yX12_week (tb (.code yX12_week cX12_week 7 (some .int))) (rm 68) (va_Pc [.ref h0, .int x1, .int x2] (PX E D G (fun H => True))) (QXi E D G (fun r H => ((r : Int32) = -1 ∧ ¬ (rg x1 0 1000000 ∧ rg x2 0 100)) ∨ ((r : Int32) = nI (wC x1.toInt.toNat x2.toInt 96) ∧ (rg x1 0 1000000 ∧ rg x2 0 100)))) 0 0 (th_A G) := by
  refine Met.ofW (cc := cX12_week) (maxL := 7) (ret := (some .int)) (by decide) rfl ?_
  intro p e s m args below meth c s₁ B hml hv
  obtain ⟨hav, ⟨hI, hN, hK⟩, hX⟩ := hv
  have hx := B.exec
  have hb := B.bytes
  have hr := B.returns
  have hts := atoms_spec (ws := tb (.code yX12_week cX12_week 7 (some .int))) B.pre
  have hown : s.vm.findClass RX12 = some m.cls := findClass_of_methodNamed B.named
  have hlocks := B.notSynchronized
  have hS : va_S (th_A G) s.heap s.heap [] := va_S.rf
  have hl := lv_entry ([.ref h0, .int x1, .int x2]) (n := 7) (Nat.le_of_ble_eq_true rfl)
  rw [show entryFrame m args 7 = entryFrame m ([.ref h0, .int x1, .int x2] : List Value).toArray 7 from by rw [hav], lg_entry_eq]
  generalize (lg_sl ([.ref h0, .int x1, .int x2]) ++ List.replicate (7 - (lg_sl ([.ref h0, .int x1, .int x2])).length) Slot.unset).toArray = ls at hl ⊢
  have hl : lv_has ls 7 [(0, .ref h0), (1, .int x1), (2, .int x2)] := hl
  generalize hR : (headSpec (tb (.code yX12_week cX12_week 7 (some .int))) (rm 68)).room = R
  have hR := hR.symm
  generalize hQ : MQ below (QXi E D G (fun r H => ((r : Int32) = -1 ∧ ¬ (rg x1 0 1000000 ∧ rg x2 0 100)) ∨ ((r : Int32) = nI (wC x1.toInt.toNat x2.toInt 96) ∧ (rg x1 0 1000000 ∧ rg x2 0 100)))) args s 0 0 (th_A G) = QF
  have hQ := hQ.symm
  have J_66 : ∀ (nn : Nat) (H : Heap) (locs : List Loc) (ls : Array Slot) (v2264 : Int32) (v2265 : Int32) (v2266 : Int32) , (Int.toNat (96 - v2264.toInt) = nn) → lv_has ls 7 [(4, .int v2264), (3, .int v2265), (0, .ref h0), (1, .int x1), (2, .int x2)] → ((0 : Int) ≤ v2264.toInt ∧ v2264.toInt ≤ 96) → ((0 : Int) ≤ v2265.toInt ∧ v2265.toInt ≤ 96) → ((0 : Int) ≤ x1.toInt ∧ x1.toInt ≤ 1000000) → ((0 : Int) ≤ x2.toInt ∧ x2.toInt ≤ 100) → ((0 : Int) ≤ v2266.toInt ∧ v2266.toInt ≤ 1000002) → (v2266.toInt = ((wS x1.toInt.toNat v2264.toInt.toNat : Nat) : Int)) → (v2265.toInt = ((wC x1.toInt.toNat x2.toInt v2264.toInt.toNat : Nat) : Int)) → (v2265.toInt ≤ v2264.toInt) → gf D h0 51 v2266 H → th_I (okM E) D G [] H → va_S (th_A G) s.heap H locs → W p l e R s m args below meth c H locs 0 0 QF (F0 m 66 ls []) := by
    intro nn
    induction nn using Nat.strongRecOn with
    | ind nn ih_66 =>
      intro H locs ls v2264 v2265 v2266  hm hl k2267 k2268 k2269 k2270 k2271 k2272 k2273 k2274 hg2275 hI hS
      have J_106 : ∀ (nn : Nat) (H : Heap) (locs : List Loc) (ls : Array Slot) (v2276 : Int32) (v2277 : Int32) (v2278 : Int32) (v2280 : Int32) , (Int.toNat (24 - v2276.toInt) = nn) → lv_has ls 7 [(6, .int v2276), (3, .int v2277), (5, .int v2278), (4, .int v2264), (0, .ref h0), (1, .int x1), (2, .int x2)] → ((0 : Int) ≤ v2276.toInt ∧ v2276.toInt ≤ 24) → ((0 : Int) ≤ v2277.toInt ∧ v2277.toInt ≤ 96) → ((0 : Int) ≤ v2278.toInt ∧ v2278.toInt ≤ 1) → ((0 : Int) ≤ v2264.toInt ∧ v2264.toInt ≤ 95) → ((0 : Int) ≤ v2280.toInt ∧ v2280.toInt ≤ 1000002) → (v2280.toInt = ((wS x1.toInt.toNat (v2264.toInt.toNat + 1) : Nat) : Int)) → (v2277.toInt = ((wC x1.toInt.toNat x2.toInt (v2264.toInt.toNat + 1) : Nat) : Int)) → (v2277.toInt ≤ v2264.toInt + 1) → gf D h0 51 v2280 H → th_I (okM E) D G [] H → va_S (th_A G) s.heap H locs → W p l e R s m args below meth c H locs 0 0 QF (F0 m 106 ls []) := by
        intro nn
        induction nn using Nat.strongRecOn with
        | ind nn ih_106 =>
          intro H locs ls v2276 v2277 v2278 v2280  hm hl k2281 k2282 k2283 k2284 k2285 k2286 k2287 k2288 hg2289 hI hS
          refine lv_iload hx hb dX12_week_106 (lv_at hl 0 rfl) ?_
          refine lv_bipush (v := 24) hx hb dX12_week_108 (by decide) ?_
          refine lv_icmp_ge (tgt := 166) hx hb dX12_week_110 (by decide) (fun c2290 => ?_) (fun c2290 => ?_)
          · skip
            have k2291 := iv_le (X := (24)) (Y := v2276.toInt) (by decide) rfl c2290
            obtain ⟨v2292, e2293⟩ : ∃ y : Int32, y = v2264 + (1) := ⟨_, rfl⟩
            have tv2292 : v2292.toInt = v2264.toInt + (1) := iv_add rfl (by decide) e2293 (by omega) (by omega)
            refine lv_iinc (v := v2292) (lv' := [(4, .int v2292), (6, .int v2276), (3, .int v2277), (5, .int v2278), (0, .ref h0), (1, .int x1), (2, .int x2)]) hx hb dX12_week_166 hl (k := 3) rfl (by rw [e2293]; rfl) (by decide) rfl (fun ls hl => ?_)
            refine lv_goto (tgt := 66) hx hb dX12_week_169 (by decide) ?_
            exact ih_66 _ (by omega) H locs ls v2292 v2277 v2280  rfl (lv_sub hl [0, 2, 4, 5, 6] rfl) ⟨by omega, by omega⟩ ⟨by omega, by omega⟩ ⟨by omega, by omega⟩ ⟨by omega, by omega⟩ ⟨by omega, by omega⟩ (by rw [show v2292.toInt.toNat = v2264.toInt.toNat + 1 by omega]; omega) (by rw [show v2292.toInt.toNat = v2264.toInt.toNat + 1 by omega]; omega) (by omega) hg2289 hI hS
          · skip
            have k2294 := iv_nle (X := (24)) (Y := v2276.toInt) (by decide) rfl c2290
            refine lv_aload_n hx hb dX12_week_113 rfl (lv_at hl 4 rfl) ?_
            refine gmA hx hb hts inT12 hown hK hI List.not_mem_nil hG0 49 (by decide) (hts _ (tb_c wd_1282)) rfl rfl dX12_week_114 (fun a2295 hq2296 hf2297 => ?_)
            refine lv_iload hx hb dX12_week_117 (lv_at hl 0 rfl) ?_
            obtain ⟨F2298, hA2299, hP2300⟩ := om_3 hI hq2296 List.not_mem_nil
            refine th_iald hx hb hK hA2299 0 rfl (iv_in (X := v2276.toInt) rfl (by omega) (by omega)) dX12_week_119 (fun v2301 e2302 => ?_)
            have k2303 := rgs_get hP2300 e2302 (X := v2276.toInt) rfl (by omega) (by omega)
            refine lv_bipush (v := 24) hx hb dX12_week_120 (by decide) ?_
            refine lv_icmp_eq (tgt := 160) hx hb dX12_week_122 (by decide) (fun c2304 => ?_) (fun c2304 => ?_)
            · skip
              have k2305 := iv_eq (X := v2301.toInt) (Y := (24)) rfl (by decide) c2304
              obtain ⟨v2306, e2307⟩ : ∃ y : Int32, y = v2276 + (1) := ⟨_, rfl⟩
              have tv2306 : v2306.toInt = v2276.toInt + (1) := iv_add rfl (by decide) e2307 (by omega) (by omega)
              refine lv_iinc (v := v2306) (lv' := [(6, .int v2306), (3, .int v2277), (5, .int v2278), (4, .int v2264), (0, .ref h0), (1, .int x1), (2, .int x2)]) hx hb dX12_week_160 hl (k := 0) rfl (by rw [e2307]; rfl) (by decide) rfl (fun ls hl => ?_)
              refine lv_goto (tgt := 106) hx hb dX12_week_163 (by decide) ?_
              exact ih_106 _ (by omega) H locs ls v2306 v2277 v2278 v2280  rfl (lv_sub hl [0, 1, 2, 3, 4, 5, 6] rfl) ⟨by omega, by omega⟩ ⟨by omega, by omega⟩ ⟨by omega, by omega⟩ ⟨by omega, by omega⟩ ⟨by omega, by omega⟩ (by first | omega | (rw [wS_s]; omega)) (by first | omega | (have ew : ((wS x1.toInt.toNat (v2264.toInt.toNat + 1) : Nat) : Int) = v2280.toInt := (by rw [wS_s]; omega); first | (rw [wC_t (by omega)]; omega) | (rw [wC_f (by omega)]; omega))) (by omega) hg2289 hI hS
            · skip
              have k2308 := iv_ne (X := v2301.toInt) (Y := (24)) rfl (by decide) c2304
              refine lv_aload_n hx hb dX12_week_125 rfl (lv_at hl 4 rfl) ?_
              refine gmA hx hb hts inT12 hown hK hI List.not_mem_nil hG0 49 (by decide) (hts _ (tb_c wd_1282)) rfl rfl dX12_week_126 (fun a2309 hq2310 hf2311 => ?_)
              obtain rfl := fr.uniq (by decide) hf2297 hf2311
              refine lv_iload hx hb dX12_week_129 (lv_at hl 0 rfl) ?_
              refine lv_aload_n hx hb dX12_week_131 rfl (lv_at hl 4 rfl) ?_
              refine lv_aload_n hx hb dX12_week_132 rfl (lv_at hl 4 rfl) ?_
              refine gmA hx hb hts inT12 hown hK hI List.not_mem_nil hG0 49 (by decide) (hts _ (tb_c wd_1282)) rfl rfl dX12_week_133 (fun a2312 hq2313 hf2314 => ?_)
              obtain rfl := fr.uniq (by decide) hf2297 hf2314
              refine lv_iload hx hb dX12_week_136 (lv_at hl 0 rfl) ?_
              refine th_iald hx hb hK hA2299 0 rfl (iv_in (X := v2276.toInt) rfl (by omega) (by omega)) dX12_week_138 (fun v2315 e2316 => ?_)
              obtain rfl := (rd_same (i := v2276) (j := v2276) e2302 e2316 (X := v2276.toInt) (Y := v2276.toInt) rfl rfl (by omega)).symm
              refine lv_iload hx hb dX12_week_139 (lv_at hl 3 rfl) ?_
              refine lv_aload_n hx hb dX12_week_141 rfl (lv_at hl 4 rfl) ?_
              refine lv_aload_n hx hb dX12_week_142 rfl (lv_at hl 4 rfl) ?_
              refine gmA hx hb hts inT12 hown hK hI List.not_mem_nil hG0 49 (by decide) (hts _ (tb_c wd_1282)) rfl rfl dX12_week_143 (fun a2317 hq2318 hf2319 => ?_)
              obtain rfl := fr.uniq (by decide) hf2297 hf2319
              refine lv_iload hx hb dX12_week_146 (lv_at hl 0 rfl) ?_
              refine th_iald hx hb hK hA2299 0 rfl (iv_in (X := v2276.toInt) rfl (by omega) (by omega)) dX12_week_148 (fun v2320 e2321 => ?_)
              obtain rfl := (rd_same (i := v2276) (j := v2276) e2302 e2321 (X := v2276.toInt) (Y := v2276.toInt) rfl rfl (by omega)).symm
              refine lv_iload hx hb dX12_week_149 (lv_at hl 3 rfl) ?_
              refine lv_iload hx hb dX12_week_151 (lv_at hl 2 rfl) ?_
              refine mx_iF (z := v2280) (As := [.int v2301, .int v2264, .int v2278]) (rest := [.int v2264, .int v2301, .ref h0, .int v2276, .ref a2295]) (n := 3) (d := 67) ⟨hx, hb, hml, hown, hts⟩ (c_X12_flowOf l E D (gu G h0 (10, v2280.toInt.toNat + 1)) h0 gu_at v2301 v2264 v2278 ⟨by omega, by omega⟩) wd_1459 wd_1461 wp_44 wd_13 wd_1462 (by decide +kernel) ⟨by rw [hR]; exact Nat.le_of_ble_eq_true rfl, by rw [hR]; exact Nat.le_of_ble_eq_true rfl⟩ hI hN hK hS hG0 (by omega) hg2289 (trivial) rfl hl.1 rfl (Nat.le_of_ble_eq_true rfl) dX12_week_153 ⟨Nat.zero_le _, Nat.zero_le _⟩ (fun r2322 H locs hI hg2323 hp hS => ?_)
              refine mr_i (As := [.int v2301, .int v2264, .int r2322]) (rest := [.int v2276, .ref a2295]) (n := 3) (d := 2) ⟨hx, hb, hml, hown, hts⟩ (c_X12_floatsTo l E D G H h0 hG0 v2301 v2264 r2322 ⟨by omega, by omega⟩) wd_1531 wd_1533 wp_60 wd_13 wd_1534 (by decide +kernel) ⟨by rw [hR]; exact Nat.le_of_ble_eq_true rfl, by rw [hR]; exact Nat.le_of_ble_eq_true rfl⟩ hI hN hK hS hG0 rfl hl.1 rfl (Nat.le_of_ble_eq_true rfl) dX12_week_156 ⟨Nat.zero_le _, Nat.zero_le _⟩ (fun r2324 locs hp hS => ?_)
              have hp2325 := hp
              obtain ⟨F2326, hA2327, hP2328⟩ := om_3 hI hq2296 List.not_mem_nil
              refine th_iast hx hb hK hA2327 0 rfl hS ⟨_, hq2296⟩ (iv_in (X := v2276.toInt) rfl (by omega) (by omega)) dX12_week_159 (fun H locs hA2329 oq hS => ?_)
              have hP2330 := rgs_set (k := v2276.toNatClampNeg) (v := r2324) hP2328 (by omega) (by omega)
              have hI := th_I.put hI hq2296 hA2329 (ok_m3 hP2330) oq
              have hg2323 := gf.arr hG0 hq2296 (by decide) oq hg2323
              have e2331 : r2324 = (upd F2326 (v2276 : Int32).toNatClampNeg r2324) (v2276 : Int32).toNatClampNeg := rd_us
              obtain ⟨v2332, e2333⟩ : ∃ y : Int32, y = v2276 + (1) := ⟨_, rfl⟩
              have tv2332 : v2332.toInt = v2276.toInt + (1) := iv_add rfl (by decide) e2333 (by omega) (by omega)
              refine lv_iinc (v := v2332) (lv' := [(6, .int v2332), (3, .int v2277), (5, .int v2278), (4, .int v2264), (0, .ref h0), (1, .int x1), (2, .int x2)]) hx hb dX12_week_160 hl (k := 0) rfl (by rw [e2333]; rfl) (by decide) rfl (fun ls hl => ?_)
              refine lv_goto (tgt := 106) hx hb dX12_week_163 (by decide) ?_
              exact ih_106 _ (by omega) H locs ls v2332 v2277 v2278 v2280  rfl (lv_sub hl [0, 1, 2, 3, 4, 5, 6] rfl) ⟨by omega, by omega⟩ ⟨by omega, by omega⟩ ⟨by omega, by omega⟩ ⟨by omega, by omega⟩ ⟨by omega, by omega⟩ (by first | omega | (rw [wS_s]; omega)) (by first | omega | (have ew : ((wS x1.toInt.toNat (v2264.toInt.toNat + 1) : Nat) : Int) = v2280.toInt := (by rw [wS_s]; omega); first | (rw [wC_t (by omega)]; omega) | (rw [wC_f (by omega)]; omega))) (by omega) hg2323 hI hS
      refine lv_iload hx hb dX12_week_66 (lv_at hl 0 rfl) ?_
      refine lv_bipush (v := 96) hx hb dX12_week_68 (by decide) ?_
      refine lv_icmp_ge (tgt := 172) hx hb dX12_week_70 (by decide) (fun c2334 => ?_) (fun c2334 => ?_)
      · skip
        have k2335 := iv_le (X := (96)) (Y := v2264.toInt) (by decide) rfl c2334
        refine lv_aload_n hx hb dX12_week_172 rfl (lv_at hl 2 rfl) ?_
        refine lv_iload_n hx hb dX12_week_173 rfl (lv_at hl 1 rfl) ?_
        refine mx_i (As := [.int v2265]) (rest := []) (n := 1) (d := 0) ⟨hx, hb, hml, hown, hts⟩ (c_X12_good l E D G h0 hG0 v2265) wd_1402 wd_1404 wp_41 wd_13 wd_1405 (by decide +kernel) ⟨by rw [hR]; exact Nat.le_of_ble_eq_true rfl, by rw [hR]; exact Nat.le_of_ble_eq_true rfl⟩ hI hN hK hS hG0 (trivial) rfl hl.1 rfl (Nat.le_of_ble_eq_true rfl) dX12_week_174 ⟨Nat.zero_le _, Nat.zero_le _⟩ (fun r2336 H locs hI hp hS => ?_)
        obtain rfl := hp.symm
        have hpost : ((v2265 : Int32) = -1 ∧ ¬ (rg x1 0 1000000 ∧ rg x2 0 100)) ∨ ((v2265 : Int32) = nI (wC x1.toInt.toNat x2.toInt 96) ∧ (rg x1 0 1000000 ∧ rg x2 0 100)) := Or.inr ⟨Int32.toInt_inj.mp (by have hw := wC_le (a := x1.toInt.toNat) (r := x2.toInt) 96; rw [nI_toInt (by omega), show (96 : Nat) = v2264.toInt.toNat by omega]; omega), by simp only [rg]; omega⟩
        rw [hQ]
        exact W.iret (v := v2265) hx hb hr (fun t ht hW => ⟨⟨v2265, v2265, rfl, rfl, ⟨by rw [ht]; exact hI, hN.warm hW, va_K.moved hW.alike hK⟩, by first | (rw [ht]; exact hpost) | exact hpost⟩, hS.F ht⟩) hS.2.2 dX12_week_177
      · skip
        have k2337 := iv_nle (X := (96)) (Y := v2264.toInt) (by decide) rfl c2334
        refine lv_aload_n hx hb dX12_week_73 rfl (lv_at hl 2 rfl) ?_
        refine lv_bipush (v := 100) hx hb dX12_week_74 (by decide) ?_
        refine mx_i (As := [.int 100]) (rest := []) (n := 1) (d := 0) ⟨hx, hb, hml, hown, hts⟩ (c_X12_draws_100x l E D G h0 hG0  v2266 ⟨by omega, by omega⟩) wd_1851 wd_1853 wp_94 wd_13 wd_1854 (by decide +kernel) ⟨by rw [hR]; exact Nat.le_of_ble_eq_true rfl, by rw [hR]; exact Nat.le_of_ble_eq_true rfl⟩ hI hN hK hS hG0 (hg2275) rfl hl.1 rfl (Nat.le_of_ble_eq_true rfl) dX12_week_76 ⟨Nat.zero_le _, Nat.zero_le _⟩ (fun r2338 H locs hI hp hS => ?_)
        obtain ⟨v2339, hg2340, k2341, k2342⟩ := hp
        have k2343 : 0 ≤ v2339.toInt ∧ v2339.toInt ≤ 1000002 := by omega
        have hp : 0 ≤ r2338.toInt ∧ r2338.toInt ≤ 99 := by omega
        have hp2344 := hp
        refine lv_iload_n hx hb dX12_week_79 rfl (lv_at hl 4 rfl) ?_
        refine lv_icmp_ge (tgt := 87) hx hb dX12_week_80 (by decide) (fun c2345 => ?_) (fun c2345 => ?_)
        · skip
          have k2346 := iv_le (X := x2.toInt) (Y := r2338.toInt) rfl rfl c2345
          refine lv_iconst (v := 0) hx hb dX12_week_87 (by decide) ?_
          refine lv_istore (lv' := [(5, .int 0), (4, .int v2264), (3, .int v2265), (0, .ref h0), (1, .int x1), (2, .int x2)]) hx hb dX12_week_88 hl (by decide) rfl (fun ls hl => ?_)
          refine lv_iload_n hx hb dX12_week_90 rfl (lv_at hl 2 rfl) ?_
          refine lv_iload hx hb dX12_week_91 (lv_at hl 0 rfl) ?_
          refine lv_if_eq (tgt := 100) hx hb dX12_week_93 (by decide) (fun _ => ?_) (fun c => absurd c (by decide))
          refine lv_iconst (v := 0) hx hb dX12_week_100 (by decide) ?_
          refine lv_iadd hx hb dX12_week_101 ?_
          refine lv_topi (fun v2347 e2348 => ?_)
          have tv2347 : v2347.toInt = v2265.toInt + (0) := iv_add rfl (by decide) e2348 (by omega) (by omega)
          refine lv_istore_n (lv' := [(3, .int v2347), (5, .int 0), (4, .int v2264), (0, .ref h0), (1, .int x1), (2, .int x2)]) hx hb dX12_week_102 rfl hl (by decide) rfl (fun ls hl => ?_)
          refine lv_iconst (v := 0) hx hb dX12_week_103 (by decide) ?_
          refine lv_istore (lv' := [(6, .int 0), (3, .int v2347), (5, .int 0), (4, .int v2264), (0, .ref h0), (1, .int x1), (2, .int x2)]) hx hb dX12_week_104 hl (by decide) rfl (fun ls hl => ?_)
          have zl : (0 : Int32).toInt = 0 := by decide
          exact J_106 _ H locs ls 0 v2347 0 v2339  rfl (lv_sub hl [0, 1, 2, 3, 4, 5, 6] rfl) ⟨by decide, by decide⟩ ⟨by omega, by omega⟩ ⟨by decide, by decide⟩ ⟨by omega, by omega⟩ ⟨by omega, by omega⟩ (by first | omega | (rw [wS_s]; omega)) (by first | omega | (have ew : ((wS x1.toInt.toNat (v2264.toInt.toNat + 1) : Nat) : Int) = v2339.toInt := (by rw [wS_s]; omega); first | (rw [wC_t (by omega)]; omega) | (rw [wC_f (by omega)]; omega))) (by omega) hg2340 hI hS
        · skip
          have k2349 := iv_nle (X := x2.toInt) (Y := r2338.toInt) rfl rfl c2345
          refine lv_iconst (v := 1) hx hb dX12_week_83 (by decide) ?_
          refine lv_goto (tgt := 88) hx hb dX12_week_84 (by decide) ?_
          refine lv_istore (lv' := [(5, .int 1), (4, .int v2264), (3, .int v2265), (0, .ref h0), (1, .int x1), (2, .int x2)]) hx hb dX12_week_88 hl (by decide) rfl (fun ls hl => ?_)
          refine lv_iload_n hx hb dX12_week_90 rfl (lv_at hl 2 rfl) ?_
          refine lv_iload hx hb dX12_week_91 (lv_at hl 0 rfl) ?_
          refine lv_if_eq (tgt := 100) hx hb dX12_week_93 (by decide) (fun c => absurd c (by decide)) (fun _ => ?_)
          refine lv_iconst (v := 1) hx hb dX12_week_96 (by decide) ?_
          refine lv_goto (tgt := 101) hx hb dX12_week_97 (by decide) ?_
          refine lv_iadd hx hb dX12_week_101 ?_
          refine lv_topi (fun v2350 e2351 => ?_)
          have tv2350 : v2350.toInt = v2265.toInt + (1) := iv_add rfl (by decide) e2351 (by omega) (by omega)
          refine lv_istore_n (lv' := [(3, .int v2350), (5, .int 1), (4, .int v2264), (0, .ref h0), (1, .int x1), (2, .int x2)]) hx hb dX12_week_102 rfl hl (by decide) rfl (fun ls hl => ?_)
          refine lv_iconst (v := 0) hx hb dX12_week_103 (by decide) ?_
          refine lv_istore (lv' := [(6, .int 0), (3, .int v2350), (5, .int 1), (4, .int v2264), (0, .ref h0), (1, .int x1), (2, .int x2)]) hx hb dX12_week_104 hl (by decide) rfl (fun ls hl => ?_)
          have zl : (0 : Int32).toInt = 0 := by decide
          exact J_106 _ H locs ls 0 v2350 1 v2339  rfl (lv_sub hl [0, 1, 2, 3, 4, 5, 6] rfl) ⟨by decide, by decide⟩ ⟨by omega, by omega⟩ ⟨by decide, by decide⟩ ⟨by omega, by omega⟩ ⟨by omega, by omega⟩ (by first | omega | (rw [wS_s]; omega)) (by first | omega | (have ew : ((wS x1.toInt.toNat (v2264.toInt.toNat + 1) : Nat) : Int) = v2339.toInt := (by rw [wS_s]; omega); first | (rw [wC_t (by omega)]; omega) | (rw [wC_f (by omega)]; omega))) (by omega) hg2340 hI hS
  have J_41 : ∀ (nn : Nat) (H : Heap) (locs : List Loc) (ls : Array Slot) (v2352 : Int32) , (Int.toNat (24 - v2352.toInt) = nn) → lv_has ls 7 [(4, .int v2352), (3, .int 0), (0, .ref h0), (1, .int x1), (2, .int x2)] → ((0 : Int) ≤ v2352.toInt ∧ v2352.toInt ≤ 24) → ((0 : Int) ≤ x1.toInt ∧ x1.toInt ≤ 1000000) → ((0 : Int) ≤ x2.toInt ∧ x2.toInt ≤ 100) → ((0 : Int) ≤ x1.toInt ∧ x1.toInt ≤ 1000000) → gf D h0 51 x1 H → th_I (okM E) D G [] H → va_S (th_A G) s.heap H locs → W p l e R s m args below meth c H locs 0 0 QF (F0 m 41 ls []) := by
    intro nn
    induction nn using Nat.strongRecOn with
    | ind nn ih_41 =>
      intro H locs ls v2352  hm hl k2353 k2354 k2355 k2356 hg2357 hI hS
      refine lv_iload hx hb dX12_week_41 (lv_at hl 0 rfl) ?_
      refine lv_bipush (v := 24) hx hb dX12_week_43 (by decide) ?_
      refine lv_icmp_ge (tgt := 63) hx hb dX12_week_45 (by decide) (fun c2358 => ?_) (fun c2358 => ?_)
      · skip
        have k2359 := iv_le (X := (24)) (Y := v2352.toInt) (by decide) rfl c2358
        refine lv_iconst (v := 0) hx hb dX12_week_63 (by decide) ?_
        refine lv_istore (lv' := [(4, .int 0), (3, .int 0), (0, .ref h0), (1, .int x1), (2, .int x2)]) hx hb dX12_week_64 hl (by decide) rfl (fun ls hl => ?_)
        have zl : (0 : Int32).toInt = 0 := by decide
        exact J_66 _ H locs ls 0 0 x1  rfl (lv_sub hl [0, 1, 2, 3, 4] rfl) ⟨by decide, by decide⟩ ⟨by decide, by decide⟩ ⟨by omega, by omega⟩ ⟨by omega, by omega⟩ ⟨by omega, by omega⟩ (by rw [show (0 : Int32).toInt.toNat = 0 from by decide]; show _ = ((x1.toInt.toNat : Nat) : Int); omega) (by rw [show (0 : Int32).toInt.toNat = 0 from by decide]; show (0 : Int32).toInt = ((0 : Nat) : Int); decide) (by decide) hg2357 hI hS
      · skip
        have k2360 := iv_nle (X := (24)) (Y := v2352.toInt) (by decide) rfl c2358
        refine lv_aload_n hx hb dX12_week_48 rfl (lv_at hl 2 rfl) ?_
        refine gmA hx hb hts inT12 hown hK hI List.not_mem_nil hG0 49 (by decide) (hts _ (tb_c wd_1282)) rfl rfl dX12_week_49 (fun a2361 hq2362 hf2363 => ?_)
        refine lv_iload hx hb dX12_week_52 (lv_at hl 0 rfl) ?_
        refine lv_iload hx hb dX12_week_54 (lv_at hl 0 rfl) ?_
        obtain ⟨F2364, hA2365, hP2366⟩ := om_3 hI hq2362 List.not_mem_nil
        refine th_iast hx hb hK hA2365 0 rfl hS ⟨_, hq2362⟩ (iv_in (X := v2352.toInt) rfl (by omega) (by omega)) dX12_week_56 (fun H locs hA2367 oq hS => ?_)
        have hP2368 := rgs_set (k := v2352.toNatClampNeg) (v := v2352) hP2366 (by omega) (by omega)
        have hI := th_I.put hI hq2362 hA2367 (ok_m3 hP2368) oq
        have hg2357 := gf.arr hG0 hq2362 (by decide) oq hg2357
        have hf2363 := fr.arr hG0 hq2362 (by decide) oq hf2363
        have e2369 : v2352 = (upd F2364 (v2352 : Int32).toNatClampNeg v2352) (v2352 : Int32).toNatClampNeg := rd_us
        obtain ⟨v2370, e2371⟩ : ∃ y : Int32, y = v2352 + (1) := ⟨_, rfl⟩
        have tv2370 : v2370.toInt = v2352.toInt + (1) := iv_add rfl (by decide) e2371 (by omega) (by omega)
        refine lv_iinc (v := v2370) (lv' := [(4, .int v2370), (3, .int 0), (0, .ref h0), (1, .int x1), (2, .int x2)]) hx hb dX12_week_57 hl (k := 0) rfl (by rw [e2371]; rfl) (by decide) rfl (fun ls hl => ?_)
        refine lv_goto (tgt := 41) hx hb dX12_week_60 (by decide) ?_
        exact ih_41 _ (by omega) H locs ls v2370  rfl (lv_sub hl [0, 1, 2, 3, 4] rfl) ⟨by omega, by omega⟩ ⟨by omega, by omega⟩ ⟨by omega, by omega⟩ ⟨by omega, by omega⟩ hg2357 hI hS
  refine lv_iload_n hx hb dX12_week_0 rfl (lv_at hl 1 rfl) ?_
  refine lv_iconst (v := 0) hx hb dX12_week_1 (by decide) ?_
  refine lv_ldc hx hb hown (hts _ (tb_c wd_1582)) dX12_week_2 ?_
  refine th_cSs (As := [.int x1, .int 0, .int 1000000]) (rest := []) (n := 3) (d := 0) ⟨hx, hb, hml, hown, hts⟩ (c_X12_lies l s.heap x1 0 1000000) wd_1395 wd_1396 wd_13 wd_1397 (by decide +kernel) ⟨by rw [hR]; exact Nat.le_of_ble_eq_true rfl, by rw [hR]; exact Nat.le_of_ble_eq_true rfl⟩ hN hS rfl hl.1 rfl (Nat.le_of_ble_eq_true rfl) dX12_week_4 ⟨Nat.zero_le _, Nat.zero_le _⟩ (fun r2372 locs hp hS => ?_)
  rcases hp with ⟨rfl, hp⟩ | ⟨rfl, hp⟩
  · skip
    try simp only [rg, not_and, Int.not_le] at hp
    have hp2373 := hp
    try rw [show (0 : Int32).toInt = 0 from by decide] at hp2373
    try rw [show (1000000 : Int32).toInt = 1000000 from by decide] at hp2373
    refine lv_if_eq (tgt := 20) hx hb dX12_week_7 (by decide) (fun c => absurd c (by decide)) (fun _ => ?_)
    refine lv_iload_n hx hb dX12_week_10 rfl (lv_at hl 2 rfl) ?_
    refine lv_iconst (v := 0) hx hb dX12_week_11 (by decide) ?_
    refine lv_bipush (v := 100) hx hb dX12_week_12 (by decide) ?_
    refine th_cSs (As := [.int x2, .int 0, .int 100]) (rest := []) (n := 3) (d := 0) ⟨hx, hb, hml, hown, hts⟩ (c_X12_lies l s.heap x2 0 100) wd_1395 wd_1396 wd_13 wd_1397 (by decide +kernel) ⟨by rw [hR]; exact Nat.le_of_ble_eq_true rfl, by rw [hR]; exact Nat.le_of_ble_eq_true rfl⟩ hN hS rfl hl.1 rfl (Nat.le_of_ble_eq_true rfl) dX12_week_14 ⟨Nat.zero_le _, Nat.zero_le _⟩ (fun r2374 locs hp hS => ?_)
    rcases hp with ⟨rfl, hp⟩ | ⟨rfl, hp⟩
    · skip
      try simp only [rg, not_and, Int.not_le] at hp
      have hp2375 := hp
      try rw [show (0 : Int32).toInt = 0 from by decide] at hp2375
      try rw [show (100 : Int32).toInt = 100 from by decide] at hp2375
      refine lv_if_ne (tgt := 26) hx hb dX12_week_17 (by decide) (fun _ => ?_) (fun c => absurd c (by decide))
      refine lv_aload_n hx hb dX12_week_26 rfl (lv_at hl 0 rfl) ?_
      refine lv_iload_n hx hb dX12_week_27 rfl (lv_at hl 1 rfl) ?_
      refine pmI (ty := .int) hx hb hts inT12 hown hK hI List.not_mem_nil hG0 hS ⟨_, hG0⟩ 51 (by decide) (Or.inr rfl) (hts _ (tb_c wd_1284)) rfl rfl (by decide +kernel) rfl rfl rfl (by omega) (by omega) dX12_week_28 (fun H locs hI hgP hS => ?_)
      have hg2376 := hgP.2.1
      refine lv_aload_n hx hb dX12_week_31 rfl (lv_at hl 0 rfl) ?_
      refine lv_iconst (v := 1) hx hb dX12_week_32 (by decide) ?_
      refine pmI (ty := .boolean) hx hb hts inT12 hown hK hI List.not_mem_nil hG0 hS ⟨_, hG0⟩ 50 (by decide) (Or.inl (by decide)) (hts _ (tb_c wd_1283)) rfl rfl (by decide +kernel) (by decide) rfl rfl (by decide) (by decide) dX12_week_33 (fun H locs hI hgP hS => ?_)
      have hg2376 := hgP.2.2.1 51 _ (by decide) (by decide) hg2376
      have hg2377 := hgP.2.1
      refine lv_iconst (v := 0) hx hb dX12_week_36 (by decide) ?_
      refine lv_istore_n (lv' := [(3, .int 0), (0, .ref h0), (1, .int x1), (2, .int x2)]) hx hb dX12_week_37 rfl hl (by decide) rfl (fun ls hl => ?_)
      refine lv_iconst (v := 0) hx hb dX12_week_38 (by decide) ?_
      refine lv_istore (lv' := [(4, .int 0), (3, .int 0), (0, .ref h0), (1, .int x1), (2, .int x2)]) hx hb dX12_week_39 hl (by decide) rfl (fun ls hl => ?_)
      have zl : (0 : Int32).toInt = 0 := by decide
      exact J_41 _ H locs ls 0  rfl (lv_sub hl [0, 1, 2, 3, 4] rfl) ⟨by decide, by decide⟩ ⟨by omega, by omega⟩ ⟨by omega, by omega⟩ ⟨by omega, by omega⟩ hg2376 hI hS
    · skip
      try simp only [rg, not_and, Int.not_le] at hp
      have hp2378 := hp
      try rw [show (0 : Int32).toInt = 0 from by decide] at hp2378
      try rw [show (100 : Int32).toInt = 100 from by decide] at hp2378
      refine lv_if_ne (tgt := 26) hx hb dX12_week_17 (by decide) (fun c => absurd c (by decide)) (fun _ => ?_)
      refine lv_aload_n hx hb dX12_week_20 rfl (lv_at hl 0 rfl) ?_
      refine lv_iconst (v := (-1)) hx hb dX12_week_21 (by decide) ?_
      refine mx_i (As := [.int (-1)]) (rest := []) (n := 1) (d := 0) ⟨hx, hb, hml, hown, hts⟩ (c_X12_refuses l E D G h0 hG0 (-1) ⟨by decide, by decide⟩) wd_1398 wd_1400 wp_40 wd_13 wd_1401 (by decide +kernel) ⟨by rw [hR]; exact Nat.le_of_ble_eq_true rfl, by rw [hR]; exact Nat.le_of_ble_eq_true rfl⟩ hI hN hK hS hG0 (trivial) rfl hl.1 rfl (Nat.le_of_ble_eq_true rfl) dX12_week_22 ⟨Nat.zero_le _, Nat.zero_le _⟩ (fun r2379 H locs hI hp hS => ?_)
      obtain rfl := hp.symm
      have hpost : (((-1) : Int32) = -1 ∧ ¬ (rg x1 0 1000000 ∧ rg x2 0 100)) ∨ (((-1) : Int32) = nI (wC x1.toInt.toNat x2.toInt 96) ∧ (rg x1 0 1000000 ∧ rg x2 0 100)) := Or.inl ⟨rfl, by simp only [rg]; omega⟩
      rw [hQ]
      exact W.iret (v := (-1)) hx hb hr (fun t ht hW => ⟨⟨(-1), (-1), rfl, rfl, ⟨by rw [ht]; exact hI, hN.warm hW, va_K.moved hW.alike hK⟩, by first | (rw [ht]; exact hpost) | exact hpost⟩, hS.F ht⟩) hS.2.2 dX12_week_25
  · skip
    try simp only [rg, not_and, Int.not_le] at hp
    have hp2380 := hp
    try rw [show (0 : Int32).toInt = 0 from by decide] at hp2380
    try rw [show (1000000 : Int32).toInt = 1000000 from by decide] at hp2380
    refine lv_if_eq (tgt := 20) hx hb dX12_week_7 (by decide) (fun _ => ?_) (fun c => absurd c (by decide))
    refine lv_aload_n hx hb dX12_week_20 rfl (lv_at hl 0 rfl) ?_
    refine lv_iconst (v := (-1)) hx hb dX12_week_21 (by decide) ?_
    refine mx_i (As := [.int (-1)]) (rest := []) (n := 1) (d := 0) ⟨hx, hb, hml, hown, hts⟩ (c_X12_refuses l E D G h0 hG0 (-1) ⟨by decide, by decide⟩) wd_1398 wd_1400 wp_40 wd_13 wd_1401 (by decide +kernel) ⟨by rw [hR]; exact Nat.le_of_ble_eq_true rfl, by rw [hR]; exact Nat.le_of_ble_eq_true rfl⟩ hI hN hK hS hG0 (trivial) rfl hl.1 rfl (Nat.le_of_ble_eq_true rfl) dX12_week_22 ⟨Nat.zero_le _, Nat.zero_le _⟩ (fun r2381 H locs hI hp hS => ?_)
    obtain rfl := hp.symm
    have hpost : (((-1) : Int32) = -1 ∧ ¬ (rg x1 0 1000000 ∧ rg x2 0 100)) ∨ (((-1) : Int32) = nI (wC x1.toInt.toNat x2.toInt 96) ∧ (rg x1 0 1000000 ∧ rg x2 0 100)) := Or.inl ⟨rfl, by simp only [rg]; omega⟩
    rw [hQ]
    exact W.iret (v := (-1)) hx hb hr (fun t ht hW => ⟨⟨(-1), (-1), rfl, rfl, ⟨by rw [ht]; exact hI, hN.warm hW, va_K.moved hW.alike hK⟩, by first | (rw [ht]; exact hpost) | exact hpost⟩, hS.F ht⟩) hS.2.2 dX12_week_25
