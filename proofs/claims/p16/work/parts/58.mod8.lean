theorem wp_69 : Cond.selects RX12 yX12_readTerm yX12_readTerm ∈ TB := tv 69 (by decide +kernel) (by decide +kernel)
theorem wd_1599 : (Cond.methodLink RX12 (198 : Nat) yX12_readTerm) ∈ TB := tw 1599 (by decide +kernel) (by decide +kernel)
theorem wd_1601 : (Jvm.Cond.instanceMethod yX12_readTerm) ∈ TB := tw 1601 (by decide +kernel) (by decide +kernel)
theorem wd_1602 : (Cond.code yX12_readTerm cX12_readTerm 2 (Option.none : Option Jvm.ClassFile.FieldType)) ∈ TB := tw 1602 (by decide +kernel) (by decide +kernel)
theorem dX12_readSum_0g : (decode cX12_readSum 0 = .ok (.aload_n 0, 1)) ∧ (decode cX12_readSum 1 = .ok (.iload_n 1, 1)) ∧ (decode cX12_readSum 2 = .ok (.invokevirtual 198, 3)) ∧ (decode cX12_readSum 5 = .ok (.aload_n 0, 1)) ∧ (decode cX12_readSum 6 = .ok (.bipush 43, 2)) ∧ (decode cX12_readSum 8 = .ok (.invokestatic 194, 3)) ∧ (decode cX12_readSum 11 = .ok (.invokevirtual 169, 3)) ∧ (decode cX12_readSum 14 = .ok (.ifCond .ne 15, 3)) ∧ (decode cX12_readSum 17 = .ok (.aload_n 0, 1)) ∧ (decode cX12_readSum 18 = .ok (.bipush 45, 2)) := by decide +kernel
theorem dX12_readSum_0 : decode cX12_readSum 0 = .ok (.aload_n 0, 1) := dX12_readSum_0g.1
theorem dX12_readSum_1 : decode cX12_readSum 1 = .ok (.iload_n 1, 1) := dX12_readSum_0g.2.1
theorem dX12_readSum_2 : decode cX12_readSum 2 = .ok (.invokevirtual 198, 3) := dX12_readSum_0g.2.2.1
theorem dX12_readSum_5 : decode cX12_readSum 5 = .ok (.aload_n 0, 1) := dX12_readSum_0g.2.2.2.1
theorem dX12_readSum_6 : decode cX12_readSum 6 = .ok (.bipush 43, 2) := dX12_readSum_0g.2.2.2.2.1
theorem dX12_readSum_8 : decode cX12_readSum 8 = .ok (.invokestatic 194, 3) := dX12_readSum_0g.2.2.2.2.2.1
theorem dX12_readSum_11 : decode cX12_readSum 11 = .ok (.invokevirtual 169, 3) := dX12_readSum_0g.2.2.2.2.2.2.1
theorem dX12_readSum_14 : decode cX12_readSum 14 = .ok (.ifCond .ne 15, 3) := dX12_readSum_0g.2.2.2.2.2.2.2.1
theorem dX12_readSum_17 : decode cX12_readSum 17 = .ok (.aload_n 0, 1) := dX12_readSum_0g.2.2.2.2.2.2.2.2.1
theorem dX12_readSum_18 : decode cX12_readSum 18 = .ok (.bipush 45, 2) := dX12_readSum_0g.2.2.2.2.2.2.2.2.2
theorem dX12_readSum_20g : (decode cX12_readSum 20 = .ok (.invokestatic 194, 3)) ∧ (decode cX12_readSum 23 = .ok (.invokevirtual 169, 3)) ∧ (decode cX12_readSum 26 = .ok (.ifCond .eq 11, 3)) ∧ (decode cX12_readSum 29 = .ok (.aload_n 0, 1)) ∧ (decode cX12_readSum 30 = .ok (.iload_n 1, 1)) ∧ (decode cX12_readSum 31 = .ok (.invokevirtual 198, 3)) ∧ (decode cX12_readSum 34 = .ok (.goto (-29), 3)) ∧ (decode cX12_readSum 37 = .ok (.return_, 1)) := by decide +kernel
theorem dX12_readSum_20 : decode cX12_readSum 20 = .ok (.invokestatic 194, 3) := dX12_readSum_20g.1
theorem dX12_readSum_23 : decode cX12_readSum 23 = .ok (.invokevirtual 169, 3) := dX12_readSum_20g.2.1
theorem dX12_readSum_26 : decode cX12_readSum 26 = .ok (.ifCond .eq 11, 3) := dX12_readSum_20g.2.2.1
theorem dX12_readSum_29 : decode cX12_readSum 29 = .ok (.aload_n 0, 1) := dX12_readSum_20g.2.2.2.1
theorem dX12_readSum_30 : decode cX12_readSum 30 = .ok (.iload_n 1, 1) := dX12_readSum_20g.2.2.2.2.1
theorem dX12_readSum_31 : decode cX12_readSum 31 = .ok (.invokevirtual 198, 3) := dX12_readSum_20g.2.2.2.2.2.1
theorem dX12_readSum_34 : decode cX12_readSum 34 = .ok (.goto (-29), 3) := dX12_readSum_20g.2.2.2.2.2.2.1
theorem dX12_readSum_37 : decode cX12_readSum 37 = .ok (.return_, 1) := dX12_readSum_20g.2.2.2.2.2.2.2
set_option maxHeartbeats 4000000 in
set_option maxRecDepth 100000 in
theorem c_X12_readSum (l : Launch) (E : Nat → Nat) (D : va_G) (G : th_G) (k : Nat) (h0 : Nat) (hG0 : G h0 = some (10, 0)) (x1 : Int32) (ff cd va pl : Nat → Int32) (TT pp LL : Nat) (bb : Int32) (dd : Nat) (hdd : x1.toInt = (dd : Int)) (hd8 : dd ≤ 8) (hk : 8 ≤ dd + k) (fl : List Nat) (nk : Nat) (XX : Nat × Bool) (hdp : pd_dp (fl) = dd) (hiv : IV cd va pl TT XX (1, fl, nk, LL) pp bb) (hpart : ∀ (h0 : Nat) (hG0 : G h0 = some (10, 0)) (x1 : Int32) (ff cd va pl : Nat → Int32) (TT pp LL : Nat) (bb : Int32) (dd : Nat) (hdd : x1.toInt = (dd : Int)) (hd8 : dd ≤ 8) (hk : 8 ≤ dd + k) (fl : List Nat) (nk : Nat) (XX : Nat × Bool) (hdp : pd_dp (fl) = dd) (hiv : IV cd va pl TT XX (1, fl, nk, LL) pp bb), Met l yX12_readPart (tb (.code yX12_readPart cX12_readPart 3 none)) (rm (3 + 3 * k)) (va_Pc [.ref h0, .int x1] (PX E D G (fun H => RX E D G h0 ff cd va pl TT pp bb LL H))) (QXv E D G (fun H => ∃ (p2 : Nat) (b2 : Int32) (L2 : Nat), RX E D G h0 ff cd va pl TT p2 b2 L2 H ∧ pp ≤ p2 ∧ (b2.toInt = -1 → bb.toInt = -1 ∧ Gr (rC cd TT) 0 dd pp p2) ∧ IV cd va pl TT XX (2, fl, nk, L2) p2 b2)) 0 0 (th_A G)) : Met l yX12_readSum (tb (.code yX12_readSum cX12_readSum 2 none)) (rm (5 + 3 * k)) (va_Pc [.ref h0, .int x1] (PX E D G (fun H => RX E D G h0 ff cd va pl TT pp bb LL H))) (QXv E D G (fun H => ∃ (p2 : Nat) (b2 : Int32) (L2 : Nat), RX E D G h0 ff cd va pl TT p2 b2 L2 H ∧ pp ≤ p2 ∧ (b2.toInt = -1 → bb.toInt = -1 ∧ Gr (rC cd TT) 2 dd pp p2) ∧ IV cd va pl TT XX (2, fl, nk, L2) p2 b2 ∧ (b2.toInt = -1 → ¬ pd_op (rC cd TT p2)))) 0 0 (th_A G) := by
  refine Met.ofW (cc := cX12_readSum) (maxL := 2) (ret := none) (by decide) rfl ?_
  intro p e s m args below meth c s₁ B hml hv
  obtain ⟨hav, ⟨hI, hN, hK⟩, hX⟩ := hv
  have hx := B.exec
  have hb := B.bytes
  have hr := B.returns
  have hts := atoms_spec (ws := tb (.code yX12_readSum cX12_readSum 2 none)) B.pre
  have hown : s.vm.findClass RX12 = some m.cls := findClass_of_methodNamed B.named
  have hlocks := B.notSynchronized
  have hS : va_S (th_A G) s.heap s.heap [] := va_S.rf
  have hl := lv_entry ([.ref h0, .int x1]) (n := 2) (Nat.le_of_ble_eq_true rfl)
  rw [show entryFrame m args 2 = entryFrame m ([.ref h0, .int x1] : List Value).toArray 2 from by rw [hav], lg_entry_eq]
  generalize (lg_sl ([.ref h0, .int x1]) ++ List.replicate (2 - (lg_sl ([.ref h0, .int x1])).length) Slot.unset).toArray = ls at hl ⊢
  have hl : lv_has ls 2 [(0, .ref h0), (1, .int x1)] := hl
  generalize hR : (headSpec (tb (.code yX12_readSum cX12_readSum 2 none)) (rm (5 + 3 * k))).room = R
  have hR := hR.symm
  generalize hQ : MQ below (QXv E D G (fun H => ∃ (p2 : Nat) (b2 : Int32) (L2 : Nat), RX E D G h0 ff cd va pl TT p2 b2 L2 H ∧ pp ≤ p2 ∧ (b2.toInt = -1 → bb.toInt = -1 ∧ Gr (rC cd TT) 2 dd pp p2) ∧ IV cd va pl TT XX (2, fl, nk, L2) p2 b2 ∧ (b2.toInt = -1 → ¬ pd_op (rC cd TT p2)))) args s 0 0 (th_A G) = QF
  have hQ := hQ.symm
  obtain ⟨⟨hkf, hT, hz0, k24, ⟨a1, hf2, hq3, hA4⟩, ⟨a5, hf6, hq7, hA8⟩, ⟨w17, hg18, k25⟩, ⟨w19, hg20, k26⟩, hg21⟩, ⟨a9, hf10, hq11, hA12⟩, ⟨a13, hf14, hq15, hA16⟩, hPl, ⟨w22, hg23, k27⟩, k28, k29⟩ := hX
  have J_5 : ∀ (nn : Nat) (H : Heap) (locs : List Loc) (ls : Array Slot)  (p1 : Nat) (b1 : Int32) (L1 : Nat), (Int.toNat (((TT : Nat) : Int) - ((p1 : Nat) : Int)) = nn) → lv_has ls 2 [(0, .ref h0), (1, .int x1)] → ((0 : Int) ≤ x1.toInt ∧ x1.toInt ≤ 8) → (pp ≤ p1) → (b1.toInt = -1 → bb.toInt = -1 ∧ ∀ r, Gr (rC cd TT) 8 dd p1 r → Gr (rC cd TT) 2 dd pp r) → (IV cd va pl TT XX (2, fl, nk, L1) p1 b1) → (b1.toInt = -1 → rC cd TT p1 ≠ 142 ∧ rC cd TT p1 ≠ 147 ∧ rC cd TT p1 ≠ 137) → (RX E D G h0 ff cd va pl TT p1 b1 L1 H) → th_I (okM E) D G [] H → va_S (th_A G) s.heap H locs → W p l e R s m args below meth c H locs 0 0 QF (F0 m 5 ls []) := by
    intro nn
    induction nn using Nat.strongRecOn with
    | ind nn ih_5 =>
      intro H locs ls  p1 b1 L1 hm hl k1999 hle1 hInv hiv1 hno1 hE hI hS
      obtain ⟨⟨hkf, hT, hz0, k2023, ⟨a2000, hf2001, hq2002, hA2003⟩, ⟨a2004, hf2005, hq2006, hA2007⟩, ⟨w2016, hg2017, k2024⟩, ⟨w2018, hg2019, k2025⟩, hg2020⟩, ⟨a2008, hf2009, hq2010, hA2011⟩, ⟨a2012, hf2013, hq2014, hA2015⟩, hPl, ⟨w2021, hg2022, k2026⟩, k2027, k2028⟩ := hE
      refine lv_aload_n hx hb dX12_readSum_5 rfl (lv_at hl 0 rfl) ?_
      refine lv_bipush (v := 43) hx hb dX12_readSum_6 (by decide) ?_
      refine th_cSs (As := [.int 43]) (rest := [.ref h0]) (n := 1) (d := 0) ⟨hx, hb, hml, hown, hts⟩ (c_X12_sign l H 43) wd_1495 wd_1496 wd_13 wd_1497 (by decide +kernel) ⟨by rw [hR]; show 0 + 1 ≤ 5 + 3 * k; omega, by rw [hR]; show 8 + (1 + 11) + 40 * (0) ≤ 40 * (5 + 3 * k); omega⟩ hN hS rfl hl.1 rfl (Nat.le_of_ble_eq_true rfl) dX12_readSum_8 ⟨Nat.zero_le _, Nat.zero_le _⟩ (fun r2029 locs hp hS => ?_)
      obtain rfl : r2029 = 143 := hp.trans (by decide)
      refine mx_i (As := [.int 143]) (rest := []) (n := 1) (d := 1) ⟨hx, hb, hml, hown, hts⟩ (c_X12_takes0 l E D G h0 hG0 143 ff cd va pl TT p1 L1 b1 (by first | decide | omega)) wd_1587 wd_1589 wp_66 wd_13 wd_1590 (by decide +kernel) ⟨by rw [hR]; show 1 + 1 ≤ 5 + 3 * k; omega, by rw [hR]; show 8 + (3 + 11) + 40 * (1) ≤ 40 * (5 + 3 * k); omega⟩ hI hN hK hS hG0 (⟨⟨hkf, hT, hz0, by omega, ⟨a2000, hf2001, hq2002, hA2003⟩, ⟨a2004, hf2005, hq2006, hA2007⟩, ⟨w2016, hg2017, by first | omega | decide⟩, ⟨w2018, hg2019, by first | omega | decide⟩, hg2020⟩, ⟨a2008, hf2009, hq2010, hA2011⟩, ⟨a2012, hf2013, hq2014, hA2015⟩, hPl, ⟨w2021, hg2022, by first | omega | decide⟩, by omega, by first | omega | (intro; omega)⟩) rfl hl.1 rfl (Nat.le_of_ble_eq_true rfl) dX12_readSum_11 ⟨Nat.zero_le _, Nat.zero_le _⟩ (fun r2030 H locs hI hp hS => ?_)
      rcases hp with ⟨rfl, hp⟩ | ⟨rfl, hp⟩
      · skip
        try simp only [rg, not_and, Int.not_le] at hp
        have hp2031 := hp
        obtain ⟨hb2034, hc2032, k2033, hE⟩ := hp2031
        have hp2031 : True := trivial
        rw [show (143 : Int32).toInt = 143 from by decide] at hc2032
        obtain ⟨⟨hkf, hT, hz0, k2058, ⟨a2035, hf2036, hq2037, hA2038⟩, ⟨a2039, hf2040, hq2041, hA2042⟩, ⟨w2051, hg2052, k2059⟩, ⟨w2053, hg2054, k2060⟩, hg2055⟩, ⟨a2043, hf2044, hq2045, hA2046⟩, ⟨a2047, hf2048, hq2049, hA2050⟩, hPl, ⟨w2056, hg2057, k2061⟩, k2062, k2063⟩ := hE
        have hiv2064 : IV cd va pl TT XX (1, fl, nk, L1) (p1 + 1) b1 := hiv1.go (fun hb9 => pd_A_op k2033 (by unfold pd_op; omega))
        try rw [show (143 : Int32).toInt = 143 from by decide] at hp2031
        refine lv_if_ne (tgt := 29) hx hb dX12_readSum_14 (by decide) (fun _ => ?_) (fun c => absurd c (by decide))
        refine lv_aload_n hx hb dX12_readSum_29 rfl (lv_at hl 0 rfl) ?_
        refine lv_iload_n hx hb dX12_readSum_30 rfl (lv_at hl 1 rfl) ?_
        refine mx_v (As := [.int x1]) (rest := []) (n := 1) (d := (4 + 3 * k)) ⟨hx, hb, hml, hown, hts⟩ (c_X12_readTerm l E D G k h0 hG0 x1 ff cd va pl TT (p1 + 1) L1 b1 dd (by first | decide | omega) (by omega) (by omega) fl nk XX hdp hiv2064 hpart) wd_1599 wd_1601 wp_69 wd_13 wd_1602 (by decide +kernel) ⟨by rw [hR]; show (4 + 3 * k) + 1 ≤ 5 + 3 * k; omega, by rw [hR]; show 8 + (2 + 11) + 40 * ((4 + 3 * k)) ≤ 40 * (5 + 3 * k); omega⟩ hI hN hK hS hG0 (⟨⟨hkf, hT, hz0, by omega, ⟨a2035, hf2036, hq2037, hA2038⟩, ⟨a2039, hf2040, hq2041, hA2042⟩, ⟨w2051, hg2052, by first | omega | decide⟩, ⟨w2053, hg2054, by first | omega | decide⟩, hg2055⟩, ⟨a2043, hf2044, hq2045, hA2046⟩, ⟨a2047, hf2048, hq2049, hA2050⟩, hPl, ⟨w2056, hg2057, by first | omega | decide⟩, by omega, by first | omega | (intro; omega)⟩) rfl hl.1 rfl (Nat.le_of_ble_eq_true rfl) dX12_readSum_31 ⟨Nat.zero_le _, Nat.zero_le _⟩ (fun H locs hI hp hS => ?_)
        obtain ⟨pn2066, bn2067, Ln2068, hE, k2072, hi2069, hiv2070, hno2071⟩ := hp
        obtain ⟨⟨hkf, hT, hz0, k2096, ⟨a2073, hf2074, hq2075, hA2076⟩, ⟨a2077, hf2078, hq2079, hA2080⟩, ⟨w2089, hg2090, k2097⟩, ⟨w2091, hg2092, k2098⟩, hg2093⟩, ⟨a2081, hf2082, hq2083, hA2084⟩, ⟨a2085, hf2086, hq2087, hA2088⟩, hPl, ⟨w2094, hg2095, k2099⟩, k2100, k2101⟩ := hE
        have hInv2 : bn2067.toInt = -1 → bb.toInt = -1 ∧ ∀ r, Gr (rC cd TT) 8 dd pn2066 r → Gr (rC cd TT) 2 dd pp r := fun h => ⟨(hInv hb2034).1, r8_m (hInv hb2034).2 (by omega) (hi2069 h).2⟩
        refine lv_goto (tgt := 5) hx hb dX12_readSum_34 (by decide) ?_
        exact ih_5 _ (by omega) H locs ls  pn2066 bn2067 Ln2068 rfl (lv_sub hl [0, 1] rfl) ⟨by omega, by omega⟩ (by omega) (hInv2) (hiv2070) (hno2071) (⟨⟨hkf, hT, hz0, by omega, ⟨a2073, hf2074, hq2075, hA2076⟩, ⟨a2077, hf2078, hq2079, hA2080⟩, ⟨w2089, hg2090, by first | omega | decide⟩, ⟨w2091, hg2092, by first | omega | decide⟩, hg2093⟩, ⟨a2081, hf2082, hq2083, hA2084⟩, ⟨a2085, hf2086, hq2087, hA2088⟩, hPl, ⟨w2094, hg2095, by first | omega | decide⟩, by omega, by first | omega | (intro; omega)⟩) hI hS
      · skip
        try simp only [rg, not_and, Int.not_le] at hp
        have hp2102 := hp
        obtain ⟨hc2103, hE⟩ := hp2102
        have hp2102 : True := trivial
        rw [show (143 : Int32).toInt = 143 from by decide] at hc2103
        obtain ⟨⟨hkf, hT, hz0, k2128, ⟨a2105, hf2106, hq2107, hA2108⟩, ⟨a2109, hf2110, hq2111, hA2112⟩, ⟨w2121, hg2122, k2129⟩, ⟨w2123, hg2124, k2130⟩, hg2125⟩, ⟨a2113, hf2114, hq2115, hA2116⟩, ⟨a2117, hf2118, hq2119, hA2120⟩, hPl, ⟨w2126, hg2127, k2131⟩, k2132, k2133⟩ := hE
        try rw [show (143 : Int32).toInt = 143 from by decide] at hp2102
        refine lv_if_ne (tgt := 29) hx hb dX12_readSum_14 (by decide) (fun c => absurd c (by decide)) (fun _ => ?_)
        refine lv_aload_n hx hb dX12_readSum_17 rfl (lv_at hl 0 rfl) ?_
        refine lv_bipush (v := 45) hx hb dX12_readSum_18 (by decide) ?_
        refine th_cSs (As := [.int 45]) (rest := [.ref h0]) (n := 1) (d := 0) ⟨hx, hb, hml, hown, hts⟩ (c_X12_sign l H 45) wd_1495 wd_1496 wd_13 wd_1497 (by decide +kernel) ⟨by rw [hR]; show 0 + 1 ≤ 5 + 3 * k; omega, by rw [hR]; show 8 + (1 + 11) + 40 * (0) ≤ 40 * (5 + 3 * k); omega⟩ hN hS rfl hl.1 rfl (Nat.le_of_ble_eq_true rfl) dX12_readSum_20 ⟨Nat.zero_le _, Nat.zero_le _⟩ (fun r2134 locs hp hS => ?_)
        obtain rfl : r2134 = 145 := hp.trans (by decide)
        refine mx_i (As := [.int 145]) (rest := []) (n := 1) (d := 1) ⟨hx, hb, hml, hown, hts⟩ (c_X12_takes0 l E D G h0 hG0 145 ff cd va pl TT p1 L1 b1 (by first | decide | omega)) wd_1587 wd_1589 wp_66 wd_13 wd_1590 (by decide +kernel) ⟨by rw [hR]; show 1 + 1 ≤ 5 + 3 * k; omega, by rw [hR]; show 8 + (3 + 11) + 40 * (1) ≤ 40 * (5 + 3 * k); omega⟩ hI hN hK hS hG0 (⟨⟨hkf, hT, hz0, by omega, ⟨a2105, hf2106, hq2107, hA2108⟩, ⟨a2109, hf2110, hq2111, hA2112⟩, ⟨w2121, hg2122, by first | omega | decide⟩, ⟨w2123, hg2124, by first | omega | decide⟩, hg2125⟩, ⟨a2113, hf2114, hq2115, hA2116⟩, ⟨a2117, hf2118, hq2119, hA2120⟩, hPl, ⟨w2126, hg2127, by first | omega | decide⟩, by omega, by first | omega | (intro; omega)⟩) rfl hl.1 rfl (Nat.le_of_ble_eq_true rfl) dX12_readSum_23 ⟨Nat.zero_le _, Nat.zero_le _⟩ (fun r2135 H locs hI hp hS => ?_)
        rcases hp with ⟨rfl, hp⟩ | ⟨rfl, hp⟩
        · skip
          try simp only [rg, not_and, Int.not_le] at hp
          have hp2136 := hp
          obtain ⟨hb2139, hc2137, k2138, hE⟩ := hp2136
          have hp2136 : True := trivial
          rw [show (145 : Int32).toInt = 145 from by decide] at hc2137
          obtain ⟨⟨hkf, hT, hz0, k2163, ⟨a2140, hf2141, hq2142, hA2143⟩, ⟨a2144, hf2145, hq2146, hA2147⟩, ⟨w2156, hg2157, k2164⟩, ⟨w2158, hg2159, k2165⟩, hg2160⟩, ⟨a2148, hf2149, hq2150, hA2151⟩, ⟨a2152, hf2153, hq2154, hA2155⟩, hPl, ⟨w2161, hg2162, k2166⟩, k2167, k2168⟩ := hE
          have hiv2169 : IV cd va pl TT XX (1, fl, nk, L1) (p1 + 1) b1 := hiv1.go (fun hb9 => pd_A_op k2138 (by unfold pd_op; omega))
          try rw [show (145 : Int32).toInt = 145 from by decide] at hp2136
          refine lv_if_eq (tgt := 37) hx hb dX12_readSum_26 (by decide) (fun c => absurd c (by decide)) (fun _ => ?_)
          refine lv_aload_n hx hb dX12_readSum_29 rfl (lv_at hl 0 rfl) ?_
          refine lv_iload_n hx hb dX12_readSum_30 rfl (lv_at hl 1 rfl) ?_
          refine mx_v (As := [.int x1]) (rest := []) (n := 1) (d := (4 + 3 * k)) ⟨hx, hb, hml, hown, hts⟩ (c_X12_readTerm l E D G k h0 hG0 x1 ff cd va pl TT (p1 + 1) L1 b1 dd (by first | decide | omega) (by omega) (by omega) fl nk XX hdp hiv2169 hpart) wd_1599 wd_1601 wp_69 wd_13 wd_1602 (by decide +kernel) ⟨by rw [hR]; show (4 + 3 * k) + 1 ≤ 5 + 3 * k; omega, by rw [hR]; show 8 + (2 + 11) + 40 * ((4 + 3 * k)) ≤ 40 * (5 + 3 * k); omega⟩ hI hN hK hS hG0 (⟨⟨hkf, hT, hz0, by omega, ⟨a2140, hf2141, hq2142, hA2143⟩, ⟨a2144, hf2145, hq2146, hA2147⟩, ⟨w2156, hg2157, by first | omega | decide⟩, ⟨w2158, hg2159, by first | omega | decide⟩, hg2160⟩, ⟨a2148, hf2149, hq2150, hA2151⟩, ⟨a2152, hf2153, hq2154, hA2155⟩, hPl, ⟨w2161, hg2162, by first | omega | decide⟩, by omega, by first | omega | (intro; omega)⟩) rfl hl.1 rfl (Nat.le_of_ble_eq_true rfl) dX12_readSum_31 ⟨Nat.zero_le _, Nat.zero_le _⟩ (fun H locs hI hp hS => ?_)
          obtain ⟨pn2171, bn2172, Ln2173, hE, k2177, hi2174, hiv2175, hno2176⟩ := hp
          obtain ⟨⟨hkf, hT, hz0, k2201, ⟨a2178, hf2179, hq2180, hA2181⟩, ⟨a2182, hf2183, hq2184, hA2185⟩, ⟨w2194, hg2195, k2202⟩, ⟨w2196, hg2197, k2203⟩, hg2198⟩, ⟨a2186, hf2187, hq2188, hA2189⟩, ⟨a2190, hf2191, hq2192, hA2193⟩, hPl, ⟨w2199, hg2200, k2204⟩, k2205, k2206⟩ := hE
          have hInv2 : bn2172.toInt = -1 → bb.toInt = -1 ∧ ∀ r, Gr (rC cd TT) 8 dd pn2171 r → Gr (rC cd TT) 2 dd pp r := fun h => ⟨(hInv hb2139).1, r8_m (hInv hb2139).2 (by omega) (hi2174 h).2⟩
          refine lv_goto (tgt := 5) hx hb dX12_readSum_34 (by decide) ?_
          exact ih_5 _ (by omega) H locs ls  pn2171 bn2172 Ln2173 rfl (lv_sub hl [0, 1] rfl) ⟨by omega, by omega⟩ (by omega) (hInv2) (hiv2175) (hno2176) (⟨⟨hkf, hT, hz0, by omega, ⟨a2178, hf2179, hq2180, hA2181⟩, ⟨a2182, hf2183, hq2184, hA2185⟩, ⟨w2194, hg2195, by first | omega | decide⟩, ⟨w2196, hg2197, by first | omega | decide⟩, hg2198⟩, ⟨a2186, hf2187, hq2188, hA2189⟩, ⟨a2190, hf2191, hq2192, hA2193⟩, hPl, ⟨w2199, hg2200, by first | omega | decide⟩, by omega, by first | omega | (intro; omega)⟩) hI hS
        · skip
          try simp only [rg, not_and, Int.not_le] at hp
          have hp2207 := hp
          obtain ⟨hc2208, hE⟩ := hp2207
          have hp2207 : True := trivial
          rw [show (145 : Int32).toInt = 145 from by decide] at hc2208
          obtain ⟨⟨hkf, hT, hz0, k2233, ⟨a2210, hf2211, hq2212, hA2213⟩, ⟨a2214, hf2215, hq2216, hA2217⟩, ⟨w2226, hg2227, k2234⟩, ⟨w2228, hg2229, k2235⟩, hg2230⟩, ⟨a2218, hf2219, hq2220, hA2221⟩, ⟨a2222, hf2223, hq2224, hA2225⟩, hPl, ⟨w2231, hg2232, k2236⟩, k2237, k2238⟩ := hE
          try rw [show (145 : Int32).toInt = 145 from by decide] at hp2207
          refine lv_if_eq (tgt := 37) hx hb dX12_readSum_26 (by decide) (fun _ => ?_) (fun c => absurd c (by decide))
          have hpost : ∃ (p2 : Nat) (b2 : Int32) (L2 : Nat), RX E D G h0 ff cd va pl TT p2 b2 L2 H ∧ pp ≤ p2 ∧ (b2.toInt = -1 → bb.toInt = -1 ∧ Gr (rC cd TT) 2 dd pp p2) ∧ IV cd va pl TT XX (2, fl, nk, L2) p2 b2 ∧ (b2.toInt = -1 → ¬ pd_op (rC cd TT p2)) := ⟨p1, b1, L1, ⟨⟨hkf, hT, hz0, by omega, ⟨a2210, hf2211, hq2212, hA2213⟩, ⟨a2214, hf2215, hq2216, hA2217⟩, ⟨w2226, hg2227, by first | omega | decide⟩, ⟨w2228, hg2229, by first | omega | decide⟩, hg2230⟩, ⟨a2218, hf2219, hq2220, hA2221⟩, ⟨a2222, hf2223, hq2224, hA2225⟩, hPl, ⟨w2231, hg2232, by first | omega | decide⟩, by omega, by first | omega | (intro; omega)⟩, by omega, fun h => ⟨(hInv h).1, r8_x (hInv h).2 (by omega) (by omega)⟩, hiv1, fun hb9 => (by have := hno1 hb9; unfold pd_op; omega)⟩
          rw [hQ]
          exact W.vret hx hb hr (fun t ht hW => ⟨⟨(), rfl, trivial, ⟨by rw [ht]; exact hI, hN.warm hW, va_K.moved hW.alike hK⟩, by first | (rw [ht]; exact hpost) | exact hpost⟩, hS.F ht⟩) hS.2.2 dX12_readSum_37
  refine lv_aload_n hx hb dX12_readSum_0 rfl (lv_at hl 0 rfl) ?_
  refine lv_iload_n hx hb dX12_readSum_1 rfl (lv_at hl 1 rfl) ?_
  refine mx_v (As := [.int x1]) (rest := []) (n := 1) (d := (4 + 3 * k)) ⟨hx, hb, hml, hown, hts⟩ (c_X12_readTerm l E D G k h0 hG0 x1 ff cd va pl TT pp LL bb dd (by first | decide | omega) (by omega) (by omega) fl nk XX hdp hiv hpart) wd_1599 wd_1601 wp_69 wd_13 wd_1602 (by decide +kernel) ⟨by rw [hR]; show (4 + 3 * k) + 1 ≤ 5 + 3 * k; omega, by rw [hR]; show 8 + (2 + 11) + 40 * ((4 + 3 * k)) ≤ 40 * (5 + 3 * k); omega⟩ hI hN hK hS hG0 (⟨⟨hkf, hT, hz0, by omega, ⟨a1, hf2, hq3, hA4⟩, ⟨a5, hf6, hq7, hA8⟩, ⟨w17, hg18, by first | omega | decide⟩, ⟨w19, hg20, by first | omega | decide⟩, hg21⟩, ⟨a9, hf10, hq11, hA12⟩, ⟨a13, hf14, hq15, hA16⟩, hPl, ⟨w22, hg23, by first | omega | decide⟩, by omega, by first | omega | (intro; omega)⟩) rfl hl.1 rfl (Nat.le_of_ble_eq_true rfl) dX12_readSum_2 ⟨Nat.zero_le _, Nat.zero_le _⟩ (fun H locs hI hp hS => ?_)
  obtain ⟨pn2240, bn2241, Ln2242, hE, k2246, hi2243, hiv2244, hno2245⟩ := hp
  obtain ⟨⟨hkf, hT, hz0, k2270, ⟨a2247, hf2248, hq2249, hA2250⟩, ⟨a2251, hf2252, hq2253, hA2254⟩, ⟨w2263, hg2264, k2271⟩, ⟨w2265, hg2266, k2272⟩, hg2267⟩, ⟨a2255, hf2256, hq2257, hA2258⟩, ⟨a2259, hf2260, hq2261, hA2262⟩, hPl, ⟨w2268, hg2269, k2273⟩, k2274, k2275⟩ := hE
  have hInv0 : bn2241.toInt = -1 → bb.toInt = -1 ∧ ∀ r, Gr (rC cd TT) 8 dd pn2240 r → Gr (rC cd TT) 2 dd pp r := fun h => ⟨(hi2243 h).1, r8_i (hi2243 h).2⟩
  exact J_5 _ H locs ls  pn2240 bn2241 Ln2242 rfl (lv_sub hl [0, 1] rfl) ⟨by omega, by omega⟩ (by omega) (hInv0) (hiv2244) (hno2245) (⟨⟨hkf, hT, hz0, by omega, ⟨a2247, hf2248, hq2249, hA2250⟩, ⟨a2251, hf2252, hq2253, hA2254⟩, ⟨w2263, hg2264, by first | omega | decide⟩, ⟨w2265, hg2266, by first | omega | decide⟩, hg2267⟩, ⟨a2255, hf2256, hq2257, hA2258⟩, ⟨a2259, hf2260, hq2261, hA2262⟩, hPl, ⟨w2268, hg2269, by first | omega | decide⟩, by omega, by first | omega | (intro; omega)⟩) hI hS
