theorem wp_70 : Cond.selects RX12 yX12_readPart yX12_readPart ∈ TB := tv 70 (by decide +kernel) (by decide +kernel)
theorem wd_1603 : (Cond.methodLink RX12 (201 : Nat) yX12_readPart) ∈ TB := tw 1603 (by decide +kernel) (by decide +kernel)
theorem wd_1605 : (Jvm.Cond.instanceMethod yX12_readPart) ∈ TB := tw 1605 (by decide +kernel) (by decide +kernel)
theorem wd_1606 : (Cond.code yX12_readPart cX12_readPart 3 (Option.none : Option Jvm.ClassFile.FieldType)) ∈ TB := tw 1606 (by decide +kernel) (by decide +kernel)
theorem dX12_readTerm_0g : (decode cX12_readTerm 0 = .ok (.aload_n 0, 1)) ∧ (decode cX12_readTerm 1 = .ok (.iload_n 1, 1)) ∧ (decode cX12_readTerm 2 = .ok (.invokevirtual 201, 3)) ∧ (decode cX12_readTerm 5 = .ok (.aload_n 0, 1)) ∧ (decode cX12_readTerm 6 = .ok (.bipush 42, 2)) ∧ (decode cX12_readTerm 8 = .ok (.invokestatic 194, 3)) ∧ (decode cX12_readTerm 11 = .ok (.invokevirtual 169, 3)) ∧ (decode cX12_readTerm 14 = .ok (.ifCond .ne 27, 3)) ∧ (decode cX12_readTerm 17 = .ok (.aload_n 0, 1)) ∧ (decode cX12_readTerm 18 = .ok (.bipush 47, 2)) := by decide +kernel
theorem dX12_readTerm_0 : decode cX12_readTerm 0 = .ok (.aload_n 0, 1) := dX12_readTerm_0g.1
theorem dX12_readTerm_1 : decode cX12_readTerm 1 = .ok (.iload_n 1, 1) := dX12_readTerm_0g.2.1
theorem dX12_readTerm_2 : decode cX12_readTerm 2 = .ok (.invokevirtual 201, 3) := dX12_readTerm_0g.2.2.1
theorem dX12_readTerm_5 : decode cX12_readTerm 5 = .ok (.aload_n 0, 1) := dX12_readTerm_0g.2.2.2.1
theorem dX12_readTerm_6 : decode cX12_readTerm 6 = .ok (.bipush 42, 2) := dX12_readTerm_0g.2.2.2.2.1
theorem dX12_readTerm_8 : decode cX12_readTerm 8 = .ok (.invokestatic 194, 3) := dX12_readTerm_0g.2.2.2.2.2.1
theorem dX12_readTerm_11 : decode cX12_readTerm 11 = .ok (.invokevirtual 169, 3) := dX12_readTerm_0g.2.2.2.2.2.2.1
theorem dX12_readTerm_14 : decode cX12_readTerm 14 = .ok (.ifCond .ne 27, 3) := dX12_readTerm_0g.2.2.2.2.2.2.2.1
theorem dX12_readTerm_17 : decode cX12_readTerm 17 = .ok (.aload_n 0, 1) := dX12_readTerm_0g.2.2.2.2.2.2.2.2.1
theorem dX12_readTerm_18 : decode cX12_readTerm 18 = .ok (.bipush 47, 2) := dX12_readTerm_0g.2.2.2.2.2.2.2.2.2
theorem dX12_readTerm_20g : (decode cX12_readTerm 20 = .ok (.invokestatic 194, 3)) ∧ (decode cX12_readTerm 23 = .ok (.invokevirtual 169, 3)) ∧ (decode cX12_readTerm 26 = .ok (.ifCond .ne 15, 3)) ∧ (decode cX12_readTerm 29 = .ok (.aload_n 0, 1)) ∧ (decode cX12_readTerm 30 = .ok (.bipush 37, 2)) ∧ (decode cX12_readTerm 32 = .ok (.invokestatic 194, 3)) ∧ (decode cX12_readTerm 35 = .ok (.invokevirtual 169, 3)) ∧ (decode cX12_readTerm 38 = .ok (.ifCond .eq 11, 3)) ∧ (decode cX12_readTerm 41 = .ok (.aload_n 0, 1)) ∧ (decode cX12_readTerm 42 = .ok (.iload_n 1, 1)) := by decide +kernel
theorem dX12_readTerm_20 : decode cX12_readTerm 20 = .ok (.invokestatic 194, 3) := dX12_readTerm_20g.1
theorem dX12_readTerm_23 : decode cX12_readTerm 23 = .ok (.invokevirtual 169, 3) := dX12_readTerm_20g.2.1
theorem dX12_readTerm_26 : decode cX12_readTerm 26 = .ok (.ifCond .ne 15, 3) := dX12_readTerm_20g.2.2.1
theorem dX12_readTerm_29 : decode cX12_readTerm 29 = .ok (.aload_n 0, 1) := dX12_readTerm_20g.2.2.2.1
theorem dX12_readTerm_30 : decode cX12_readTerm 30 = .ok (.bipush 37, 2) := dX12_readTerm_20g.2.2.2.2.1
theorem dX12_readTerm_32 : decode cX12_readTerm 32 = .ok (.invokestatic 194, 3) := dX12_readTerm_20g.2.2.2.2.2.1
theorem dX12_readTerm_35 : decode cX12_readTerm 35 = .ok (.invokevirtual 169, 3) := dX12_readTerm_20g.2.2.2.2.2.2.1
theorem dX12_readTerm_38 : decode cX12_readTerm 38 = .ok (.ifCond .eq 11, 3) := dX12_readTerm_20g.2.2.2.2.2.2.2.1
theorem dX12_readTerm_41 : decode cX12_readTerm 41 = .ok (.aload_n 0, 1) := dX12_readTerm_20g.2.2.2.2.2.2.2.2.1
theorem dX12_readTerm_42 : decode cX12_readTerm 42 = .ok (.iload_n 1, 1) := dX12_readTerm_20g.2.2.2.2.2.2.2.2.2
theorem dX12_readTerm_43g : (decode cX12_readTerm 43 = .ok (.invokevirtual 201, 3)) ∧ (decode cX12_readTerm 46 = .ok (.goto (-41), 3)) ∧ (decode cX12_readTerm 49 = .ok (.return_, 1)) := by decide +kernel
theorem dX12_readTerm_43 : decode cX12_readTerm 43 = .ok (.invokevirtual 201, 3) := dX12_readTerm_43g.1
theorem dX12_readTerm_46 : decode cX12_readTerm 46 = .ok (.goto (-41), 3) := dX12_readTerm_43g.2.1
theorem dX12_readTerm_49 : decode cX12_readTerm 49 = .ok (.return_, 1) := dX12_readTerm_43g.2.2
set_option maxHeartbeats 4000000 in
set_option maxRecDepth 100000 in
theorem c_X12_readTerm (l : Launch) (E : Nat → Nat) (D : va_G) (G : th_G) (k : Nat) (h0 : Nat) (hG0 : G h0 = some (10, 0)) (x1 : Int32) (ff cd va pl : Nat → Int32) (TT pp LL : Nat) (bb : Int32) (dd : Nat) (hdd : x1.toInt = (dd : Int)) (hd8 : dd ≤ 8) (hk : 8 ≤ dd + k) (fl : List Nat) (nk : Nat) (XX : Nat × Bool) (hdp : pd_dp (fl) = dd) (hiv : IV cd va pl TT XX (1, fl, nk, LL) pp bb) (hpart : ∀ (h0 : Nat) (hG0 : G h0 = some (10, 0)) (x1 : Int32) (ff cd va pl : Nat → Int32) (TT pp LL : Nat) (bb : Int32) (dd : Nat) (hdd : x1.toInt = (dd : Int)) (hd8 : dd ≤ 8) (hk : 8 ≤ dd + k) (fl : List Nat) (nk : Nat) (XX : Nat × Bool) (hdp : pd_dp (fl) = dd) (hiv : IV cd va pl TT XX (1, fl, nk, LL) pp bb), Met l yX12_readPart (tb (.code yX12_readPart cX12_readPart 3 none)) (rm (3 + 3 * k)) (va_Pc [.ref h0, .int x1] (PX E D G (fun H => RX E D G h0 ff cd va pl TT pp bb LL H))) (QXv E D G (fun H => ∃ (p2 : Nat) (b2 : Int32) (L2 : Nat), RX E D G h0 ff cd va pl TT p2 b2 L2 H ∧ pp ≤ p2 ∧ (b2.toInt = -1 → bb.toInt = -1 ∧ Gr (rC cd TT) 0 dd pp p2) ∧ IV cd va pl TT XX (2, fl, nk, L2) p2 b2)) 0 0 (th_A G)) : Met l yX12_readTerm (tb (.code yX12_readTerm cX12_readTerm 2 none)) (rm (4 + 3 * k)) (va_Pc [.ref h0, .int x1] (PX E D G (fun H => RX E D G h0 ff cd va pl TT pp bb LL H))) (QXv E D G (fun H => ∃ (p2 : Nat) (b2 : Int32) (L2 : Nat), RX E D G h0 ff cd va pl TT p2 b2 L2 H ∧ pp ≤ p2 ∧ (b2.toInt = -1 → bb.toInt = -1 ∧ Gr (rC cd TT) 1 dd pp p2) ∧ IV cd va pl TT XX (2, fl, nk, L2) p2 b2 ∧ (b2.toInt = -1 → rC cd TT p2 ≠ 142 ∧ rC cd TT p2 ≠ 147 ∧ rC cd TT p2 ≠ 137))) 0 0 (th_A G) := by
  refine Met.ofW (cc := cX12_readTerm) (maxL := 2) (ret := none) (by decide) rfl ?_
  intro p e s m args below meth c s₁ B hml hv
  obtain ⟨hav, ⟨hI, hN, hK⟩, hX⟩ := hv
  have hx := B.exec
  have hb := B.bytes
  have hr := B.returns
  have hts := atoms_spec (ws := tb (.code yX12_readTerm cX12_readTerm 2 none)) B.pre
  have hown : s.vm.findClass RX12 = some m.cls := findClass_of_methodNamed B.named
  have hlocks := B.notSynchronized
  have hS : va_S (th_A G) s.heap s.heap [] := va_S.rf
  have hl := lv_entry ([.ref h0, .int x1]) (n := 2) (Nat.le_of_ble_eq_true rfl)
  rw [show entryFrame m args 2 = entryFrame m ([.ref h0, .int x1] : List Value).toArray 2 from by rw [hav], lg_entry_eq]
  generalize (lg_sl ([.ref h0, .int x1]) ++ List.replicate (2 - (lg_sl ([.ref h0, .int x1])).length) Slot.unset).toArray = ls at hl ⊢
  have hl : lv_has ls 2 [(0, .ref h0), (1, .int x1)] := hl
  generalize hR : (headSpec (tb (.code yX12_readTerm cX12_readTerm 2 none)) (rm (4 + 3 * k))).room = R
  have hR := hR.symm
  generalize hQ : MQ below (QXv E D G (fun H => ∃ (p2 : Nat) (b2 : Int32) (L2 : Nat), RX E D G h0 ff cd va pl TT p2 b2 L2 H ∧ pp ≤ p2 ∧ (b2.toInt = -1 → bb.toInt = -1 ∧ Gr (rC cd TT) 1 dd pp p2) ∧ IV cd va pl TT XX (2, fl, nk, L2) p2 b2 ∧ (b2.toInt = -1 → rC cd TT p2 ≠ 142 ∧ rC cd TT p2 ≠ 147 ∧ rC cd TT p2 ≠ 137))) args s 0 0 (th_A G) = QF
  have hQ := hQ.symm
  obtain ⟨⟨hkf, hT, hz0, k24, ⟨a1, hf2, hq3, hA4⟩, ⟨a5, hf6, hq7, hA8⟩, ⟨w17, hg18, k25⟩, ⟨w19, hg20, k26⟩, hg21⟩, ⟨a9, hf10, hq11, hA12⟩, ⟨a13, hf14, hq15, hA16⟩, hPl, ⟨w22, hg23, k27⟩, k28, k29⟩ := hX
  have J_5 : ∀ (nn : Nat) (H : Heap) (locs : List Loc) (ls : Array Slot)  (p1 : Nat) (b1 : Int32) (L1 : Nat), (Int.toNat (((TT : Nat) : Int) - ((p1 : Nat) : Int)) = nn) → lv_has ls 2 [(0, .ref h0), (1, .int x1)] → ((0 : Int) ≤ x1.toInt ∧ x1.toInt ≤ 8) → (pp ≤ p1) → (b1.toInt = -1 → bb.toInt = -1 ∧ ∀ r, Gr (rC cd TT) 7 dd p1 r → Gr (rC cd TT) 1 dd pp r) → (IV cd va pl TT XX (2, fl, nk, L1) p1 b1) → (RX E D G h0 ff cd va pl TT p1 b1 L1 H) → th_I (okM E) D G [] H → va_S (th_A G) s.heap H locs → W p l e R s m args below meth c H locs 0 0 QF (F0 m 5 ls []) := by
    intro nn
    induction nn using Nat.strongRecOn with
    | ind nn ih_5 =>
      intro H locs ls  p1 b1 L1 hm hl k2705 hle1 hInv hiv1 hE hI hS
      obtain ⟨⟨hkf, hT, hz0, k2729, ⟨a2706, hf2707, hq2708, hA2709⟩, ⟨a2710, hf2711, hq2712, hA2713⟩, ⟨w2722, hg2723, k2730⟩, ⟨w2724, hg2725, k2731⟩, hg2726⟩, ⟨a2714, hf2715, hq2716, hA2717⟩, ⟨a2718, hf2719, hq2720, hA2721⟩, hPl, ⟨w2727, hg2728, k2732⟩, k2733, k2734⟩ := hE
      refine lv_aload_n hx hb dX12_readTerm_5 rfl (lv_at hl 0 rfl) ?_
      refine lv_bipush (v := 42) hx hb dX12_readTerm_6 (by decide) ?_
      refine th_cSs (As := [.int 42]) (rest := [.ref h0]) (n := 1) (d := 0) ⟨hx, hb, hml, hown, hts⟩ (c_X12_sign l H 42) wd_1495 wd_1496 wd_13 wd_1497 (by decide +kernel) ⟨by rw [hR]; show 0 + 1 ≤ 4 + 3 * k; omega, by rw [hR]; show 8 + (1 + 11) + 40 * (0) ≤ 40 * (4 + 3 * k); omega⟩ hN hS rfl hl.1 rfl (Nat.le_of_ble_eq_true rfl) dX12_readTerm_8 ⟨Nat.zero_le _, Nat.zero_le _⟩ (fun r2735 locs hp hS => ?_)
      obtain rfl : r2735 = 142 := hp.trans (by decide)
      refine mx_i (As := [.int 142]) (rest := []) (n := 1) (d := 1) ⟨hx, hb, hml, hown, hts⟩ (c_X12_takes0 l E D G h0 hG0 142 ff cd va pl TT p1 L1 b1 (by first | decide | omega)) wd_1587 wd_1589 wp_66 wd_13 wd_1590 (by decide +kernel) ⟨by rw [hR]; show 1 + 1 ≤ 4 + 3 * k; omega, by rw [hR]; show 8 + (3 + 11) + 40 * (1) ≤ 40 * (4 + 3 * k); omega⟩ hI hN hK hS hG0 (⟨⟨hkf, hT, hz0, by omega, ⟨a2706, hf2707, hq2708, hA2709⟩, ⟨a2710, hf2711, hq2712, hA2713⟩, ⟨w2722, hg2723, by first | omega | decide⟩, ⟨w2724, hg2725, by first | omega | decide⟩, hg2726⟩, ⟨a2714, hf2715, hq2716, hA2717⟩, ⟨a2718, hf2719, hq2720, hA2721⟩, hPl, ⟨w2727, hg2728, by first | omega | decide⟩, by omega, by first | omega | (intro; omega)⟩) rfl hl.1 rfl (Nat.le_of_ble_eq_true rfl) dX12_readTerm_11 ⟨Nat.zero_le _, Nat.zero_le _⟩ (fun r2736 H locs hI hp hS => ?_)
      rcases hp with ⟨rfl, hp⟩ | ⟨rfl, hp⟩
      · skip
        try simp only [rg, not_and, Int.not_le] at hp
        have hp2737 := hp
        obtain ⟨hb2740, hc2738, k2739, hE⟩ := hp2737
        have hp2737 : True := trivial
        rw [show (142 : Int32).toInt = 142 from by decide] at hc2738
        obtain ⟨⟨hkf, hT, hz0, k2764, ⟨a2741, hf2742, hq2743, hA2744⟩, ⟨a2745, hf2746, hq2747, hA2748⟩, ⟨w2757, hg2758, k2765⟩, ⟨w2759, hg2760, k2766⟩, hg2761⟩, ⟨a2749, hf2750, hq2751, hA2752⟩, ⟨a2753, hf2754, hq2755, hA2756⟩, hPl, ⟨w2762, hg2763, k2767⟩, k2768, k2769⟩ := hE
        have hiv2770 : IV cd va pl TT XX (1, fl, nk, L1) (p1 + 1) b1 := hiv1.go (fun hb9 => pd_A_op k2739 (by unfold pd_op; omega))
        try rw [show (142 : Int32).toInt = 142 from by decide] at hp2737
        refine lv_if_ne (tgt := 41) hx hb dX12_readTerm_14 (by decide) (fun _ => ?_) (fun c => absurd c (by decide))
        refine lv_aload_n hx hb dX12_readTerm_41 rfl (lv_at hl 0 rfl) ?_
        refine lv_iload_n hx hb dX12_readTerm_42 rfl (lv_at hl 1 rfl) ?_
        refine mx_v (As := [.int x1]) (rest := []) (n := 1) (d := (3 + 3 * k)) ⟨hx, hb, hml, hown, hts⟩ (hpart h0 hG0 x1 ff cd va pl TT (p1 + 1) L1 b1 dd (by first | decide | omega) (by omega) (by omega) fl nk XX hdp hiv2770) wd_1603 wd_1605 wp_70 wd_13 wd_1606 (by decide +kernel) ⟨by rw [hR]; show (3 + 3 * k) + 1 ≤ 4 + 3 * k; omega, by rw [hR]; show 8 + (3 + 11) + 40 * ((3 + 3 * k)) ≤ 40 * (4 + 3 * k); omega⟩ hI hN hK hS hG0 (⟨⟨hkf, hT, hz0, by omega, ⟨a2741, hf2742, hq2743, hA2744⟩, ⟨a2745, hf2746, hq2747, hA2748⟩, ⟨w2757, hg2758, by first | omega | decide⟩, ⟨w2759, hg2760, by first | omega | decide⟩, hg2761⟩, ⟨a2749, hf2750, hq2751, hA2752⟩, ⟨a2753, hf2754, hq2755, hA2756⟩, hPl, ⟨w2762, hg2763, by first | omega | decide⟩, by omega, by first | omega | (intro; omega)⟩) rfl hl.1 rfl (Nat.le_of_ble_eq_true rfl) dX12_readTerm_43 ⟨Nat.zero_le _, Nat.zero_le _⟩ (fun H locs hI hp hS => ?_)
        obtain ⟨pn2772, bn2773, Ln2774, hE, k2777, hi2775, hiv2776⟩ := hp
        obtain ⟨⟨hkf, hT, hz0, k2801, ⟨a2778, hf2779, hq2780, hA2781⟩, ⟨a2782, hf2783, hq2784, hA2785⟩, ⟨w2794, hg2795, k2802⟩, ⟨w2796, hg2797, k2803⟩, hg2798⟩, ⟨a2786, hf2787, hq2788, hA2789⟩, ⟨a2790, hf2791, hq2792, hA2793⟩, hPl, ⟨w2799, hg2800, k2804⟩, k2805, k2806⟩ := hE
        have hInv2 : bn2773.toInt = -1 → bb.toInt = -1 ∧ ∀ r, Gr (rC cd TT) 7 dd pn2772 r → Gr (rC cd TT) 1 dd pp r := fun h => ⟨(hInv hb2740).1, r7_m (hInv hb2740).2 (by omega) (hi2775 h).2⟩
        refine lv_goto (tgt := 5) hx hb dX12_readTerm_46 (by decide) ?_
        exact ih_5 _ (by omega) H locs ls  pn2772 bn2773 Ln2774 rfl (lv_sub hl [0, 1] rfl) ⟨by omega, by omega⟩ (by omega) (hInv2) (hiv2776) (⟨⟨hkf, hT, hz0, by omega, ⟨a2778, hf2779, hq2780, hA2781⟩, ⟨a2782, hf2783, hq2784, hA2785⟩, ⟨w2794, hg2795, by first | omega | decide⟩, ⟨w2796, hg2797, by first | omega | decide⟩, hg2798⟩, ⟨a2786, hf2787, hq2788, hA2789⟩, ⟨a2790, hf2791, hq2792, hA2793⟩, hPl, ⟨w2799, hg2800, by first | omega | decide⟩, by omega, by first | omega | (intro; omega)⟩) hI hS
      · skip
        try simp only [rg, not_and, Int.not_le] at hp
        have hp2807 := hp
        obtain ⟨hc2808, hE⟩ := hp2807
        have hp2807 : True := trivial
        rw [show (142 : Int32).toInt = 142 from by decide] at hc2808
        obtain ⟨⟨hkf, hT, hz0, k2833, ⟨a2810, hf2811, hq2812, hA2813⟩, ⟨a2814, hf2815, hq2816, hA2817⟩, ⟨w2826, hg2827, k2834⟩, ⟨w2828, hg2829, k2835⟩, hg2830⟩, ⟨a2818, hf2819, hq2820, hA2821⟩, ⟨a2822, hf2823, hq2824, hA2825⟩, hPl, ⟨w2831, hg2832, k2836⟩, k2837, k2838⟩ := hE
        try rw [show (142 : Int32).toInt = 142 from by decide] at hp2807
        refine lv_if_ne (tgt := 41) hx hb dX12_readTerm_14 (by decide) (fun c => absurd c (by decide)) (fun _ => ?_)
        refine lv_aload_n hx hb dX12_readTerm_17 rfl (lv_at hl 0 rfl) ?_
        refine lv_bipush (v := 47) hx hb dX12_readTerm_18 (by decide) ?_
        refine th_cSs (As := [.int 47]) (rest := [.ref h0]) (n := 1) (d := 0) ⟨hx, hb, hml, hown, hts⟩ (c_X12_sign l H 47) wd_1495 wd_1496 wd_13 wd_1497 (by decide +kernel) ⟨by rw [hR]; show 0 + 1 ≤ 4 + 3 * k; omega, by rw [hR]; show 8 + (1 + 11) + 40 * (0) ≤ 40 * (4 + 3 * k); omega⟩ hN hS rfl hl.1 rfl (Nat.le_of_ble_eq_true rfl) dX12_readTerm_20 ⟨Nat.zero_le _, Nat.zero_le _⟩ (fun r2839 locs hp hS => ?_)
        obtain rfl : r2839 = 147 := hp.trans (by decide)
        refine mx_i (As := [.int 147]) (rest := []) (n := 1) (d := 1) ⟨hx, hb, hml, hown, hts⟩ (c_X12_takes0 l E D G h0 hG0 147 ff cd va pl TT p1 L1 b1 (by first | decide | omega)) wd_1587 wd_1589 wp_66 wd_13 wd_1590 (by decide +kernel) ⟨by rw [hR]; show 1 + 1 ≤ 4 + 3 * k; omega, by rw [hR]; show 8 + (3 + 11) + 40 * (1) ≤ 40 * (4 + 3 * k); omega⟩ hI hN hK hS hG0 (⟨⟨hkf, hT, hz0, by omega, ⟨a2810, hf2811, hq2812, hA2813⟩, ⟨a2814, hf2815, hq2816, hA2817⟩, ⟨w2826, hg2827, by first | omega | decide⟩, ⟨w2828, hg2829, by first | omega | decide⟩, hg2830⟩, ⟨a2818, hf2819, hq2820, hA2821⟩, ⟨a2822, hf2823, hq2824, hA2825⟩, hPl, ⟨w2831, hg2832, by first | omega | decide⟩, by omega, by first | omega | (intro; omega)⟩) rfl hl.1 rfl (Nat.le_of_ble_eq_true rfl) dX12_readTerm_23 ⟨Nat.zero_le _, Nat.zero_le _⟩ (fun r2840 H locs hI hp hS => ?_)
        rcases hp with ⟨rfl, hp⟩ | ⟨rfl, hp⟩
        · skip
          try simp only [rg, not_and, Int.not_le] at hp
          have hp2841 := hp
          obtain ⟨hb2844, hc2842, k2843, hE⟩ := hp2841
          have hp2841 : True := trivial
          rw [show (147 : Int32).toInt = 147 from by decide] at hc2842
          obtain ⟨⟨hkf, hT, hz0, k2868, ⟨a2845, hf2846, hq2847, hA2848⟩, ⟨a2849, hf2850, hq2851, hA2852⟩, ⟨w2861, hg2862, k2869⟩, ⟨w2863, hg2864, k2870⟩, hg2865⟩, ⟨a2853, hf2854, hq2855, hA2856⟩, ⟨a2857, hf2858, hq2859, hA2860⟩, hPl, ⟨w2866, hg2867, k2871⟩, k2872, k2873⟩ := hE
          have hiv2874 : IV cd va pl TT XX (1, fl, nk, L1) (p1 + 1) b1 := hiv1.go (fun hb9 => pd_A_op k2843 (by unfold pd_op; omega))
          try rw [show (147 : Int32).toInt = 147 from by decide] at hp2841
          refine lv_if_ne (tgt := 41) hx hb dX12_readTerm_26 (by decide) (fun _ => ?_) (fun c => absurd c (by decide))
          refine lv_aload_n hx hb dX12_readTerm_41 rfl (lv_at hl 0 rfl) ?_
          refine lv_iload_n hx hb dX12_readTerm_42 rfl (lv_at hl 1 rfl) ?_
          refine mx_v (As := [.int x1]) (rest := []) (n := 1) (d := (3 + 3 * k)) ⟨hx, hb, hml, hown, hts⟩ (hpart h0 hG0 x1 ff cd va pl TT (p1 + 1) L1 b1 dd (by first | decide | omega) (by omega) (by omega) fl nk XX hdp hiv2874) wd_1603 wd_1605 wp_70 wd_13 wd_1606 (by decide +kernel) ⟨by rw [hR]; show (3 + 3 * k) + 1 ≤ 4 + 3 * k; omega, by rw [hR]; show 8 + (3 + 11) + 40 * ((3 + 3 * k)) ≤ 40 * (4 + 3 * k); omega⟩ hI hN hK hS hG0 (⟨⟨hkf, hT, hz0, by omega, ⟨a2845, hf2846, hq2847, hA2848⟩, ⟨a2849, hf2850, hq2851, hA2852⟩, ⟨w2861, hg2862, by first | omega | decide⟩, ⟨w2863, hg2864, by first | omega | decide⟩, hg2865⟩, ⟨a2853, hf2854, hq2855, hA2856⟩, ⟨a2857, hf2858, hq2859, hA2860⟩, hPl, ⟨w2866, hg2867, by first | omega | decide⟩, by omega, by first | omega | (intro; omega)⟩) rfl hl.1 rfl (Nat.le_of_ble_eq_true rfl) dX12_readTerm_43 ⟨Nat.zero_le _, Nat.zero_le _⟩ (fun H locs hI hp hS => ?_)
          obtain ⟨pn2876, bn2877, Ln2878, hE, k2881, hi2879, hiv2880⟩ := hp
          obtain ⟨⟨hkf, hT, hz0, k2905, ⟨a2882, hf2883, hq2884, hA2885⟩, ⟨a2886, hf2887, hq2888, hA2889⟩, ⟨w2898, hg2899, k2906⟩, ⟨w2900, hg2901, k2907⟩, hg2902⟩, ⟨a2890, hf2891, hq2892, hA2893⟩, ⟨a2894, hf2895, hq2896, hA2897⟩, hPl, ⟨w2903, hg2904, k2908⟩, k2909, k2910⟩ := hE
          have hInv2 : bn2877.toInt = -1 → bb.toInt = -1 ∧ ∀ r, Gr (rC cd TT) 7 dd pn2876 r → Gr (rC cd TT) 1 dd pp r := fun h => ⟨(hInv hb2844).1, r7_m (hInv hb2844).2 (by omega) (hi2879 h).2⟩
          refine lv_goto (tgt := 5) hx hb dX12_readTerm_46 (by decide) ?_
          exact ih_5 _ (by omega) H locs ls  pn2876 bn2877 Ln2878 rfl (lv_sub hl [0, 1] rfl) ⟨by omega, by omega⟩ (by omega) (hInv2) (hiv2880) (⟨⟨hkf, hT, hz0, by omega, ⟨a2882, hf2883, hq2884, hA2885⟩, ⟨a2886, hf2887, hq2888, hA2889⟩, ⟨w2898, hg2899, by first | omega | decide⟩, ⟨w2900, hg2901, by first | omega | decide⟩, hg2902⟩, ⟨a2890, hf2891, hq2892, hA2893⟩, ⟨a2894, hf2895, hq2896, hA2897⟩, hPl, ⟨w2903, hg2904, by first | omega | decide⟩, by omega, by first | omega | (intro; omega)⟩) hI hS
        · skip
          try simp only [rg, not_and, Int.not_le] at hp
          have hp2911 := hp
          obtain ⟨hc2912, hE⟩ := hp2911
          have hp2911 : True := trivial
          rw [show (147 : Int32).toInt = 147 from by decide] at hc2912
          obtain ⟨⟨hkf, hT, hz0, k2937, ⟨a2914, hf2915, hq2916, hA2917⟩, ⟨a2918, hf2919, hq2920, hA2921⟩, ⟨w2930, hg2931, k2938⟩, ⟨w2932, hg2933, k2939⟩, hg2934⟩, ⟨a2922, hf2923, hq2924, hA2925⟩, ⟨a2926, hf2927, hq2928, hA2929⟩, hPl, ⟨w2935, hg2936, k2940⟩, k2941, k2942⟩ := hE
          try rw [show (147 : Int32).toInt = 147 from by decide] at hp2911
          refine lv_if_ne (tgt := 41) hx hb dX12_readTerm_26 (by decide) (fun c => absurd c (by decide)) (fun _ => ?_)
          refine lv_aload_n hx hb dX12_readTerm_29 rfl (lv_at hl 0 rfl) ?_
          refine lv_bipush (v := 37) hx hb dX12_readTerm_30 (by decide) ?_
          refine th_cSs (As := [.int 37]) (rest := [.ref h0]) (n := 1) (d := 0) ⟨hx, hb, hml, hown, hts⟩ (c_X12_sign l H 37) wd_1495 wd_1496 wd_13 wd_1497 (by decide +kernel) ⟨by rw [hR]; show 0 + 1 ≤ 4 + 3 * k; omega, by rw [hR]; show 8 + (1 + 11) + 40 * (0) ≤ 40 * (4 + 3 * k); omega⟩ hN hS rfl hl.1 rfl (Nat.le_of_ble_eq_true rfl) dX12_readTerm_32 ⟨Nat.zero_le _, Nat.zero_le _⟩ (fun r2943 locs hp hS => ?_)
          obtain rfl : r2943 = 137 := hp.trans (by decide)
          refine mx_i (As := [.int 137]) (rest := []) (n := 1) (d := 1) ⟨hx, hb, hml, hown, hts⟩ (c_X12_takes0 l E D G h0 hG0 137 ff cd va pl TT p1 L1 b1 (by first | decide | omega)) wd_1587 wd_1589 wp_66 wd_13 wd_1590 (by decide +kernel) ⟨by rw [hR]; show 1 + 1 ≤ 4 + 3 * k; omega, by rw [hR]; show 8 + (3 + 11) + 40 * (1) ≤ 40 * (4 + 3 * k); omega⟩ hI hN hK hS hG0 (⟨⟨hkf, hT, hz0, by omega, ⟨a2914, hf2915, hq2916, hA2917⟩, ⟨a2918, hf2919, hq2920, hA2921⟩, ⟨w2930, hg2931, by first | omega | decide⟩, ⟨w2932, hg2933, by first | omega | decide⟩, hg2934⟩, ⟨a2922, hf2923, hq2924, hA2925⟩, ⟨a2926, hf2927, hq2928, hA2929⟩, hPl, ⟨w2935, hg2936, by first | omega | decide⟩, by omega, by first | omega | (intro; omega)⟩) rfl hl.1 rfl (Nat.le_of_ble_eq_true rfl) dX12_readTerm_35 ⟨Nat.zero_le _, Nat.zero_le _⟩ (fun r2944 H locs hI hp hS => ?_)
          rcases hp with ⟨rfl, hp⟩ | ⟨rfl, hp⟩
          · skip
            try simp only [rg, not_and, Int.not_le] at hp
            have hp2945 := hp
            obtain ⟨hb2948, hc2946, k2947, hE⟩ := hp2945
            have hp2945 : True := trivial
            rw [show (137 : Int32).toInt = 137 from by decide] at hc2946
            obtain ⟨⟨hkf, hT, hz0, k2972, ⟨a2949, hf2950, hq2951, hA2952⟩, ⟨a2953, hf2954, hq2955, hA2956⟩, ⟨w2965, hg2966, k2973⟩, ⟨w2967, hg2968, k2974⟩, hg2969⟩, ⟨a2957, hf2958, hq2959, hA2960⟩, ⟨a2961, hf2962, hq2963, hA2964⟩, hPl, ⟨w2970, hg2971, k2975⟩, k2976, k2977⟩ := hE
            have hiv2978 : IV cd va pl TT XX (1, fl, nk, L1) (p1 + 1) b1 := hiv1.go (fun hb9 => pd_A_op k2947 (by unfold pd_op; omega))
            try rw [show (137 : Int32).toInt = 137 from by decide] at hp2945
            refine lv_if_eq (tgt := 49) hx hb dX12_readTerm_38 (by decide) (fun c => absurd c (by decide)) (fun _ => ?_)
            refine lv_aload_n hx hb dX12_readTerm_41 rfl (lv_at hl 0 rfl) ?_
            refine lv_iload_n hx hb dX12_readTerm_42 rfl (lv_at hl 1 rfl) ?_
            refine mx_v (As := [.int x1]) (rest := []) (n := 1) (d := (3 + 3 * k)) ⟨hx, hb, hml, hown, hts⟩ (hpart h0 hG0 x1 ff cd va pl TT (p1 + 1) L1 b1 dd (by first | decide | omega) (by omega) (by omega) fl nk XX hdp hiv2978) wd_1603 wd_1605 wp_70 wd_13 wd_1606 (by decide +kernel) ⟨by rw [hR]; show (3 + 3 * k) + 1 ≤ 4 + 3 * k; omega, by rw [hR]; show 8 + (3 + 11) + 40 * ((3 + 3 * k)) ≤ 40 * (4 + 3 * k); omega⟩ hI hN hK hS hG0 (⟨⟨hkf, hT, hz0, by omega, ⟨a2949, hf2950, hq2951, hA2952⟩, ⟨a2953, hf2954, hq2955, hA2956⟩, ⟨w2965, hg2966, by first | omega | decide⟩, ⟨w2967, hg2968, by first | omega | decide⟩, hg2969⟩, ⟨a2957, hf2958, hq2959, hA2960⟩, ⟨a2961, hf2962, hq2963, hA2964⟩, hPl, ⟨w2970, hg2971, by first | omega | decide⟩, by omega, by first | omega | (intro; omega)⟩) rfl hl.1 rfl (Nat.le_of_ble_eq_true rfl) dX12_readTerm_43 ⟨Nat.zero_le _, Nat.zero_le _⟩ (fun H locs hI hp hS => ?_)
            obtain ⟨pn2980, bn2981, Ln2982, hE, k2985, hi2983, hiv2984⟩ := hp
            obtain ⟨⟨hkf, hT, hz0, k3009, ⟨a2986, hf2987, hq2988, hA2989⟩, ⟨a2990, hf2991, hq2992, hA2993⟩, ⟨w3002, hg3003, k3010⟩, ⟨w3004, hg3005, k3011⟩, hg3006⟩, ⟨a2994, hf2995, hq2996, hA2997⟩, ⟨a2998, hf2999, hq3000, hA3001⟩, hPl, ⟨w3007, hg3008, k3012⟩, k3013, k3014⟩ := hE
            have hInv2 : bn2981.toInt = -1 → bb.toInt = -1 ∧ ∀ r, Gr (rC cd TT) 7 dd pn2980 r → Gr (rC cd TT) 1 dd pp r := fun h => ⟨(hInv hb2948).1, r7_m (hInv hb2948).2 (by omega) (hi2983 h).2⟩
            refine lv_goto (tgt := 5) hx hb dX12_readTerm_46 (by decide) ?_
            exact ih_5 _ (by omega) H locs ls  pn2980 bn2981 Ln2982 rfl (lv_sub hl [0, 1] rfl) ⟨by omega, by omega⟩ (by omega) (hInv2) (hiv2984) (⟨⟨hkf, hT, hz0, by omega, ⟨a2986, hf2987, hq2988, hA2989⟩, ⟨a2990, hf2991, hq2992, hA2993⟩, ⟨w3002, hg3003, by first | omega | decide⟩, ⟨w3004, hg3005, by first | omega | decide⟩, hg3006⟩, ⟨a2994, hf2995, hq2996, hA2997⟩, ⟨a2998, hf2999, hq3000, hA3001⟩, hPl, ⟨w3007, hg3008, by first | omega | decide⟩, by omega, by first | omega | (intro; omega)⟩) hI hS
          · skip
            try simp only [rg, not_and, Int.not_le] at hp
            have hp3015 := hp
            obtain ⟨hc3016, hE⟩ := hp3015
            have hp3015 : True := trivial
            rw [show (137 : Int32).toInt = 137 from by decide] at hc3016
            obtain ⟨⟨hkf, hT, hz0, k3041, ⟨a3018, hf3019, hq3020, hA3021⟩, ⟨a3022, hf3023, hq3024, hA3025⟩, ⟨w3034, hg3035, k3042⟩, ⟨w3036, hg3037, k3043⟩, hg3038⟩, ⟨a3026, hf3027, hq3028, hA3029⟩, ⟨a3030, hf3031, hq3032, hA3033⟩, hPl, ⟨w3039, hg3040, k3044⟩, k3045, k3046⟩ := hE
            try rw [show (137 : Int32).toInt = 137 from by decide] at hp3015
            refine lv_if_eq (tgt := 49) hx hb dX12_readTerm_38 (by decide) (fun _ => ?_) (fun c => absurd c (by decide))
            have hpost : ∃ (p2 : Nat) (b2 : Int32) (L2 : Nat), RX E D G h0 ff cd va pl TT p2 b2 L2 H ∧ pp ≤ p2 ∧ (b2.toInt = -1 → bb.toInt = -1 ∧ Gr (rC cd TT) 1 dd pp p2) ∧ IV cd va pl TT XX (2, fl, nk, L2) p2 b2 ∧ (b2.toInt = -1 → rC cd TT p2 ≠ 142 ∧ rC cd TT p2 ≠ 147 ∧ rC cd TT p2 ≠ 137) := ⟨p1, b1, L1, ⟨⟨hkf, hT, hz0, by omega, ⟨a3018, hf3019, hq3020, hA3021⟩, ⟨a3022, hf3023, hq3024, hA3025⟩, ⟨w3034, hg3035, by first | omega | decide⟩, ⟨w3036, hg3037, by first | omega | decide⟩, hg3038⟩, ⟨a3026, hf3027, hq3028, hA3029⟩, ⟨a3030, hf3031, hq3032, hA3033⟩, hPl, ⟨w3039, hg3040, by first | omega | decide⟩, by omega, by first | omega | (intro; omega)⟩, by omega, fun h => ⟨(hInv h).1, r7_x (hInv h).2 (by omega) (by omega) (by omega)⟩, hiv1, fun hb9 => ⟨by omega, by omega, by omega⟩⟩
            rw [hQ]
            exact W.vret hx hb hr (fun t ht hW => ⟨⟨(), rfl, trivial, ⟨by rw [ht]; exact hI, hN.warm hW, va_K.moved hW.alike hK⟩, by first | (rw [ht]; exact hpost) | exact hpost⟩, hS.F ht⟩) hS.2.2 dX12_readTerm_49
  refine lv_aload_n hx hb dX12_readTerm_0 rfl (lv_at hl 0 rfl) ?_
  refine lv_iload_n hx hb dX12_readTerm_1 rfl (lv_at hl 1 rfl) ?_
  refine mx_v (As := [.int x1]) (rest := []) (n := 1) (d := (3 + 3 * k)) ⟨hx, hb, hml, hown, hts⟩ (hpart h0 hG0 x1 ff cd va pl TT pp LL bb dd (by first | decide | omega) (by omega) (by omega) fl nk XX hdp hiv) wd_1603 wd_1605 wp_70 wd_13 wd_1606 (by decide +kernel) ⟨by rw [hR]; show (3 + 3 * k) + 1 ≤ 4 + 3 * k; omega, by rw [hR]; show 8 + (3 + 11) + 40 * ((3 + 3 * k)) ≤ 40 * (4 + 3 * k); omega⟩ hI hN hK hS hG0 (⟨⟨hkf, hT, hz0, by omega, ⟨a1, hf2, hq3, hA4⟩, ⟨a5, hf6, hq7, hA8⟩, ⟨w17, hg18, by first | omega | decide⟩, ⟨w19, hg20, by first | omega | decide⟩, hg21⟩, ⟨a9, hf10, hq11, hA12⟩, ⟨a13, hf14, hq15, hA16⟩, hPl, ⟨w22, hg23, by first | omega | decide⟩, by omega, by first | omega | (intro; omega)⟩) rfl hl.1 rfl (Nat.le_of_ble_eq_true rfl) dX12_readTerm_2 ⟨Nat.zero_le _, Nat.zero_le _⟩ (fun H locs hI hp hS => ?_)
  obtain ⟨pn3048, bn3049, Ln3050, hE, k3053, hi3051, hiv3052⟩ := hp
  obtain ⟨⟨hkf, hT, hz0, k3077, ⟨a3054, hf3055, hq3056, hA3057⟩, ⟨a3058, hf3059, hq3060, hA3061⟩, ⟨w3070, hg3071, k3078⟩, ⟨w3072, hg3073, k3079⟩, hg3074⟩, ⟨a3062, hf3063, hq3064, hA3065⟩, ⟨a3066, hf3067, hq3068, hA3069⟩, hPl, ⟨w3075, hg3076, k3080⟩, k3081, k3082⟩ := hE
  have hInv0 : bn3049.toInt = -1 → bb.toInt = -1 ∧ ∀ r, Gr (rC cd TT) 7 dd pn3048 r → Gr (rC cd TT) 1 dd pp r := fun h => ⟨(hi3051 h).1, r7_i (hi3051 h).2⟩
  exact J_5 _ H locs ls  pn3048 bn3049 Ln3050 rfl (lv_sub hl [0, 1] rfl) ⟨by omega, by omega⟩ (by omega) (hInv0) (hiv3052) (⟨⟨hkf, hT, hz0, by omega, ⟨a3054, hf3055, hq3056, hA3057⟩, ⟨a3058, hf3059, hq3060, hA3061⟩, ⟨w3070, hg3071, by first | omega | decide⟩, ⟨w3072, hg3073, by first | omega | decide⟩, hg3074⟩, ⟨a3062, hf3063, hq3064, hA3065⟩, ⟨a3066, hf3067, hq3068, hA3069⟩, hPl, ⟨w3075, hg3076, by first | omega | decide⟩, by omega, by first | omega | (intro; omega)⟩) hI hS
