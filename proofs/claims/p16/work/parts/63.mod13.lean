
theorem dX12_readClause_0g : (decode cX12_readClause 0 = .ok (.aload_n 0, 1)) ∧ (decode cX12_readClause 1 = .ok (.iconst 1, 1)) ∧ (decode cX12_readClause 2 = .ok (.invokevirtual 169, 3)) ∧ (decode cX12_readClause 5 = .ok (.ifCond .ne 19, 3)) ∧ (decode cX12_readClause 8 = .ok (.aload_n 0, 1)) ∧ (decode cX12_readClause 9 = .ok (.iconst 2, 1)) ∧ (decode cX12_readClause 10 = .ok (.invokevirtual 169, 3)) ∧ (decode cX12_readClause 13 = .ok (.ifCond .ne 11, 3)) ∧ (decode cX12_readClause 16 = .ok (.aload_n 0, 1)) ∧ (decode cX12_readClause 17 = .ok (.iconst 3, 1)) := by decide +kernel
theorem dX12_readClause_0 : decode cX12_readClause 0 = .ok (.aload_n 0, 1) := dX12_readClause_0g.1
theorem dX12_readClause_1 : decode cX12_readClause 1 = .ok (.iconst 1, 1) := dX12_readClause_0g.2.1
theorem dX12_readClause_2 : decode cX12_readClause 2 = .ok (.invokevirtual 169, 3) := dX12_readClause_0g.2.2.1
theorem dX12_readClause_5 : decode cX12_readClause 5 = .ok (.ifCond .ne 19, 3) := dX12_readClause_0g.2.2.2.1
theorem dX12_readClause_8 : decode cX12_readClause 8 = .ok (.aload_n 0, 1) := dX12_readClause_0g.2.2.2.2.1
theorem dX12_readClause_9 : decode cX12_readClause 9 = .ok (.iconst 2, 1) := dX12_readClause_0g.2.2.2.2.2.1
theorem dX12_readClause_10 : decode cX12_readClause 10 = .ok (.invokevirtual 169, 3) := dX12_readClause_0g.2.2.2.2.2.2.1
theorem dX12_readClause_13 : decode cX12_readClause 13 = .ok (.ifCond .ne 11, 3) := dX12_readClause_0g.2.2.2.2.2.2.2.1
theorem dX12_readClause_16 : decode cX12_readClause 16 = .ok (.aload_n 0, 1) := dX12_readClause_0g.2.2.2.2.2.2.2.2.1
theorem dX12_readClause_17 : decode cX12_readClause 17 = .ok (.iconst 3, 1) := dX12_readClause_0g.2.2.2.2.2.2.2.2.2
theorem dX12_readClause_18g : (decode cX12_readClause 18 = .ok (.invokevirtual 169, 3)) ∧ (decode cX12_readClause 21 = .ok (.ifCond .eq 11, 3)) ∧ (decode cX12_readClause 24 = .ok (.aload_n 0, 1)) ∧ (decode cX12_readClause 25 = .ok (.iconst 0, 1)) ∧ (decode cX12_readClause 26 = .ok (.invokevirtual 178, 3)) ∧ (decode cX12_readClause 29 = .ok (.goto 8, 3)) ∧ (decode cX12_readClause 32 = .ok (.aload_n 0, 1)) ∧ (decode cX12_readClause 33 = .ok (.iconst 4, 1)) ∧ (decode cX12_readClause 34 = .ok (.invokevirtual 182, 3)) ∧ (decode cX12_readClause 37 = .ok (.aload_n 0, 1)) := by decide +kernel
theorem dX12_readClause_18 : decode cX12_readClause 18 = .ok (.invokevirtual 169, 3) := dX12_readClause_18g.1
theorem dX12_readClause_21 : decode cX12_readClause 21 = .ok (.ifCond .eq 11, 3) := dX12_readClause_18g.2.1
theorem dX12_readClause_24 : decode cX12_readClause 24 = .ok (.aload_n 0, 1) := dX12_readClause_18g.2.2.1
theorem dX12_readClause_25 : decode cX12_readClause 25 = .ok (.iconst 0, 1) := dX12_readClause_18g.2.2.2.1
theorem dX12_readClause_26 : decode cX12_readClause 26 = .ok (.invokevirtual 178, 3) := dX12_readClause_18g.2.2.2.2.1
theorem dX12_readClause_29 : decode cX12_readClause 29 = .ok (.goto 8, 3) := dX12_readClause_18g.2.2.2.2.2.1
theorem dX12_readClause_32 : decode cX12_readClause 32 = .ok (.aload_n 0, 1) := dX12_readClause_18g.2.2.2.2.2.2.1
theorem dX12_readClause_33 : decode cX12_readClause 33 = .ok (.iconst 4, 1) := dX12_readClause_18g.2.2.2.2.2.2.2.1
theorem dX12_readClause_34 : decode cX12_readClause 34 = .ok (.invokevirtual 182, 3) := dX12_readClause_18g.2.2.2.2.2.2.2.2.1
theorem dX12_readClause_37 : decode cX12_readClause 37 = .ok (.aload_n 0, 1) := dX12_readClause_18g.2.2.2.2.2.2.2.2.2
theorem dX12_readClause_38g : (decode cX12_readClause 38 = .ok (.iconst 5, 1)) ∧ (decode cX12_readClause 39 = .ok (.invokevirtual 169, 3)) ∧ (decode cX12_readClause 42 = .ok (.ifCond .eq 8, 3)) ∧ (decode cX12_readClause 45 = .ok (.aload_n 0, 1)) ∧ (decode cX12_readClause 46 = .ok (.iconst 0, 1)) ∧ (decode cX12_readClause 47 = .ok (.invokevirtual 185, 3)) ∧ (decode cX12_readClause 50 = .ok (.return_, 1)) := by decide +kernel
theorem dX12_readClause_38 : decode cX12_readClause 38 = .ok (.iconst 5, 1) := dX12_readClause_38g.1
theorem dX12_readClause_39 : decode cX12_readClause 39 = .ok (.invokevirtual 169, 3) := dX12_readClause_38g.2.1
theorem dX12_readClause_42 : decode cX12_readClause 42 = .ok (.ifCond .eq 8, 3) := dX12_readClause_38g.2.2.1
theorem dX12_readClause_45 : decode cX12_readClause 45 = .ok (.aload_n 0, 1) := dX12_readClause_38g.2.2.2.1
theorem dX12_readClause_46 : decode cX12_readClause 46 = .ok (.iconst 0, 1) := dX12_readClause_38g.2.2.2.2.1
theorem dX12_readClause_47 : decode cX12_readClause 47 = .ok (.invokevirtual 185, 3) := dX12_readClause_38g.2.2.2.2.2.1
theorem dX12_readClause_50 : decode cX12_readClause 50 = .ok (.return_, 1) := dX12_readClause_38g.2.2.2.2.2.2
set_option maxHeartbeats 4000000 in
set_option maxRecDepth 100000 in
theorem c_X12_readClause (l : Launch) (E : Nat → Nat) (D : va_G) (G : th_G) (h0 : Nat) (hG0 : G h0 = some (10, 0)) (ff cd va pl : Nat → Int32) (TT pp LL : Nat) (bb : Int32) (nk : Nat) (XX : Nat × Bool) (hn12 : nk < 12) (hiv : IV cd va pl TT XX (0, [], nk, LL) pp bb) : Met l yX12_readClause (tb (.code yX12_readClause cX12_readClause 1 none)) (rm 57) (va_Pc [.ref h0] (PX E D G (fun H => RX E D G h0 ff cd va pl TT pp bb LL H))) (QXv E D G (fun H => ∃ (p2 : Nat) (b2 : Int32) (L2 : Nat), RX E D G h0 ff cd va pl TT p2 b2 L2 H ∧ pp ≤ p2 ∧ (b2.toInt = -1 → bb.toInt = -1 ∧ g_cl (rC cd TT) pp p2) ∧ IV cd va pl TT XX (5, [], nk + 1, L2) p2 b2)) 0 0 (th_A G) := by
  refine Met.ofW (cc := cX12_readClause) (maxL := 1) (ret := none) (by decide) rfl ?_
  intro p e s m args below meth c s₁ B hml hv
  obtain ⟨hav, ⟨hI, hN, hK⟩, hX⟩ := hv
  have hx := B.exec
  have hb := B.bytes
  have hr := B.returns
  have hts := atoms_spec (ws := tb (.code yX12_readClause cX12_readClause 1 none)) B.pre
  have hown : s.vm.findClass RX12 = some m.cls := findClass_of_methodNamed B.named
  have hlocks := B.notSynchronized
  have hS : va_S (th_A G) s.heap s.heap [] := va_S.rf
  have hl := lv_entry ([.ref h0]) (n := 1) (Nat.le_of_ble_eq_true rfl)
  rw [show entryFrame m args 1 = entryFrame m ([.ref h0] : List Value).toArray 1 from by rw [hav], lg_entry_eq]
  generalize (lg_sl ([.ref h0]) ++ List.replicate (1 - (lg_sl ([.ref h0])).length) Slot.unset).toArray = ls at hl ⊢
  have hl : lv_has ls 1 [(0, .ref h0)] := hl
  generalize hR : (headSpec (tb (.code yX12_readClause cX12_readClause 1 none)) (rm 57)).room = R
  have hR := hR.symm
  generalize hQ : MQ below (QXv E D G (fun H => ∃ (p2 : Nat) (b2 : Int32) (L2 : Nat), RX E D G h0 ff cd va pl TT p2 b2 L2 H ∧ pp ≤ p2 ∧ (b2.toInt = -1 → bb.toInt = -1 ∧ g_cl (rC cd TT) pp p2) ∧ IV cd va pl TT XX (5, [], nk + 1, L2) p2 b2)) args s 0 0 (th_A G) = QF
  have hQ := hQ.symm
  obtain ⟨⟨hkf, hT, hz0, k24, ⟨a1, hf2, hq3, hA4⟩, ⟨a5, hf6, hq7, hA8⟩, ⟨w17, hg18, k25⟩, ⟨w19, hg20, k26⟩, hg21⟩, ⟨a9, hf10, hq11, hA12⟩, ⟨a13, hf14, hq15, hA16⟩, hPl, ⟨w22, hg23, k27⟩, k28, k29⟩ := hX
  refine lv_aload_n hx hb dX12_readClause_0 rfl (lv_at hl 0 rfl) ?_
  refine lv_iconst (v := 1) hx hb dX12_readClause_1 (by decide) ?_
  refine mx_i (As := [.int 1]) (rest := []) (n := 1) (d := 1) ⟨hx, hb, hml, hown, hts⟩ (c_X12_takes0 l E D G h0 hG0 1 ff cd va pl TT pp LL bb (by first | decide | omega)) wd_1587 wd_1589 wp_66 wd_13 wd_1590 (by decide +kernel) ⟨by rw [hR]; exact Nat.le_of_ble_eq_true rfl, by rw [hR]; exact Nat.le_of_ble_eq_true rfl⟩ hI hN hK hS hG0 (⟨⟨hkf, hT, hz0, by omega, ⟨a1, hf2, hq3, hA4⟩, ⟨a5, hf6, hq7, hA8⟩, ⟨w17, hg18, by first | omega | decide⟩, ⟨w19, hg20, by first | omega | decide⟩, hg21⟩, ⟨a9, hf10, hq11, hA12⟩, ⟨a13, hf14, hq15, hA16⟩, hPl, ⟨w22, hg23, by first | omega | decide⟩, by omega, by first | omega | (intro; omega)⟩) rfl hl.1 rfl (Nat.le_of_ble_eq_true rfl) dX12_readClause_2 ⟨Nat.zero_le _, Nat.zero_le _⟩ (fun r30 H locs hI hp hS => ?_)
  rcases hp with ⟨rfl, hp⟩ | ⟨rfl, hp⟩
  · skip
    try simp only [rg, not_and, Int.not_le] at hp
    have hp31 := hp
    obtain ⟨hb34, hc32, k33, hE⟩ := hp31
    have hp31 : True := trivial
    rw [show (1 : Int32).toInt = 1 from by decide] at hc32
    obtain ⟨⟨hkf, hT, hz0, k58, ⟨a35, hf36, hq37, hA38⟩, ⟨a39, hf40, hq41, hA42⟩, ⟨w51, hg52, k59⟩, ⟨w53, hg54, k60⟩, hg55⟩, ⟨a43, hf44, hq45, hA46⟩, ⟨a47, hf48, hq49, hA50⟩, hPl, ⟨w56, hg57, k61⟩, k62, k63⟩ := hE
    have hiv64 : IV cd va pl TT XX (1, [0], nk + 1, LL) (pp + 1) bb := hiv.go (fun hb9 => pd_H_sm k33 hn12 (by omega))
    try rw [show (1 : Int32).toInt = 1 from by decide] at hp31
    refine lv_if_ne (tgt := 24) hx hb dX12_readClause_5 (by decide) (fun _ => ?_) (fun c => absurd c (by decide))
    refine lv_aload_n hx hb dX12_readClause_24 rfl (lv_at hl 0 rfl) ?_
    refine lv_iconst (v := 0) hx hb dX12_readClause_25 (by decide) ?_
    refine mx_v (As := [.int 0]) (rest := []) (n := 1) (d := 29) ⟨hx, hb, hml, hown, hts⟩ (c_X12_readSum l E D G 8 h0 hG0 0 ff cd va pl TT (pp + 1) LL bb 0 (by first | decide | omega) (by omega) (by omega) [0] (nk + 1) XX rfl hiv64 (c_X12_readPart l E D G 8)) wd_1595 wd_1597 wp_68 wd_13 wd_1598 (by decide +kernel) ⟨by rw [hR]; exact Nat.le_of_ble_eq_true rfl, by rw [hR]; exact Nat.le_of_ble_eq_true rfl⟩ hI hN hK hS hG0 (⟨⟨hkf, hT, hz0, by omega, ⟨a35, hf36, hq37, hA38⟩, ⟨a39, hf40, hq41, hA42⟩, ⟨w51, hg52, by first | omega | decide⟩, ⟨w53, hg54, by first | omega | decide⟩, hg55⟩, ⟨a43, hf44, hq45, hA46⟩, ⟨a47, hf48, hq49, hA50⟩, hPl, ⟨w56, hg57, by first | omega | decide⟩, by omega, by first | omega | (intro; omega)⟩) rfl hl.1 rfl (Nat.le_of_ble_eq_true rfl) dX12_readClause_26 ⟨Nat.zero_le _, Nat.zero_le _⟩ (fun H locs hI hp hS => ?_)
    obtain ⟨pn66, bn67, Ln68, hE, k72, hi69, hiv70, hno71⟩ := hp
    obtain ⟨⟨hkf, hT, hz0, k96, ⟨a73, hf74, hq75, hA76⟩, ⟨a77, hf78, hq79, hA80⟩, ⟨w89, hg90, k97⟩, ⟨w91, hg92, k98⟩, hg93⟩, ⟨a81, hf82, hq83, hA84⟩, ⟨a85, hf86, hq87, hA88⟩, hPl, ⟨w94, hg95, k99⟩, k100, k101⟩ := hE
    have hiv102 : IV cd va pl TT XX (4, [0], nk + 1, Ln68) pn66 bn67 := hiv70.go (fun hb9 => pd_A_s (fun _ => hno71 hb9))
    refine lv_goto (tgt := 37) hx hb dX12_readClause_29 (by decide) ?_
    refine lv_aload_n hx hb dX12_readClause_37 rfl (lv_at hl 0 rfl) ?_
    refine lv_iconst (v := 5) hx hb dX12_readClause_38 (by decide) ?_
    refine mx_i (As := [.int 5]) (rest := []) (n := 1) (d := 1) ⟨hx, hb, hml, hown, hts⟩ (c_X12_takes0 l E D G h0 hG0 5 ff cd va pl TT pn66 Ln68 bn67 (by first | decide | omega)) wd_1587 wd_1589 wp_66 wd_13 wd_1590 (by decide +kernel) ⟨by rw [hR]; exact Nat.le_of_ble_eq_true rfl, by rw [hR]; exact Nat.le_of_ble_eq_true rfl⟩ hI hN hK hS hG0 (⟨⟨hkf, hT, hz0, by omega, ⟨a73, hf74, hq75, hA76⟩, ⟨a77, hf78, hq79, hA80⟩, ⟨w89, hg90, by first | omega | decide⟩, ⟨w91, hg92, by first | omega | decide⟩, hg93⟩, ⟨a81, hf82, hq83, hA84⟩, ⟨a85, hf86, hq87, hA88⟩, hPl, ⟨w94, hg95, by first | omega | decide⟩, by omega, by first | omega | (intro; omega)⟩) rfl hl.1 rfl (Nat.le_of_ble_eq_true rfl) dX12_readClause_39 ⟨Nat.zero_le _, Nat.zero_le _⟩ (fun r103 H locs hI hp hS => ?_)
    rcases hp with ⟨rfl, hp⟩ | ⟨rfl, hp⟩
    · skip
      try simp only [rg, not_and, Int.not_le] at hp
      have hp104 := hp
      obtain ⟨hb107, hc105, k106, hE⟩ := hp104
      have hp104 : True := trivial
      rw [show (5 : Int32).toInt = 5 from by decide] at hc105
      obtain ⟨⟨hkf, hT, hz0, k131, ⟨a108, hf109, hq110, hA111⟩, ⟨a112, hf113, hq114, hA115⟩, ⟨w124, hg125, k132⟩, ⟨w126, hg127, k133⟩, hg128⟩, ⟨a116, hf117, hq118, hA119⟩, ⟨a120, hf121, hq122, hA123⟩, hPl, ⟨w129, hg130, k134⟩, k135, k136⟩ := hE
      have hiv137 : IV cd va pl TT XX (3, [5], nk + 1, Ln68) (pn66 + 1) bn67 := hiv102.go (fun hb9 => pd_D_if k106 hc105)
      try rw [show (5 : Int32).toInt = 5 from by decide] at hp104
      refine lv_if_eq (tgt := 50) hx hb dX12_readClause_42 (by decide) (fun c => absurd c (by decide)) (fun _ => ?_)
      refine lv_aload_n hx hb dX12_readClause_45 rfl (lv_at hl 0 rfl) ?_
      refine lv_iconst (v := 0) hx hb dX12_readClause_46 (by decide) ?_
      refine mx_v (As := [.int 0]) (rest := []) (n := 1) (d := 56) ⟨hx, hb, hml, hown, hts⟩ (c_X12_readTest l E D G 8 h0 hG0 0 ff cd va pl TT (pn66 + 1) Ln68 bn67 0 (by first | decide | omega) (by omega) (by omega) 5 [] (Or.inr rfl) (nk + 1) XX rfl hiv137 (c_X12_readPlain l E D G 8)) wd_1619 wd_1621 wp_74 wd_13 wd_1622 (by decide +kernel) ⟨by rw [hR]; exact Nat.le_of_ble_eq_true rfl, by rw [hR]; exact Nat.le_of_ble_eq_true rfl⟩ hI hN hK hS hG0 (⟨⟨hkf, hT, hz0, by omega, ⟨a108, hf109, hq110, hA111⟩, ⟨a112, hf113, hq114, hA115⟩, ⟨w124, hg125, by first | omega | decide⟩, ⟨w126, hg127, by first | omega | decide⟩, hg128⟩, ⟨a116, hf117, hq118, hA119⟩, ⟨a120, hf121, hq122, hA123⟩, hPl, ⟨w129, hg130, by first | omega | decide⟩, by omega, by first | omega | (intro; omega)⟩) rfl hl.1 rfl (Nat.le_of_ble_eq_true rfl) dX12_readClause_47 ⟨Nat.zero_le _, Nat.zero_le _⟩ (fun H locs hI hp hS => ?_)
      obtain ⟨pn139, bn140, Ln141, hE, k145, hi142, hiv143, hno144⟩ := hp
      obtain ⟨⟨hkf, hT, hz0, k169, ⟨a146, hf147, hq148, hA149⟩, ⟨a150, hf151, hq152, hA153⟩, ⟨w162, hg163, k170⟩, ⟨w164, hg165, k171⟩, hg166⟩, ⟨a154, hf155, hq156, hA157⟩, ⟨a158, hf159, hq160, hA161⟩, hPl, ⟨w167, hg168, k172⟩, k173, k174⟩ := hE
      have hiv175 : IV cd va pl TT XX (5, [], nk + 1, Ln141) pn139 bn140 := hiv143.go (fun hb9 => pd_D_c5 (fun _ => hno144 hb9))
      have hpost : ∃ (p2 : Nat) (b2 : Int32) (L2 : Nat), RX E D G h0 ff cd va pl TT p2 b2 L2 H ∧ pp ≤ p2 ∧ (b2.toInt = -1 → bb.toInt = -1 ∧ g_cl (rC cd TT) pp p2) ∧ IV cd va pl TT XX (5, [], nk + 1, L2) p2 b2 := by
          refine ⟨pn139, bn140, Ln141, ⟨⟨hkf, hT, hz0, by omega, ⟨a146, hf147, hq148, hA149⟩, ⟨a150, hf151, hq152, hA153⟩, ⟨w162, hg163, by first | omega | decide⟩, ⟨w164, hg165, by first | omega | decide⟩, hg166⟩, ⟨a154, hf155, hq156, hA157⟩, ⟨a158, hf159, hq160, hA161⟩, hPl, ⟨w167, hg168, by first | omega | decide⟩, by omega, by first | omega | (intro; omega)⟩, by omega, ?_, hiv175⟩
          intro h
          obtain ⟨hz1, hz2⟩ := hi142 h
          obtain ⟨ha1, ha2⟩ := hi69 hb107
          exact ⟨ha1, cl_1 (by omega) ha2 (Or.inr ⟨hc105, hz2⟩)⟩
      rw [hQ]
      exact W.vret hx hb hr (fun t ht hW => ⟨⟨(), rfl, trivial, ⟨by rw [ht]; exact hI, hN.warm hW, va_K.moved hW.alike hK⟩, by first | (rw [ht]; exact hpost) | exact hpost⟩, hS.F ht⟩) hS.2.2 dX12_readClause_50
    · skip
      try simp only [rg, not_and, Int.not_le] at hp
      have hp176 := hp
      obtain ⟨hc177, hE⟩ := hp176
      have hp176 : True := trivial
      rw [show (5 : Int32).toInt = 5 from by decide] at hc177
      obtain ⟨⟨hkf, hT, hz0, k202, ⟨a179, hf180, hq181, hA182⟩, ⟨a183, hf184, hq185, hA186⟩, ⟨w195, hg196, k203⟩, ⟨w197, hg198, k204⟩, hg199⟩, ⟨a187, hf188, hq189, hA190⟩, ⟨a191, hf192, hq193, hA194⟩, hPl, ⟨w200, hg201, k205⟩, k206, k207⟩ := hE
      have hiv208 : IV cd va pl TT XX (5, [], nk + 1, Ln68) pn66 bn67 := hiv102.go (fun hb9 => pd_D_c0 (fun _ => by omega))
      try rw [show (5 : Int32).toInt = 5 from by decide] at hp176
      refine lv_if_eq (tgt := 50) hx hb dX12_readClause_42 (by decide) (fun _ => ?_) (fun c => absurd c (by decide))
      have hpost : ∃ (p2 : Nat) (b2 : Int32) (L2 : Nat), RX E D G h0 ff cd va pl TT p2 b2 L2 H ∧ pp ≤ p2 ∧ (b2.toInt = -1 → bb.toInt = -1 ∧ g_cl (rC cd TT) pp p2) ∧ IV cd va pl TT XX (5, [], nk + 1, L2) p2 b2 := by
          refine ⟨pn66, bn67, Ln68, ⟨⟨hkf, hT, hz0, by omega, ⟨a179, hf180, hq181, hA182⟩, ⟨a183, hf184, hq185, hA186⟩, ⟨w195, hg196, by first | omega | decide⟩, ⟨w197, hg198, by first | omega | decide⟩, hg199⟩, ⟨a187, hf188, hq189, hA190⟩, ⟨a191, hf192, hq193, hA194⟩, hPl, ⟨w200, hg201, by first | omega | decide⟩, by omega, by first | omega | (intro; omega)⟩, by omega, ?_, hiv208⟩
          intro h
          obtain ⟨ha1, ha2⟩ := hi69 h
          exact ⟨ha1, cl_1 (by omega) ha2 (Or.inl ⟨by omega, rfl⟩)⟩
      rw [hQ]
      exact W.vret hx hb hr (fun t ht hW => ⟨⟨(), rfl, trivial, ⟨by rw [ht]; exact hI, hN.warm hW, va_K.moved hW.alike hK⟩, by first | (rw [ht]; exact hpost) | exact hpost⟩, hS.F ht⟩) hS.2.2 dX12_readClause_50
  · skip
    try simp only [rg, not_and, Int.not_le] at hp
    have hp209 := hp
    obtain ⟨hc210, hE⟩ := hp209
    have hp209 : True := trivial
    rw [show (1 : Int32).toInt = 1 from by decide] at hc210
    obtain ⟨⟨hkf, hT, hz0, k235, ⟨a212, hf213, hq214, hA215⟩, ⟨a216, hf217, hq218, hA219⟩, ⟨w228, hg229, k236⟩, ⟨w230, hg231, k237⟩, hg232⟩, ⟨a220, hf221, hq222, hA223⟩, ⟨a224, hf225, hq226, hA227⟩, hPl, ⟨w233, hg234, k238⟩, k239, k240⟩ := hE
    try rw [show (1 : Int32).toInt = 1 from by decide] at hp209
    refine lv_if_ne (tgt := 24) hx hb dX12_readClause_5 (by decide) (fun c => absurd c (by decide)) (fun _ => ?_)
    refine lv_aload_n hx hb dX12_readClause_8 rfl (lv_at hl 0 rfl) ?_
    refine lv_iconst (v := 2) hx hb dX12_readClause_9 (by decide) ?_
    refine mx_i (As := [.int 2]) (rest := []) (n := 1) (d := 1) ⟨hx, hb, hml, hown, hts⟩ (c_X12_takes0 l E D G h0 hG0 2 ff cd va pl TT pp LL bb (by first | decide | omega)) wd_1587 wd_1589 wp_66 wd_13 wd_1590 (by decide +kernel) ⟨by rw [hR]; exact Nat.le_of_ble_eq_true rfl, by rw [hR]; exact Nat.le_of_ble_eq_true rfl⟩ hI hN hK hS hG0 (⟨⟨hkf, hT, hz0, by omega, ⟨a212, hf213, hq214, hA215⟩, ⟨a216, hf217, hq218, hA219⟩, ⟨w228, hg229, by first | omega | decide⟩, ⟨w230, hg231, by first | omega | decide⟩, hg232⟩, ⟨a220, hf221, hq222, hA223⟩, ⟨a224, hf225, hq226, hA227⟩, hPl, ⟨w233, hg234, by first | omega | decide⟩, by omega, by first | omega | (intro; omega)⟩) rfl hl.1 rfl (Nat.le_of_ble_eq_true rfl) dX12_readClause_10 ⟨Nat.zero_le _, Nat.zero_le _⟩ (fun r241 H locs hI hp hS => ?_)
    rcases hp with ⟨rfl, hp⟩ | ⟨rfl, hp⟩
    · skip
      try simp only [rg, not_and, Int.not_le] at hp
      have hp242 := hp
      obtain ⟨hb245, hc243, k244, hE⟩ := hp242
      have hp242 : True := trivial
      rw [show (2 : Int32).toInt = 2 from by decide] at hc243
      obtain ⟨⟨hkf, hT, hz0, k269, ⟨a246, hf247, hq248, hA249⟩, ⟨a250, hf251, hq252, hA253⟩, ⟨w262, hg263, k270⟩, ⟨w264, hg265, k271⟩, hg266⟩, ⟨a254, hf255, hq256, hA257⟩, ⟨a258, hf259, hq260, hA261⟩, hPl, ⟨w267, hg268, k272⟩, k273, k274⟩ := hE
      have hiv275 : IV cd va pl TT XX (1, [0], nk + 1, LL) (pp + 1) bb := hiv.go (fun hb9 => pd_H_sm k244 hn12 (by omega))
      try rw [show (2 : Int32).toInt = 2 from by decide] at hp242
      refine lv_if_ne (tgt := 24) hx hb dX12_readClause_13 (by decide) (fun _ => ?_) (fun c => absurd c (by decide))
      refine lv_aload_n hx hb dX12_readClause_24 rfl (lv_at hl 0 rfl) ?_
      refine lv_iconst (v := 0) hx hb dX12_readClause_25 (by decide) ?_
      refine mx_v (As := [.int 0]) (rest := []) (n := 1) (d := 29) ⟨hx, hb, hml, hown, hts⟩ (c_X12_readSum l E D G 8 h0 hG0 0 ff cd va pl TT (pp + 1) LL bb 0 (by first | decide | omega) (by omega) (by omega) [0] (nk + 1) XX rfl hiv275 (c_X12_readPart l E D G 8)) wd_1595 wd_1597 wp_68 wd_13 wd_1598 (by decide +kernel) ⟨by rw [hR]; exact Nat.le_of_ble_eq_true rfl, by rw [hR]; exact Nat.le_of_ble_eq_true rfl⟩ hI hN hK hS hG0 (⟨⟨hkf, hT, hz0, by omega, ⟨a246, hf247, hq248, hA249⟩, ⟨a250, hf251, hq252, hA253⟩, ⟨w262, hg263, by first | omega | decide⟩, ⟨w264, hg265, by first | omega | decide⟩, hg266⟩, ⟨a254, hf255, hq256, hA257⟩, ⟨a258, hf259, hq260, hA261⟩, hPl, ⟨w267, hg268, by first | omega | decide⟩, by omega, by first | omega | (intro; omega)⟩) rfl hl.1 rfl (Nat.le_of_ble_eq_true rfl) dX12_readClause_26 ⟨Nat.zero_le _, Nat.zero_le _⟩ (fun H locs hI hp hS => ?_)
      obtain ⟨pn277, bn278, Ln279, hE, k283, hi280, hiv281, hno282⟩ := hp
      obtain ⟨⟨hkf, hT, hz0, k307, ⟨a284, hf285, hq286, hA287⟩, ⟨a288, hf289, hq290, hA291⟩, ⟨w300, hg301, k308⟩, ⟨w302, hg303, k309⟩, hg304⟩, ⟨a292, hf293, hq294, hA295⟩, ⟨a296, hf297, hq298, hA299⟩, hPl, ⟨w305, hg306, k310⟩, k311, k312⟩ := hE
      have hiv313 : IV cd va pl TT XX (4, [0], nk + 1, Ln279) pn277 bn278 := hiv281.go (fun hb9 => pd_A_s (fun _ => hno282 hb9))
      refine lv_goto (tgt := 37) hx hb dX12_readClause_29 (by decide) ?_
      refine lv_aload_n hx hb dX12_readClause_37 rfl (lv_at hl 0 rfl) ?_
      refine lv_iconst (v := 5) hx hb dX12_readClause_38 (by decide) ?_
      refine mx_i (As := [.int 5]) (rest := []) (n := 1) (d := 1) ⟨hx, hb, hml, hown, hts⟩ (c_X12_takes0 l E D G h0 hG0 5 ff cd va pl TT pn277 Ln279 bn278 (by first | decide | omega)) wd_1587 wd_1589 wp_66 wd_13 wd_1590 (by decide +kernel) ⟨by rw [hR]; exact Nat.le_of_ble_eq_true rfl, by rw [hR]; exact Nat.le_of_ble_eq_true rfl⟩ hI hN hK hS hG0 (⟨⟨hkf, hT, hz0, by omega, ⟨a284, hf285, hq286, hA287⟩, ⟨a288, hf289, hq290, hA291⟩, ⟨w300, hg301, by first | omega | decide⟩, ⟨w302, hg303, by first | omega | decide⟩, hg304⟩, ⟨a292, hf293, hq294, hA295⟩, ⟨a296, hf297, hq298, hA299⟩, hPl, ⟨w305, hg306, by first | omega | decide⟩, by omega, by first | omega | (intro; omega)⟩) rfl hl.1 rfl (Nat.le_of_ble_eq_true rfl) dX12_readClause_39 ⟨Nat.zero_le _, Nat.zero_le _⟩ (fun r314 H locs hI hp hS => ?_)
      rcases hp with ⟨rfl, hp⟩ | ⟨rfl, hp⟩
      · skip
        try simp only [rg, not_and, Int.not_le] at hp
        have hp315 := hp
        obtain ⟨hb318, hc316, k317, hE⟩ := hp315
        have hp315 : True := trivial
        rw [show (5 : Int32).toInt = 5 from by decide] at hc316
        obtain ⟨⟨hkf, hT, hz0, k342, ⟨a319, hf320, hq321, hA322⟩, ⟨a323, hf324, hq325, hA326⟩, ⟨w335, hg336, k343⟩, ⟨w337, hg338, k344⟩, hg339⟩, ⟨a327, hf328, hq329, hA330⟩, ⟨a331, hf332, hq333, hA334⟩, hPl, ⟨w340, hg341, k345⟩, k346, k347⟩ := hE
        have hiv348 : IV cd va pl TT XX (3, [5], nk + 1, Ln279) (pn277 + 1) bn278 := hiv313.go (fun hb9 => pd_D_if k317 hc316)
        try rw [show (5 : Int32).toInt = 5 from by decide] at hp315
        refine lv_if_eq (tgt := 50) hx hb dX12_readClause_42 (by decide) (fun c => absurd c (by decide)) (fun _ => ?_)
        refine lv_aload_n hx hb dX12_readClause_45 rfl (lv_at hl 0 rfl) ?_
        refine lv_iconst (v := 0) hx hb dX12_readClause_46 (by decide) ?_
        refine mx_v (As := [.int 0]) (rest := []) (n := 1) (d := 56) ⟨hx, hb, hml, hown, hts⟩ (c_X12_readTest l E D G 8 h0 hG0 0 ff cd va pl TT (pn277 + 1) Ln279 bn278 0 (by first | decide | omega) (by omega) (by omega) 5 [] (Or.inr rfl) (nk + 1) XX rfl hiv348 (c_X12_readPlain l E D G 8)) wd_1619 wd_1621 wp_74 wd_13 wd_1622 (by decide +kernel) ⟨by rw [hR]; exact Nat.le_of_ble_eq_true rfl, by rw [hR]; exact Nat.le_of_ble_eq_true rfl⟩ hI hN hK hS hG0 (⟨⟨hkf, hT, hz0, by omega, ⟨a319, hf320, hq321, hA322⟩, ⟨a323, hf324, hq325, hA326⟩, ⟨w335, hg336, by first | omega | decide⟩, ⟨w337, hg338, by first | omega | decide⟩, hg339⟩, ⟨a327, hf328, hq329, hA330⟩, ⟨a331, hf332, hq333, hA334⟩, hPl, ⟨w340, hg341, by first | omega | decide⟩, by omega, by first | omega | (intro; omega)⟩) rfl hl.1 rfl (Nat.le_of_ble_eq_true rfl) dX12_readClause_47 ⟨Nat.zero_le _, Nat.zero_le _⟩ (fun H locs hI hp hS => ?_)
        obtain ⟨pn350, bn351, Ln352, hE, k356, hi353, hiv354, hno355⟩ := hp
        obtain ⟨⟨hkf, hT, hz0, k380, ⟨a357, hf358, hq359, hA360⟩, ⟨a361, hf362, hq363, hA364⟩, ⟨w373, hg374, k381⟩, ⟨w375, hg376, k382⟩, hg377⟩, ⟨a365, hf366, hq367, hA368⟩, ⟨a369, hf370, hq371, hA372⟩, hPl, ⟨w378, hg379, k383⟩, k384, k385⟩ := hE
        have hiv386 : IV cd va pl TT XX (5, [], nk + 1, Ln352) pn350 bn351 := hiv354.go (fun hb9 => pd_D_c5 (fun _ => hno355 hb9))
        have hpost : ∃ (p2 : Nat) (b2 : Int32) (L2 : Nat), RX E D G h0 ff cd va pl TT p2 b2 L2 H ∧ pp ≤ p2 ∧ (b2.toInt = -1 → bb.toInt = -1 ∧ g_cl (rC cd TT) pp p2) ∧ IV cd va pl TT XX (5, [], nk + 1, L2) p2 b2 := by
            refine ⟨pn350, bn351, Ln352, ⟨⟨hkf, hT, hz0, by omega, ⟨a357, hf358, hq359, hA360⟩, ⟨a361, hf362, hq363, hA364⟩, ⟨w373, hg374, by first | omega | decide⟩, ⟨w375, hg376, by first | omega | decide⟩, hg377⟩, ⟨a365, hf366, hq367, hA368⟩, ⟨a369, hf370, hq371, hA372⟩, hPl, ⟨w378, hg379, by first | omega | decide⟩, by omega, by first | omega | (intro; omega)⟩, by omega, ?_, hiv386⟩
            intro h
            obtain ⟨hz1, hz2⟩ := hi353 h
            obtain ⟨ha1, ha2⟩ := hi280 hb318
            exact ⟨ha1, cl_1 (by omega) ha2 (Or.inr ⟨hc316, hz2⟩)⟩
        rw [hQ]
        exact W.vret hx hb hr (fun t ht hW => ⟨⟨(), rfl, trivial, ⟨by rw [ht]; exact hI, hN.warm hW, va_K.moved hW.alike hK⟩, by first | (rw [ht]; exact hpost) | exact hpost⟩, hS.F ht⟩) hS.2.2 dX12_readClause_50
      · skip
        try simp only [rg, not_and, Int.not_le] at hp
        have hp387 := hp
        obtain ⟨hc388, hE⟩ := hp387
        have hp387 : True := trivial
        rw [show (5 : Int32).toInt = 5 from by decide] at hc388
        obtain ⟨⟨hkf, hT, hz0, k413, ⟨a390, hf391, hq392, hA393⟩, ⟨a394, hf395, hq396, hA397⟩, ⟨w406, hg407, k414⟩, ⟨w408, hg409, k415⟩, hg410⟩, ⟨a398, hf399, hq400, hA401⟩, ⟨a402, hf403, hq404, hA405⟩, hPl, ⟨w411, hg412, k416⟩, k417, k418⟩ := hE
        have hiv419 : IV cd va pl TT XX (5, [], nk + 1, Ln279) pn277 bn278 := hiv313.go (fun hb9 => pd_D_c0 (fun _ => by omega))
        try rw [show (5 : Int32).toInt = 5 from by decide] at hp387
        refine lv_if_eq (tgt := 50) hx hb dX12_readClause_42 (by decide) (fun _ => ?_) (fun c => absurd c (by decide))
        have hpost : ∃ (p2 : Nat) (b2 : Int32) (L2 : Nat), RX E D G h0 ff cd va pl TT p2 b2 L2 H ∧ pp ≤ p2 ∧ (b2.toInt = -1 → bb.toInt = -1 ∧ g_cl (rC cd TT) pp p2) ∧ IV cd va pl TT XX (5, [], nk + 1, L2) p2 b2 := by
            refine ⟨pn277, bn278, Ln279, ⟨⟨hkf, hT, hz0, by omega, ⟨a390, hf391, hq392, hA393⟩, ⟨a394, hf395, hq396, hA397⟩, ⟨w406, hg407, by first | omega | decide⟩, ⟨w408, hg409, by first | omega | decide⟩, hg410⟩, ⟨a398, hf399, hq400, hA401⟩, ⟨a402, hf403, hq404, hA405⟩, hPl, ⟨w411, hg412, by first | omega | decide⟩, by omega, by first | omega | (intro; omega)⟩, by omega, ?_, hiv419⟩
            intro h
            obtain ⟨ha1, ha2⟩ := hi280 h
            exact ⟨ha1, cl_1 (by omega) ha2 (Or.inl ⟨by omega, rfl⟩)⟩
        rw [hQ]
        exact W.vret hx hb hr (fun t ht hW => ⟨⟨(), rfl, trivial, ⟨by rw [ht]; exact hI, hN.warm hW, va_K.moved hW.alike hK⟩, by first | (rw [ht]; exact hpost) | exact hpost⟩, hS.F ht⟩) hS.2.2 dX12_readClause_50
    · skip
      try simp only [rg, not_and, Int.not_le] at hp
      have hp420 := hp
      obtain ⟨hc421, hE⟩ := hp420
      have hp420 : True := trivial
      rw [show (2 : Int32).toInt = 2 from by decide] at hc421
      obtain ⟨⟨hkf, hT, hz0, k446, ⟨a423, hf424, hq425, hA426⟩, ⟨a427, hf428, hq429, hA430⟩, ⟨w439, hg440, k447⟩, ⟨w441, hg442, k448⟩, hg443⟩, ⟨a431, hf432, hq433, hA434⟩, ⟨a435, hf436, hq437, hA438⟩, hPl, ⟨w444, hg445, k449⟩, k450, k451⟩ := hE
      try rw [show (2 : Int32).toInt = 2 from by decide] at hp420
      refine lv_if_ne (tgt := 24) hx hb dX12_readClause_13 (by decide) (fun c => absurd c (by decide)) (fun _ => ?_)
      refine lv_aload_n hx hb dX12_readClause_16 rfl (lv_at hl 0 rfl) ?_
      refine lv_iconst (v := 3) hx hb dX12_readClause_17 (by decide) ?_
      refine mx_i (As := [.int 3]) (rest := []) (n := 1) (d := 1) ⟨hx, hb, hml, hown, hts⟩ (c_X12_takes0 l E D G h0 hG0 3 ff cd va pl TT pp LL bb (by first | decide | omega)) wd_1587 wd_1589 wp_66 wd_13 wd_1590 (by decide +kernel) ⟨by rw [hR]; exact Nat.le_of_ble_eq_true rfl, by rw [hR]; exact Nat.le_of_ble_eq_true rfl⟩ hI hN hK hS hG0 (⟨⟨hkf, hT, hz0, by omega, ⟨a423, hf424, hq425, hA426⟩, ⟨a427, hf428, hq429, hA430⟩, ⟨w439, hg440, by first | omega | decide⟩, ⟨w441, hg442, by first | omega | decide⟩, hg443⟩, ⟨a431, hf432, hq433, hA434⟩, ⟨a435, hf436, hq437, hA438⟩, hPl, ⟨w444, hg445, by first | omega | decide⟩, by omega, by first | omega | (intro; omega)⟩) rfl hl.1 rfl (Nat.le_of_ble_eq_true rfl) dX12_readClause_18 ⟨Nat.zero_le _, Nat.zero_le _⟩ (fun r452 H locs hI hp hS => ?_)
      rcases hp with ⟨rfl, hp⟩ | ⟨rfl, hp⟩
      · skip
        try simp only [rg, not_and, Int.not_le] at hp
        have hp453 := hp
        obtain ⟨hb456, hc454, k455, hE⟩ := hp453
        have hp453 : True := trivial
        rw [show (3 : Int32).toInt = 3 from by decide] at hc454
        obtain ⟨⟨hkf, hT, hz0, k480, ⟨a457, hf458, hq459, hA460⟩, ⟨a461, hf462, hq463, hA464⟩, ⟨w473, hg474, k481⟩, ⟨w475, hg476, k482⟩, hg477⟩, ⟨a465, hf466, hq467, hA468⟩, ⟨a469, hf470, hq471, hA472⟩, hPl, ⟨w478, hg479, k483⟩, k484, k485⟩ := hE
        have hiv486 : IV cd va pl TT XX (1, [0], nk + 1, LL) (pp + 1) bb := hiv.go (fun hb9 => pd_H_sm k455 hn12 (by omega))
        try rw [show (3 : Int32).toInt = 3 from by decide] at hp453
        refine lv_if_eq (tgt := 32) hx hb dX12_readClause_21 (by decide) (fun c => absurd c (by decide)) (fun _ => ?_)
        refine lv_aload_n hx hb dX12_readClause_24 rfl (lv_at hl 0 rfl) ?_
        refine lv_iconst (v := 0) hx hb dX12_readClause_25 (by decide) ?_
        refine mx_v (As := [.int 0]) (rest := []) (n := 1) (d := 29) ⟨hx, hb, hml, hown, hts⟩ (c_X12_readSum l E D G 8 h0 hG0 0 ff cd va pl TT (pp + 1) LL bb 0 (by first | decide | omega) (by omega) (by omega) [0] (nk + 1) XX rfl hiv486 (c_X12_readPart l E D G 8)) wd_1595 wd_1597 wp_68 wd_13 wd_1598 (by decide +kernel) ⟨by rw [hR]; exact Nat.le_of_ble_eq_true rfl, by rw [hR]; exact Nat.le_of_ble_eq_true rfl⟩ hI hN hK hS hG0 (⟨⟨hkf, hT, hz0, by omega, ⟨a457, hf458, hq459, hA460⟩, ⟨a461, hf462, hq463, hA464⟩, ⟨w473, hg474, by first | omega | decide⟩, ⟨w475, hg476, by first | omega | decide⟩, hg477⟩, ⟨a465, hf466, hq467, hA468⟩, ⟨a469, hf470, hq471, hA472⟩, hPl, ⟨w478, hg479, by first | omega | decide⟩, by omega, by first | omega | (intro; omega)⟩) rfl hl.1 rfl (Nat.le_of_ble_eq_true rfl) dX12_readClause_26 ⟨Nat.zero_le _, Nat.zero_le _⟩ (fun H locs hI hp hS => ?_)
        obtain ⟨pn488, bn489, Ln490, hE, k494, hi491, hiv492, hno493⟩ := hp
        obtain ⟨⟨hkf, hT, hz0, k518, ⟨a495, hf496, hq497, hA498⟩, ⟨a499, hf500, hq501, hA502⟩, ⟨w511, hg512, k519⟩, ⟨w513, hg514, k520⟩, hg515⟩, ⟨a503, hf504, hq505, hA506⟩, ⟨a507, hf508, hq509, hA510⟩, hPl, ⟨w516, hg517, k521⟩, k522, k523⟩ := hE
        have hiv524 : IV cd va pl TT XX (4, [0], nk + 1, Ln490) pn488 bn489 := hiv492.go (fun hb9 => pd_A_s (fun _ => hno493 hb9))
        refine lv_goto (tgt := 37) hx hb dX12_readClause_29 (by decide) ?_
        refine lv_aload_n hx hb dX12_readClause_37 rfl (lv_at hl 0 rfl) ?_
        refine lv_iconst (v := 5) hx hb dX12_readClause_38 (by decide) ?_
        refine mx_i (As := [.int 5]) (rest := []) (n := 1) (d := 1) ⟨hx, hb, hml, hown, hts⟩ (c_X12_takes0 l E D G h0 hG0 5 ff cd va pl TT pn488 Ln490 bn489 (by first | decide | omega)) wd_1587 wd_1589 wp_66 wd_13 wd_1590 (by decide +kernel) ⟨by rw [hR]; exact Nat.le_of_ble_eq_true rfl, by rw [hR]; exact Nat.le_of_ble_eq_true rfl⟩ hI hN hK hS hG0 (⟨⟨hkf, hT, hz0, by omega, ⟨a495, hf496, hq497, hA498⟩, ⟨a499, hf500, hq501, hA502⟩, ⟨w511, hg512, by first | omega | decide⟩, ⟨w513, hg514, by first | omega | decide⟩, hg515⟩, ⟨a503, hf504, hq505, hA506⟩, ⟨a507, hf508, hq509, hA510⟩, hPl, ⟨w516, hg517, by first | omega | decide⟩, by omega, by first | omega | (intro; omega)⟩) rfl hl.1 rfl (Nat.le_of_ble_eq_true rfl) dX12_readClause_39 ⟨Nat.zero_le _, Nat.zero_le _⟩ (fun r525 H locs hI hp hS => ?_)
        rcases hp with ⟨rfl, hp⟩ | ⟨rfl, hp⟩
        · skip
          try simp only [rg, not_and, Int.not_le] at hp
          have hp526 := hp
          obtain ⟨hb529, hc527, k528, hE⟩ := hp526
          have hp526 : True := trivial
          rw [show (5 : Int32).toInt = 5 from by decide] at hc527
          obtain ⟨⟨hkf, hT, hz0, k553, ⟨a530, hf531, hq532, hA533⟩, ⟨a534, hf535, hq536, hA537⟩, ⟨w546, hg547, k554⟩, ⟨w548, hg549, k555⟩, hg550⟩, ⟨a538, hf539, hq540, hA541⟩, ⟨a542, hf543, hq544, hA545⟩, hPl, ⟨w551, hg552, k556⟩, k557, k558⟩ := hE
          have hiv559 : IV cd va pl TT XX (3, [5], nk + 1, Ln490) (pn488 + 1) bn489 := hiv524.go (fun hb9 => pd_D_if k528 hc527)
          try rw [show (5 : Int32).toInt = 5 from by decide] at hp526
          refine lv_if_eq (tgt := 50) hx hb dX12_readClause_42 (by decide) (fun c => absurd c (by decide)) (fun _ => ?_)
          refine lv_aload_n hx hb dX12_readClause_45 rfl (lv_at hl 0 rfl) ?_
          refine lv_iconst (v := 0) hx hb dX12_readClause_46 (by decide) ?_
          refine mx_v (As := [.int 0]) (rest := []) (n := 1) (d := 56) ⟨hx, hb, hml, hown, hts⟩ (c_X12_readTest l E D G 8 h0 hG0 0 ff cd va pl TT (pn488 + 1) Ln490 bn489 0 (by first | decide | omega) (by omega) (by omega) 5 [] (Or.inr rfl) (nk + 1) XX rfl hiv559 (c_X12_readPlain l E D G 8)) wd_1619 wd_1621 wp_74 wd_13 wd_1622 (by decide +kernel) ⟨by rw [hR]; exact Nat.le_of_ble_eq_true rfl, by rw [hR]; exact Nat.le_of_ble_eq_true rfl⟩ hI hN hK hS hG0 (⟨⟨hkf, hT, hz0, by omega, ⟨a530, hf531, hq532, hA533⟩, ⟨a534, hf535, hq536, hA537⟩, ⟨w546, hg547, by first | omega | decide⟩, ⟨w548, hg549, by first | omega | decide⟩, hg550⟩, ⟨a538, hf539, hq540, hA541⟩, ⟨a542, hf543, hq544, hA545⟩, hPl, ⟨w551, hg552, by first | omega | decide⟩, by omega, by first | omega | (intro; omega)⟩) rfl hl.1 rfl (Nat.le_of_ble_eq_true rfl) dX12_readClause_47 ⟨Nat.zero_le _, Nat.zero_le _⟩ (fun H locs hI hp hS => ?_)
          obtain ⟨pn561, bn562, Ln563, hE, k567, hi564, hiv565, hno566⟩ := hp
          obtain ⟨⟨hkf, hT, hz0, k591, ⟨a568, hf569, hq570, hA571⟩, ⟨a572, hf573, hq574, hA575⟩, ⟨w584, hg585, k592⟩, ⟨w586, hg587, k593⟩, hg588⟩, ⟨a576, hf577, hq578, hA579⟩, ⟨a580, hf581, hq582, hA583⟩, hPl, ⟨w589, hg590, k594⟩, k595, k596⟩ := hE
          have hiv597 : IV cd va pl TT XX (5, [], nk + 1, Ln563) pn561 bn562 := hiv565.go (fun hb9 => pd_D_c5 (fun _ => hno566 hb9))
          have hpost : ∃ (p2 : Nat) (b2 : Int32) (L2 : Nat), RX E D G h0 ff cd va pl TT p2 b2 L2 H ∧ pp ≤ p2 ∧ (b2.toInt = -1 → bb.toInt = -1 ∧ g_cl (rC cd TT) pp p2) ∧ IV cd va pl TT XX (5, [], nk + 1, L2) p2 b2 := by
              refine ⟨pn561, bn562, Ln563, ⟨⟨hkf, hT, hz0, by omega, ⟨a568, hf569, hq570, hA571⟩, ⟨a572, hf573, hq574, hA575⟩, ⟨w584, hg585, by first | omega | decide⟩, ⟨w586, hg587, by first | omega | decide⟩, hg588⟩, ⟨a576, hf577, hq578, hA579⟩, ⟨a580, hf581, hq582, hA583⟩, hPl, ⟨w589, hg590, by first | omega | decide⟩, by omega, by first | omega | (intro; omega)⟩, by omega, ?_, hiv597⟩
              intro h
              obtain ⟨hz1, hz2⟩ := hi564 h
              obtain ⟨ha1, ha2⟩ := hi491 hb529
              exact ⟨ha1, cl_1 (by omega) ha2 (Or.inr ⟨hc527, hz2⟩)⟩
          rw [hQ]
          exact W.vret hx hb hr (fun t ht hW => ⟨⟨(), rfl, trivial, ⟨by rw [ht]; exact hI, hN.warm hW, va_K.moved hW.alike hK⟩, by first | (rw [ht]; exact hpost) | exact hpost⟩, hS.F ht⟩) hS.2.2 dX12_readClause_50
        · skip
          try simp only [rg, not_and, Int.not_le] at hp
          have hp598 := hp
          obtain ⟨hc599, hE⟩ := hp598
          have hp598 : True := trivial
          rw [show (5 : Int32).toInt = 5 from by decide] at hc599
          obtain ⟨⟨hkf, hT, hz0, k624, ⟨a601, hf602, hq603, hA604⟩, ⟨a605, hf606, hq607, hA608⟩, ⟨w617, hg618, k625⟩, ⟨w619, hg620, k626⟩, hg621⟩, ⟨a609, hf610, hq611, hA612⟩, ⟨a613, hf614, hq615, hA616⟩, hPl, ⟨w622, hg623, k627⟩, k628, k629⟩ := hE
          have hiv630 : IV cd va pl TT XX (5, [], nk + 1, Ln490) pn488 bn489 := hiv524.go (fun hb9 => pd_D_c0 (fun _ => by omega))
          try rw [show (5 : Int32).toInt = 5 from by decide] at hp598
          refine lv_if_eq (tgt := 50) hx hb dX12_readClause_42 (by decide) (fun _ => ?_) (fun c => absurd c (by decide))
          have hpost : ∃ (p2 : Nat) (b2 : Int32) (L2 : Nat), RX E D G h0 ff cd va pl TT p2 b2 L2 H ∧ pp ≤ p2 ∧ (b2.toInt = -1 → bb.toInt = -1 ∧ g_cl (rC cd TT) pp p2) ∧ IV cd va pl TT XX (5, [], nk + 1, L2) p2 b2 := by
              refine ⟨pn488, bn489, Ln490, ⟨⟨hkf, hT, hz0, by omega, ⟨a601, hf602, hq603, hA604⟩, ⟨a605, hf606, hq607, hA608⟩, ⟨w617, hg618, by first | omega | decide⟩, ⟨w619, hg620, by first | omega | decide⟩, hg621⟩, ⟨a609, hf610, hq611, hA612⟩, ⟨a613, hf614, hq615, hA616⟩, hPl, ⟨w622, hg623, by first | omega | decide⟩, by omega, by first | omega | (intro; omega)⟩, by omega, ?_, hiv630⟩
              intro h
              obtain ⟨ha1, ha2⟩ := hi491 h
              exact ⟨ha1, cl_1 (by omega) ha2 (Or.inl ⟨by omega, rfl⟩)⟩
          rw [hQ]
          exact W.vret hx hb hr (fun t ht hW => ⟨⟨(), rfl, trivial, ⟨by rw [ht]; exact hI, hN.warm hW, va_K.moved hW.alike hK⟩, by first | (rw [ht]; exact hpost) | exact hpost⟩, hS.F ht⟩) hS.2.2 dX12_readClause_50
      · skip
        try simp only [rg, not_and, Int.not_le] at hp
        have hp631 := hp
        obtain ⟨hc632, hE⟩ := hp631
        have hp631 : True := trivial
        rw [show (3 : Int32).toInt = 3 from by decide] at hc632
        obtain ⟨⟨hkf, hT, hz0, k657, ⟨a634, hf635, hq636, hA637⟩, ⟨a638, hf639, hq640, hA641⟩, ⟨w650, hg651, k658⟩, ⟨w652, hg653, k659⟩, hg654⟩, ⟨a642, hf643, hq644, hA645⟩, ⟨a646, hf647, hq648, hA649⟩, hPl, ⟨w655, hg656, k660⟩, k661, k662⟩ := hE
        try rw [show (3 : Int32).toInt = 3 from by decide] at hp631
        refine lv_if_eq (tgt := 32) hx hb dX12_readClause_21 (by decide) (fun _ => ?_) (fun c => absurd c (by decide))
        refine lv_aload_n hx hb dX12_readClause_32 rfl (lv_at hl 0 rfl) ?_
        refine lv_iconst (v := 4) hx hb dX12_readClause_33 (by decide) ?_
        refine mx_v (As := [.int 4]) (rest := []) (n := 1) (d := 2) ⟨hx, hb, hml, hown, hts⟩ (c_X12_must l E D G h0 hG0 4 ff cd va pl TT pp LL bb (by first | decide | omega)) wd_1611 wd_1613 wp_72 wd_13 wd_1614 (by decide +kernel) ⟨by rw [hR]; exact Nat.le_of_ble_eq_true rfl, by rw [hR]; exact Nat.le_of_ble_eq_true rfl⟩ hI hN hK hS hG0 (⟨⟨hkf, hT, hz0, by omega, ⟨a634, hf635, hq636, hA637⟩, ⟨a638, hf639, hq640, hA641⟩, ⟨w650, hg651, by first | omega | decide⟩, ⟨w652, hg653, by first | omega | decide⟩, hg654⟩, ⟨a642, hf643, hq644, hA645⟩, ⟨a646, hf647, hq648, hA649⟩, hPl, ⟨w655, hg656, by first | omega | decide⟩, by omega, by first | omega | (intro; omega)⟩) rfl hl.1 rfl (Nat.le_of_ble_eq_true rfl) dX12_readClause_34 ⟨Nat.zero_le _, Nat.zero_le _⟩ (fun H locs hI hp hS => ?_)
        obtain ⟨pn664, bn665, hE, k667, hm666⟩ := hp
        rw [show (4 : Int32).toInt = 4 from by decide] at hm666
        have hi668 := hm666.i
        obtain ⟨⟨hkf, hT, hz0, k692, ⟨a669, hf670, hq671, hA672⟩, ⟨a673, hf674, hq675, hA676⟩, ⟨w685, hg686, k693⟩, ⟨w687, hg688, k694⟩, hg689⟩, ⟨a677, hf678, hq679, hA680⟩, ⟨a681, hf682, hq683, hA684⟩, hPl, ⟨w690, hg691, k695⟩, k696, k697⟩ := hE
        have hiv698 : IV cd va pl TT XX (4, [0], nk + 1, LL) pn664 bn665 := IV.must hiv hm666 (fun hb9 hc9 => pd_H_ba (rC_lt (cd := cd) (by omega)) hn12 hc9) (fun hb9 hc9 => pd_H_no (fun _ _ => by omega))
        refine lv_aload_n hx hb dX12_readClause_37 rfl (lv_at hl 0 rfl) ?_
        refine lv_iconst (v := 5) hx hb dX12_readClause_38 (by decide) ?_
        refine mx_i (As := [.int 5]) (rest := []) (n := 1) (d := 1) ⟨hx, hb, hml, hown, hts⟩ (c_X12_takes0 l E D G h0 hG0 5 ff cd va pl TT pn664 LL bn665 (by first | decide | omega)) wd_1587 wd_1589 wp_66 wd_13 wd_1590 (by decide +kernel) ⟨by rw [hR]; exact Nat.le_of_ble_eq_true rfl, by rw [hR]; exact Nat.le_of_ble_eq_true rfl⟩ hI hN hK hS hG0 (⟨⟨hkf, hT, hz0, by omega, ⟨a669, hf670, hq671, hA672⟩, ⟨a673, hf674, hq675, hA676⟩, ⟨w685, hg686, by first | omega | decide⟩, ⟨w687, hg688, by first | omega | decide⟩, hg689⟩, ⟨a677, hf678, hq679, hA680⟩, ⟨a681, hf682, hq683, hA684⟩, hPl, ⟨w690, hg691, by first | omega | decide⟩, by omega, by first | omega | (intro; omega)⟩) rfl hl.1 rfl (Nat.le_of_ble_eq_true rfl) dX12_readClause_39 ⟨Nat.zero_le _, Nat.zero_le _⟩ (fun r699 H locs hI hp hS => ?_)
        rcases hp with ⟨rfl, hp⟩ | ⟨rfl, hp⟩
        · skip
          try simp only [rg, not_and, Int.not_le] at hp
          have hp700 := hp
          obtain ⟨hb703, hc701, k702, hE⟩ := hp700
          have hp700 : True := trivial
          rw [show (5 : Int32).toInt = 5 from by decide] at hc701
          obtain ⟨⟨hkf, hT, hz0, k727, ⟨a704, hf705, hq706, hA707⟩, ⟨a708, hf709, hq710, hA711⟩, ⟨w720, hg721, k728⟩, ⟨w722, hg723, k729⟩, hg724⟩, ⟨a712, hf713, hq714, hA715⟩, ⟨a716, hf717, hq718, hA719⟩, hPl, ⟨w725, hg726, k730⟩, k731, k732⟩ := hE
          have hiv733 : IV cd va pl TT XX (3, [5], nk + 1, LL) (pn664 + 1) bn665 := hiv698.go (fun hb9 => pd_D_if k702 hc701)
          try rw [show (5 : Int32).toInt = 5 from by decide] at hp700
          refine lv_if_eq (tgt := 50) hx hb dX12_readClause_42 (by decide) (fun c => absurd c (by decide)) (fun _ => ?_)
          refine lv_aload_n hx hb dX12_readClause_45 rfl (lv_at hl 0 rfl) ?_
          refine lv_iconst (v := 0) hx hb dX12_readClause_46 (by decide) ?_
          refine mx_v (As := [.int 0]) (rest := []) (n := 1) (d := 56) ⟨hx, hb, hml, hown, hts⟩ (c_X12_readTest l E D G 8 h0 hG0 0 ff cd va pl TT (pn664 + 1) LL bn665 0 (by first | decide | omega) (by omega) (by omega) 5 [] (Or.inr rfl) (nk + 1) XX rfl hiv733 (c_X12_readPlain l E D G 8)) wd_1619 wd_1621 wp_74 wd_13 wd_1622 (by decide +kernel) ⟨by rw [hR]; exact Nat.le_of_ble_eq_true rfl, by rw [hR]; exact Nat.le_of_ble_eq_true rfl⟩ hI hN hK hS hG0 (⟨⟨hkf, hT, hz0, by omega, ⟨a704, hf705, hq706, hA707⟩, ⟨a708, hf709, hq710, hA711⟩, ⟨w720, hg721, by first | omega | decide⟩, ⟨w722, hg723, by first | omega | decide⟩, hg724⟩, ⟨a712, hf713, hq714, hA715⟩, ⟨a716, hf717, hq718, hA719⟩, hPl, ⟨w725, hg726, by first | omega | decide⟩, by omega, by first | omega | (intro; omega)⟩) rfl hl.1 rfl (Nat.le_of_ble_eq_true rfl) dX12_readClause_47 ⟨Nat.zero_le _, Nat.zero_le _⟩ (fun H locs hI hp hS => ?_)
          obtain ⟨pn735, bn736, Ln737, hE, k741, hi738, hiv739, hno740⟩ := hp
          obtain ⟨⟨hkf, hT, hz0, k765, ⟨a742, hf743, hq744, hA745⟩, ⟨a746, hf747, hq748, hA749⟩, ⟨w758, hg759, k766⟩, ⟨w760, hg761, k767⟩, hg762⟩, ⟨a750, hf751, hq752, hA753⟩, ⟨a754, hf755, hq756, hA757⟩, hPl, ⟨w763, hg764, k768⟩, k769, k770⟩ := hE
          have hiv771 : IV cd va pl TT XX (5, [], nk + 1, Ln737) pn735 bn736 := hiv739.go (fun hb9 => pd_D_c5 (fun _ => hno740 hb9))
          have hpost : ∃ (p2 : Nat) (b2 : Int32) (L2 : Nat), RX E D G h0 ff cd va pl TT p2 b2 L2 H ∧ pp ≤ p2 ∧ (b2.toInt = -1 → bb.toInt = -1 ∧ g_cl (rC cd TT) pp p2) ∧ IV cd va pl TT XX (5, [], nk + 1, L2) p2 b2 := by
              refine ⟨pn735, bn736, Ln737, ⟨⟨hkf, hT, hz0, by omega, ⟨a742, hf743, hq744, hA745⟩, ⟨a746, hf747, hq748, hA749⟩, ⟨w758, hg759, by first | omega | decide⟩, ⟨w760, hg761, by first | omega | decide⟩, hg762⟩, ⟨a750, hf751, hq752, hA753⟩, ⟨a754, hf755, hq756, hA757⟩, hPl, ⟨w763, hg764, by first | omega | decide⟩, by omega, by first | omega | (intro; omega)⟩, by omega, ?_, hiv771⟩
              intro h
              obtain ⟨hz1, hz2⟩ := hi738 h
              obtain ⟨ha1, ha2, ha3⟩ := hi668 hb703
              exact ⟨ha1, cl_2 ha2 ha3 (Or.inr ⟨hc701, hz2⟩)⟩
          rw [hQ]
          exact W.vret hx hb hr (fun t ht hW => ⟨⟨(), rfl, trivial, ⟨by rw [ht]; exact hI, hN.warm hW, va_K.moved hW.alike hK⟩, by first | (rw [ht]; exact hpost) | exact hpost⟩, hS.F ht⟩) hS.2.2 dX12_readClause_50
        · skip
          try simp only [rg, not_and, Int.not_le] at hp
          have hp772 := hp
          obtain ⟨hc773, hE⟩ := hp772
          have hp772 : True := trivial
          rw [show (5 : Int32).toInt = 5 from by decide] at hc773
          obtain ⟨⟨hkf, hT, hz0, k798, ⟨a775, hf776, hq777, hA778⟩, ⟨a779, hf780, hq781, hA782⟩, ⟨w791, hg792, k799⟩, ⟨w793, hg794, k800⟩, hg795⟩, ⟨a783, hf784, hq785, hA786⟩, ⟨a787, hf788, hq789, hA790⟩, hPl, ⟨w796, hg797, k801⟩, k802, k803⟩ := hE
          have hiv804 : IV cd va pl TT XX (5, [], nk + 1, LL) pn664 bn665 := hiv698.go (fun hb9 => pd_D_c0 (fun _ => by omega))
          try rw [show (5 : Int32).toInt = 5 from by decide] at hp772
          refine lv_if_eq (tgt := 50) hx hb dX12_readClause_42 (by decide) (fun _ => ?_) (fun c => absurd c (by decide))
          have hpost : ∃ (p2 : Nat) (b2 : Int32) (L2 : Nat), RX E D G h0 ff cd va pl TT p2 b2 L2 H ∧ pp ≤ p2 ∧ (b2.toInt = -1 → bb.toInt = -1 ∧ g_cl (rC cd TT) pp p2) ∧ IV cd va pl TT XX (5, [], nk + 1, L2) p2 b2 := by
              refine ⟨pn664, bn665, LL, ⟨⟨hkf, hT, hz0, by omega, ⟨a775, hf776, hq777, hA778⟩, ⟨a779, hf780, hq781, hA782⟩, ⟨w791, hg792, by first | omega | decide⟩, ⟨w793, hg794, by first | omega | decide⟩, hg795⟩, ⟨a783, hf784, hq785, hA786⟩, ⟨a787, hf788, hq789, hA790⟩, hPl, ⟨w796, hg797, by first | omega | decide⟩, by omega, by first | omega | (intro; omega)⟩, by omega, ?_, hiv804⟩
              intro h
              obtain ⟨ha1, ha2, ha3⟩ := hi668 h
              exact ⟨ha1, cl_2 ha2 ha3 (Or.inl ⟨by omega, rfl⟩)⟩
          rw [hQ]
          exact W.vret hx hb hr (fun t ht hW => ⟨⟨(), rfl, trivial, ⟨by rw [ht]; exact hI, hN.warm hW, va_K.moved hW.alike hK⟩, by first | (rw [ht]; exact hpost) | exact hpost⟩, hS.F ht⟩) hS.2.2 dX12_readClause_50
