theorem wp_63 : Cond.selects RX12 yX12_splits yX12_splits ∈ TB := tv 63 (by decide +kernel) (by decide +kernel)
theorem wp_65 : Cond.selects RX12 yX12_readClause yX12_readClause ∈ TB := tv 65 (by decide +kernel) (by decide +kernel)
theorem wd_1568 : (Cond.methodLink RX12 (207 : Nat) yX12_splits) ∈ TB := tw 1568 (by decide +kernel) (by decide +kernel)
theorem wd_1570 : (Jvm.Cond.instanceMethod yX12_splits) ∈ TB := tw 1570 (by decide +kernel) (by decide +kernel)
theorem wd_1571 : (Cond.code yX12_splits cX12_splits 6 (Option.none : Option Jvm.ClassFile.FieldType)) ∈ TB := tw 1571 (by decide +kernel) (by decide +kernel)
theorem wd_1583 : (Cond.methodLink RX12 (210 : Nat) yX12_readClause) ∈ TB := tw 1583 (by decide +kernel) (by decide +kernel)
theorem wd_1585 : (Jvm.Cond.instanceMethod yX12_readClause) ∈ TB := tw 1585 (by decide +kernel) (by decide +kernel)
theorem wd_1586 : (Cond.code yX12_readClause cX12_readClause 1 (Option.none : Option Jvm.ClassFile.FieldType)) ∈ TB := tw 1586 (by decide +kernel) (by decide +kernel)
theorem dX12_reads_0g : (decode cX12_reads 0 = .ok (.aload_n 0, 1)) ∧ (decode cX12_reads 1 = .ok (.aload_n 0, 1)) ∧ (decode cX12_reads 2 = .ok (.getfield 132, 3)) ∧ (decode cX12_reads 5 = .ok (.invokevirtual 207, 3)) ∧ (decode cX12_reads 8 = .ok (.aload_n 0, 1)) ∧ (decode cX12_reads 9 = .ok (.iconst 0, 1)) ∧ (decode cX12_reads 10 = .ok (.putfield 132, 3)) ∧ (decode cX12_reads 13 = .ok (.aload_n 0, 1)) ∧ (decode cX12_reads 14 = .ok (.iconst 0, 1)) ∧ (decode cX12_reads 15 = .ok (.putfield 166, 3)) := by decide +kernel
theorem dX12_reads_0 : decode cX12_reads 0 = .ok (.aload_n 0, 1) := dX12_reads_0g.1
theorem dX12_reads_1 : decode cX12_reads 1 = .ok (.aload_n 0, 1) := dX12_reads_0g.2.1
theorem dX12_reads_2 : decode cX12_reads 2 = .ok (.getfield 132, 3) := dX12_reads_0g.2.2.1
theorem dX12_reads_5 : decode cX12_reads 5 = .ok (.invokevirtual 207, 3) := dX12_reads_0g.2.2.2.1
theorem dX12_reads_8 : decode cX12_reads 8 = .ok (.aload_n 0, 1) := dX12_reads_0g.2.2.2.2.1
theorem dX12_reads_9 : decode cX12_reads 9 = .ok (.iconst 0, 1) := dX12_reads_0g.2.2.2.2.2.1
theorem dX12_reads_10 : decode cX12_reads 10 = .ok (.putfield 132, 3) := dX12_reads_0g.2.2.2.2.2.2.1
theorem dX12_reads_13 : decode cX12_reads 13 = .ok (.aload_n 0, 1) := dX12_reads_0g.2.2.2.2.2.2.2.1
theorem dX12_reads_14 : decode cX12_reads 14 = .ok (.iconst 0, 1) := dX12_reads_0g.2.2.2.2.2.2.2.2.1
theorem dX12_reads_15 : decode cX12_reads 15 = .ok (.putfield 166, 3) := dX12_reads_0g.2.2.2.2.2.2.2.2.2
theorem dX12_reads_18g : (decode cX12_reads 18 = .ok (.aload_n 0, 1)) ∧ (decode cX12_reads 19 = .ok (.iconst 0, 1)) ∧ (decode cX12_reads 20 = .ok (.putfield 175, 3)) ∧ (decode cX12_reads 23 = .ok (.aload_n 0, 1)) ∧ (decode cX12_reads 24 = .ok (.iconst (-1), 1)) ∧ (decode cX12_reads 25 = .ok (.putfield 159, 3)) ∧ (decode cX12_reads 28 = .ok (.aload_n 0, 1)) ∧ (decode cX12_reads 29 = .ok (.invokevirtual 210, 3)) ∧ (decode cX12_reads 32 = .ok (.iconst 1, 1)) ∧ (decode cX12_reads 33 = .ok (.istore_n 1, 1)) := by decide +kernel
theorem dX12_reads_18 : decode cX12_reads 18 = .ok (.aload_n 0, 1) := dX12_reads_18g.1
theorem dX12_reads_19 : decode cX12_reads 19 = .ok (.iconst 0, 1) := dX12_reads_18g.2.1
theorem dX12_reads_20 : decode cX12_reads 20 = .ok (.putfield 175, 3) := dX12_reads_18g.2.2.1
theorem dX12_reads_23 : decode cX12_reads 23 = .ok (.aload_n 0, 1) := dX12_reads_18g.2.2.2.1
theorem dX12_reads_24 : decode cX12_reads 24 = .ok (.iconst (-1), 1) := dX12_reads_18g.2.2.2.2.1
theorem dX12_reads_25 : decode cX12_reads 25 = .ok (.putfield 159, 3) := dX12_reads_18g.2.2.2.2.2.1
theorem dX12_reads_28 : decode cX12_reads 28 = .ok (.aload_n 0, 1) := dX12_reads_18g.2.2.2.2.2.2.1
theorem dX12_reads_29 : decode cX12_reads 29 = .ok (.invokevirtual 210, 3) := dX12_reads_18g.2.2.2.2.2.2.2.1
theorem dX12_reads_32 : decode cX12_reads 32 = .ok (.iconst 1, 1) := dX12_reads_18g.2.2.2.2.2.2.2.2.1
theorem dX12_reads_33 : decode cX12_reads 33 = .ok (.istore_n 1, 1) := dX12_reads_18g.2.2.2.2.2.2.2.2.2
theorem dX12_reads_34g : (decode cX12_reads 34 = .ok (.aload_n 0, 1)) ∧ (decode cX12_reads 35 = .ok (.bipush 59, 2)) ∧ (decode cX12_reads 37 = .ok (.invokestatic 194, 3)) ∧ (decode cX12_reads 40 = .ok (.invokevirtual 169, 3)) ∧ (decode cX12_reads 43 = .ok (.ifCond .eq 30, 3)) ∧ (decode cX12_reads 46 = .ok (.iload_n 1, 1)) ∧ (decode cX12_reads 47 = .ok (.bipush 12, 2)) ∧ (decode cX12_reads 49 = .ok (.if_icmp .ne 7, 3)) ∧ (decode cX12_reads 52 = .ok (.aload_n 0, 1)) ∧ (decode cX12_reads 53 = .ok (.invokevirtual 172, 3)) := by decide +kernel
theorem dX12_reads_34 : decode cX12_reads 34 = .ok (.aload_n 0, 1) := dX12_reads_34g.1
theorem dX12_reads_35 : decode cX12_reads 35 = .ok (.bipush 59, 2) := dX12_reads_34g.2.1
theorem dX12_reads_37 : decode cX12_reads 37 = .ok (.invokestatic 194, 3) := dX12_reads_34g.2.2.1
theorem dX12_reads_40 : decode cX12_reads 40 = .ok (.invokevirtual 169, 3) := dX12_reads_34g.2.2.2.1
theorem dX12_reads_43 : decode cX12_reads 43 = .ok (.ifCond .eq 30, 3) := dX12_reads_34g.2.2.2.2.1
theorem dX12_reads_46 : decode cX12_reads 46 = .ok (.iload_n 1, 1) := dX12_reads_34g.2.2.2.2.2.1
theorem dX12_reads_47 : decode cX12_reads 47 = .ok (.bipush 12, 2) := dX12_reads_34g.2.2.2.2.2.2.1
theorem dX12_reads_49 : decode cX12_reads 49 = .ok (.if_icmp .ne 7, 3) := dX12_reads_34g.2.2.2.2.2.2.2.1
theorem dX12_reads_52 : decode cX12_reads 52 = .ok (.aload_n 0, 1) := dX12_reads_34g.2.2.2.2.2.2.2.2.1
theorem dX12_reads_53 : decode cX12_reads 53 = .ok (.invokevirtual 172, 3) := dX12_reads_34g.2.2.2.2.2.2.2.2.2
theorem dX12_reads_56g : (decode cX12_reads 56 = .ok (.aload_n 0, 1)) ∧ (decode cX12_reads 57 = .ok (.invokevirtual 162, 3)) ∧ (decode cX12_reads 60 = .ok (.ifCond .eq 7, 3)) ∧ (decode cX12_reads 63 = .ok (.aload_n 0, 1)) ∧ (decode cX12_reads 64 = .ok (.invokevirtual 210, 3)) ∧ (decode cX12_reads 67 = .ok (.iinc 1 1, 3)) ∧ (decode cX12_reads 70 = .ok (.goto (-36), 3)) ∧ (decode cX12_reads 73 = .ok (.aload_n 0, 1)) ∧ (decode cX12_reads 74 = .ok (.invokevirtual 162, 3)) ∧ (decode cX12_reads 77 = .ok (.ifCond .eq 18, 3)) := by decide +kernel
theorem dX12_reads_56 : decode cX12_reads 56 = .ok (.aload_n 0, 1) := dX12_reads_56g.1
theorem dX12_reads_57 : decode cX12_reads 57 = .ok (.invokevirtual 162, 3) := dX12_reads_56g.2.1
theorem dX12_reads_60 : decode cX12_reads 60 = .ok (.ifCond .eq 7, 3) := dX12_reads_56g.2.2.1
theorem dX12_reads_63 : decode cX12_reads 63 = .ok (.aload_n 0, 1) := dX12_reads_56g.2.2.2.1
theorem dX12_reads_64 : decode cX12_reads 64 = .ok (.invokevirtual 210, 3) := dX12_reads_56g.2.2.2.2.1
theorem dX12_reads_67 : decode cX12_reads 67 = .ok (.iinc 1 1, 3) := dX12_reads_56g.2.2.2.2.2.1
theorem dX12_reads_70 : decode cX12_reads 70 = .ok (.goto (-36), 3) := dX12_reads_56g.2.2.2.2.2.2.1
theorem dX12_reads_73 : decode cX12_reads 73 = .ok (.aload_n 0, 1) := dX12_reads_56g.2.2.2.2.2.2.2.1
theorem dX12_reads_74 : decode cX12_reads 74 = .ok (.invokevirtual 162, 3) := dX12_reads_56g.2.2.2.2.2.2.2.2.1
theorem dX12_reads_77 : decode cX12_reads 77 = .ok (.ifCond .eq 18, 3) := dX12_reads_56g.2.2.2.2.2.2.2.2.2
theorem dX12_reads_80g : (decode cX12_reads 80 = .ok (.aload_n 0, 1)) ∧ (decode cX12_reads 81 = .ok (.getfield 166, 3)) ∧ (decode cX12_reads 84 = .ok (.aload_n 0, 1)) ∧ (decode cX12_reads 85 = .ok (.getfield 145, 3)) ∧ (decode cX12_reads 88 = .ok (.if_icmp .ge 7, 3)) ∧ (decode cX12_reads 91 = .ok (.aload_n 0, 1)) ∧ (decode cX12_reads 92 = .ok (.invokevirtual 172, 3)) ∧ (decode cX12_reads 95 = .ok (.aload_n 0, 1)) ∧ (decode cX12_reads 96 = .ok (.aload_n 0, 1)) ∧ (decode cX12_reads 97 = .ok (.getfield 159, 3)) := by decide +kernel
theorem dX12_reads_80 : decode cX12_reads 80 = .ok (.aload_n 0, 1) := dX12_reads_80g.1
theorem dX12_reads_81 : decode cX12_reads 81 = .ok (.getfield 166, 3) := dX12_reads_80g.2.1
theorem dX12_reads_84 : decode cX12_reads 84 = .ok (.aload_n 0, 1) := dX12_reads_80g.2.2.1
theorem dX12_reads_85 : decode cX12_reads 85 = .ok (.getfield 145, 3) := dX12_reads_80g.2.2.2.1
theorem dX12_reads_88 : decode cX12_reads 88 = .ok (.if_icmp .ge 7, 3) := dX12_reads_80g.2.2.2.2.1
theorem dX12_reads_91 : decode cX12_reads 91 = .ok (.aload_n 0, 1) := dX12_reads_80g.2.2.2.2.2.1
theorem dX12_reads_92 : decode cX12_reads 92 = .ok (.invokevirtual 172, 3) := dX12_reads_80g.2.2.2.2.2.2.1
theorem dX12_reads_95 : decode cX12_reads 95 = .ok (.aload_n 0, 1) := dX12_reads_80g.2.2.2.2.2.2.2.1
theorem dX12_reads_96 : decode cX12_reads 96 = .ok (.aload_n 0, 1) := dX12_reads_80g.2.2.2.2.2.2.2.2.1
theorem dX12_reads_97 : decode cX12_reads 97 = .ok (.getfield 159, 3) := dX12_reads_80g.2.2.2.2.2.2.2.2.2
theorem dX12_reads_100g : (decode cX12_reads 100 = .ok (.putfield 40, 3)) ∧ (decode cX12_reads 103 = .ok (.aload_n 0, 1)) ∧ (decode cX12_reads 104 = .ok (.invokevirtual 162, 3)) ∧ (decode cX12_reads 107 = .ok (.ireturn, 1)) := by decide +kernel
theorem dX12_reads_100 : decode cX12_reads 100 = .ok (.putfield 40, 3) := dX12_reads_100g.1
theorem dX12_reads_103 : decode cX12_reads 103 = .ok (.aload_n 0, 1) := dX12_reads_100g.2.1
theorem dX12_reads_104 : decode cX12_reads 104 = .ok (.invokevirtual 162, 3) := dX12_reads_100g.2.2.1
theorem dX12_reads_107 : decode cX12_reads 107 = .ok (.ireturn, 1) := dX12_reads_100g.2.2.2
set_option maxHeartbeats 4000000 in
set_option maxRecDepth 100000 in
theorem c_X12_reads (l : Launch) (Eo : Nat → Nat) (D : va_G) (G : th_G) (h0 : Nat) (hG0 : G h0 = some (10, 0)) (ff : Nat → Int32) (hkf : kOk (Eo 10) ff) (hU10 : UQ G 10) : Met l yX12_reads (tb (.code yX12_reads cX12_reads 2 (some .boolean))) (rm 58) (va_Pc [.ref h0] (PX Eo D G (fun H => ga Eo D G h0 3 (1, 5123) ff H))) (QXi (eu (eu Eo 15 0) 16 (lwF (lwo (tB Eo) (Eo 15)))) D G (fun r H => ((r : Int32) = 1 ∧ ∃ f : Int, OUTR (tB Eo) (Eo 15) true f ∧ LD Eo D G h0 ff H) ∨ ((r : Int32) = 0 ∧ ∃ f : Int, OUTR (tB Eo) (Eo 15) false f ∧ ga Eo D G h0 3 (1, 5123) ff H))) 0 0 (th_A G) := by
  refine Met.ofW (cc := cX12_reads) (maxL := 2) (ret := (some .boolean)) (by decide) rfl ?_
  intro p e s m args below meth c s₁ B hml hv
  obtain ⟨hav, ⟨hI, hN, hK⟩, hX⟩ := hv
  have hx := B.exec
  have hb := B.bytes
  have hr := B.returns
  have hts := atoms_spec (ws := tb (.code yX12_reads cX12_reads 2 (some .boolean))) B.pre
  have hown : s.vm.findClass RX12 = some m.cls := findClass_of_methodNamed B.named
  have hlocks := B.notSynchronized
  have hS : va_S (th_A G) s.heap s.heap [] := va_S.rf
  have hl := lv_entry ([.ref h0]) (n := 2) (Nat.le_of_ble_eq_true rfl)
  rw [show entryFrame m args 2 = entryFrame m ([.ref h0] : List Value).toArray 2 from by rw [hav], lg_entry_eq]
  generalize (lg_sl ([.ref h0]) ++ List.replicate (2 - (lg_sl ([.ref h0])).length) Slot.unset).toArray = ls at hl ⊢
  obtain ⟨E, hEe⟩ : ∃ x : Nat → Nat, x = eu (eu Eo 15 0) 16 (lwF (lwo (tB Eo) (Eo 15))) := ⟨_, rfl⟩
  have hl : lv_has ls 2 [(0, .ref h0)] := hl
  generalize hR : (headSpec (tb (.code yX12_reads cX12_reads 2 (some .boolean))) (rm 58)).room = R
  have hR := hR.symm
  generalize hQ : MQ below (QXi (eu (eu Eo 15 0) 16 (lwF (lwo (tB Eo) (Eo 15)))) D G (fun r H => ((r : Int32) = 1 ∧ ∃ f : Int, OUTR (tB Eo) (Eo 15) true f ∧ LD Eo D G h0 ff H) ∨ ((r : Int32) = 0 ∧ ∃ f : Int, OUTR (tB Eo) (Eo 15) false f ∧ ga Eo D G h0 3 (1, 5123) ff H))) args s 0 0 (th_A G) = QF
  have hQ := hQ.symm
  obtain ⟨q_3, hf_3, hq_3, hA_3⟩ := hX
  obtain ⟨Em, hEm⟩ : ∃ x : Nat → Nat, x = eu Eo 15 0 := ⟨_, rfl⟩
  have hKm : va_K D vwCl (th_tys Em) s := by rw [hEm, tys_eu (by decide)]; exact hK
  have J_34 : ∀ (nn : Nat) (H : Heap) (locs : List Loc) (ls : Array Slot) (v2334 : Int32) (cd : Nat → Int32) (va : Nat → Int32) (pl : Nat → Int32) (TT : Nat) (XX : Nat × Bool) (p1 : Nat) (b1 : Int32) (L1 : Nat) (nj : Nat), (Int.toNat (((TT : Nat) : Int) - ((p1 : Nat) : Int)) = nn) → lv_has ls 2 [(1, .int v2334), (0, .ref h0)] → ((1 : Int) ≤ v2334.toInt ∧ v2334.toInt ≤ 13) → (TI_ Eo (Eo 15) pl cd va (Eo 15) TT) → ((pl TT).toInt = ((Eo 15 : Nat) : Int)) → (RR cd va TT (0, [], 0, 0) 0 = XX) → (v2334.toInt = (nj : Int)) → (b1.toInt = -1 → nj ≤ 12) → (IV cd va pl TT XX (5, [], nj, L1) p1 b1) → (b1.toInt = -1 → g_so (rC cd TT) TT p1) → (RX Em D G h0 ff cd va pl TT p1 b1 L1 H) → th_I (okM Em) D G [] H → va_S (th_A G) s.heap H locs → W p l e R s m args below meth c H locs 0 0 QF (F0 m 34 ls []) := by
    intro nn
    induction nn using Nat.strongRecOn with
    | ind nn ih_34 =>
      intro H locs ls v2334 cd va pl TT XX p1 b1 L1 nj hm hl k2335 hTI hpe hXX hnj hnq hiv1 hInv hE hI hS
      have hK := hKm
      obtain ⟨⟨hkf, hT, hz0, k2359, ⟨a2336, hf2337, hq2338, hA2339⟩, ⟨a2340, hf2341, hq2342, hA2343⟩, ⟨w2352, hg2353, k2360⟩, ⟨w2354, hg2355, k2361⟩, hg2356⟩, ⟨a2344, hf2345, hq2346, hA2347⟩, ⟨a2348, hf2349, hq2350, hA2351⟩, hPl, ⟨w2357, hg2358, k2362⟩, k2363, k2364⟩ := hE
      refine lv_aload_n hx hb dX12_reads_34 rfl (lv_at hl 1 rfl) ?_
      refine lv_bipush (v := 59) hx hb dX12_reads_35 (by decide) ?_
      refine th_cSs (As := [.int 59]) (rest := [.ref h0]) (n := 1) (d := 0) ⟨hx, hb, hml, hown, hts⟩ (c_X12_sign l H 59) wd_1495 wd_1496 wd_13 wd_1497 (by decide +kernel) ⟨by rw [hR]; exact Nat.le_of_ble_eq_true rfl, by rw [hR]; exact Nat.le_of_ble_eq_true rfl⟩ hN hS rfl hl.1 rfl (Nat.le_of_ble_eq_true rfl) dX12_reads_37 ⟨Nat.zero_le _, Nat.zero_le _⟩ (fun r2365 locs hp hS => ?_)
      obtain rfl : r2365 = 159 := hp.trans (by decide)
      refine mx_i (As := [.int 159]) (rest := []) (n := 1) (d := 1) ⟨hx, hb, hml, hown, hts⟩ (c_X12_takes0 l Em D G h0 hG0 159 ff cd va pl TT p1 L1 b1 (by first | decide | omega)) wd_1587 wd_1589 wp_66 wd_13 wd_1590 (by decide +kernel) ⟨by rw [hR]; exact Nat.le_of_ble_eq_true rfl, by rw [hR]; exact Nat.le_of_ble_eq_true rfl⟩ hI hN hK hS hG0 (⟨⟨hkf, hT, hz0, by omega, ⟨a2336, hf2337, hq2338, hA2339⟩, ⟨a2340, hf2341, hq2342, hA2343⟩, ⟨w2352, hg2353, by first | omega | decide⟩, ⟨w2354, hg2355, by first | omega | decide⟩, hg2356⟩, ⟨a2344, hf2345, hq2346, hA2347⟩, ⟨a2348, hf2349, hq2350, hA2351⟩, hPl, ⟨w2357, hg2358, by first | omega | decide⟩, by omega, by first | omega | (intro; omega)⟩) rfl hl.1 rfl (Nat.le_of_ble_eq_true rfl) dX12_reads_40 ⟨Nat.zero_le _, Nat.zero_le _⟩ (fun r2366 H locs hI hp hS => ?_)
      rcases hp with ⟨rfl, hp⟩ | ⟨rfl, hp⟩
      · skip
        try simp only [rg, not_and, Int.not_le] at hp
        have hp2367 := hp
        obtain ⟨hb2370, hc2368, k2369, hE⟩ := hp2367
        have hp2367 : True := trivial
        rw [show (159 : Int32).toInt = 159 from by decide] at hc2368
        obtain ⟨⟨hkf, hT, hz0, k2394, ⟨a2371, hf2372, hq2373, hA2374⟩, ⟨a2375, hf2376, hq2377, hA2378⟩, ⟨w2387, hg2388, k2395⟩, ⟨w2389, hg2390, k2396⟩, hg2391⟩, ⟨a2379, hf2380, hq2381, hA2382⟩, ⟨a2383, hf2384, hq2385, hA2386⟩, hPl, ⟨w2392, hg2393, k2397⟩, k2398, k2399⟩ := hE
        have hiv2400 : IV cd va pl TT XX (0, [], nj, L1) (p1 + 1) b1 := hiv1.go (fun hb9 => pd_C_se k2369 hc2368)
        try rw [show (159 : Int32).toInt = 159 from by decide] at hp2367
        refine lv_if_eq (tgt := 73) hx hb dX12_reads_43 (by decide) (fun c => absurd c (by decide)) (fun _ => ?_)
        refine lv_iload_n hx hb dX12_reads_46 rfl (lv_at hl 0 rfl) ?_
        refine lv_bipush (v := 12) hx hb dX12_reads_47 (by decide) ?_
        refine lv_icmp_ne (tgt := 56) hx hb dX12_reads_49 (by decide) (fun c2401 => ?_) (fun c2401 => ?_)
        · skip
          have k2402 := iv_ne (X := v2334.toInt) (Y := (12)) rfl (by decide) c2401
          refine lv_aload_n hx hb dX12_reads_56 rfl (lv_at hl 1 rfl) ?_
          refine mr_i (As := []) (rest := []) (n := 0) (d := 0) ⟨hx, hb, hml, hown, hts⟩ (c_X12_fine l Em D G H h0 hG0  ff cd TT (p1 + 1) b1 ⟨hkf, hT, hz0, by omega, ⟨a2371, hf2372, hq2373, hA2374⟩, ⟨a2375, hf2376, hq2377, hA2378⟩, ⟨w2387, hg2388, by first | omega | decide⟩, ⟨w2389, hg2390, by first | omega | decide⟩, hg2391⟩) wd_1591 wd_1593 wp_67 wd_13 wd_1594 (by decide +kernel) ⟨by rw [hR]; exact Nat.le_of_ble_eq_true rfl, by rw [hR]; exact Nat.le_of_ble_eq_true rfl⟩ hI hN hK hS hG0 rfl hl.1 rfl (Nat.le_of_ble_eq_true rfl) dX12_reads_57 ⟨Nat.zero_le _, Nat.zero_le _⟩ (fun r2403 locs hp hS => ?_)
          rcases hp with ⟨rfl, hp⟩ | ⟨rfl, hp⟩
          · skip
            try simp only [rg, not_and, Int.not_le] at hp
            have hp2404 := hp
            refine lv_if_eq (tgt := 67) hx hb dX12_reads_60 (by decide) (fun c => absurd c (by decide)) (fun _ => ?_)
            refine lv_aload_n hx hb dX12_reads_63 rfl (lv_at hl 1 rfl) ?_
            refine mx_v (As := []) (rest := []) (n := 0) (d := 57) ⟨hx, hb, hml, hown, hts⟩ (c_X12_readClause l Em D G h0 hG0  ff cd va pl TT (p1 + 1) L1 b1 nj XX (by omega) hiv2400) wd_1583 wd_1585 wp_65 wd_13 wd_1586 (by decide +kernel) ⟨by rw [hR]; exact Nat.le_of_ble_eq_true rfl, by rw [hR]; exact Nat.le_of_ble_eq_true rfl⟩ hI hN hK hS hG0 (⟨⟨hkf, hT, hz0, by omega, ⟨a2371, hf2372, hq2373, hA2374⟩, ⟨a2375, hf2376, hq2377, hA2378⟩, ⟨w2387, hg2388, by first | omega | decide⟩, ⟨w2389, hg2390, by first | omega | decide⟩, hg2391⟩, ⟨a2379, hf2380, hq2381, hA2382⟩, ⟨a2383, hf2384, hq2385, hA2386⟩, hPl, ⟨w2392, hg2393, by first | omega | decide⟩, by omega, by first | omega | (intro; omega)⟩) rfl hl.1 rfl (Nat.le_of_ble_eq_true rfl) dX12_reads_64 ⟨Nat.zero_le _, Nat.zero_le _⟩ (fun H locs hI hp hS => ?_)
            obtain ⟨pn2406, bn2407, Ln2408, hE, k2411, hi2409, hiv2410⟩ := hp
            obtain ⟨⟨hkf, hT, hz0, k2435, ⟨a2412, hf2413, hq2414, hA2415⟩, ⟨a2416, hf2417, hq2418, hA2419⟩, ⟨w2428, hg2429, k2436⟩, ⟨w2430, hg2431, k2437⟩, hg2432⟩, ⟨a2420, hf2421, hq2422, hA2423⟩, ⟨a2424, hf2425, hq2426, hA2427⟩, hPl, ⟨w2433, hg2434, k2438⟩, k2439, k2440⟩ := hE
            have hInv2 : bn2407.toInt = -1 → g_so (rC cd TT) TT pn2406 := fun h => so_m (hInv hb2370) hc2368 (hi2409 h).2
            obtain ⟨v2441, e2442⟩ : ∃ y : Int32, y = v2334 + (1) := ⟨_, rfl⟩
            have tv2441 : v2441.toInt = v2334.toInt + (1) := iv_add rfl (by decide) e2442 (by omega) (by omega)
            refine lv_iinc (v := v2441) (lv' := [(1, .int v2441), (0, .ref h0)]) hx hb dX12_reads_67 hl (k := 0) rfl (by rw [e2442]; rfl) (by decide) rfl (fun ls hl => ?_)
            refine lv_goto (tgt := 34) hx hb dX12_reads_70 (by decide) ?_
            exact ih_34 _ (by omega) H locs ls v2441 cd va pl TT XX pn2406 bn2407 Ln2408 (nj + 1) rfl (lv_sub hl [0, 1] rfl) ⟨by omega, by omega⟩ (hTI) (hpe) (hXX) (by first | omega | decide) (by first | decide | (intro hq9; omega)) (hiv2410) (hInv2) (⟨⟨hkf, hT, hz0, by omega, ⟨a2412, hf2413, hq2414, hA2415⟩, ⟨a2416, hf2417, hq2418, hA2419⟩, ⟨w2428, hg2429, by first | omega | decide⟩, ⟨w2430, hg2431, by first | omega | decide⟩, hg2432⟩, ⟨a2420, hf2421, hq2422, hA2423⟩, ⟨a2424, hf2425, hq2426, hA2427⟩, hPl, ⟨w2433, hg2434, by first | omega | decide⟩, by omega, by first | omega | (intro; omega)⟩) hI hS
          · skip
            try simp only [rg, not_and, Int.not_le] at hp
            have hp2443 := hp
            exfalso; omega
        · skip
          have k2444 := iv_eq (X := v2334.toInt) (Y := (12)) rfl (by decide) c2401
          refine lv_aload_n hx hb dX12_reads_52 rfl (lv_at hl 1 rfl) ?_
          refine mx_v (As := []) (rest := []) (n := 0) (d := 1) ⟨hx, hb, hml, hown, hts⟩ (c_X12_faults l Em D G h0 hG0  ff cd va pl TT (p1 + 1) L1 b1) wd_1607 wd_1609 wp_71 wd_13 wd_1610 (by decide +kernel) ⟨by rw [hR]; exact Nat.le_of_ble_eq_true rfl, by rw [hR]; exact Nat.le_of_ble_eq_true rfl⟩ hI hN hK hS hG0 (⟨⟨hkf, hT, hz0, by omega, ⟨a2371, hf2372, hq2373, hA2374⟩, ⟨a2375, hf2376, hq2377, hA2378⟩, ⟨w2387, hg2388, by first | omega | decide⟩, ⟨w2389, hg2390, by first | omega | decide⟩, hg2391⟩, ⟨a2379, hf2380, hq2381, hA2382⟩, ⟨a2383, hf2384, hq2385, hA2386⟩, hPl, ⟨w2392, hg2393, by first | omega | decide⟩, by omega, by first | omega | (intro; omega)⟩) rfl hl.1 rfl (Nat.le_of_ble_eq_true rfl) dX12_reads_53 ⟨Nat.zero_le _, Nat.zero_le _⟩ (fun H locs hI hp hS => ?_)
          obtain ⟨bn2446, hb2447, hd2448, hE⟩ := hp
          obtain ⟨⟨hkf, hT, hz0, k2472, ⟨a2449, hf2450, hq2451, hA2452⟩, ⟨a2453, hf2454, hq2455, hA2456⟩, ⟨w2465, hg2466, k2473⟩, ⟨w2467, hg2468, k2474⟩, hg2469⟩, ⟨a2457, hf2458, hq2459, hA2460⟩, ⟨a2461, hf2462, hq2463, hA2464⟩, hPl, ⟨w2470, hg2471, k2475⟩, k2476, k2477⟩ := hE
          have hiv2478 : IV cd va pl TT XX (5, [], (nj + 1), L1) (p1 + 1) bn2446 := IV.flt hiv2400 (fun _ => pd_H_no (fun _ h => by omega)) hb2447 hd2448
          refine lv_aload_n hx hb dX12_reads_56 rfl (lv_at hl 1 rfl) ?_
          refine mr_i (As := []) (rest := []) (n := 0) (d := 0) ⟨hx, hb, hml, hown, hts⟩ (c_X12_fine l Em D G H h0 hG0  ff cd TT (p1 + 1) bn2446 ⟨hkf, hT, hz0, by omega, ⟨a2449, hf2450, hq2451, hA2452⟩, ⟨a2453, hf2454, hq2455, hA2456⟩, ⟨w2465, hg2466, by first | omega | decide⟩, ⟨w2467, hg2468, by first | omega | decide⟩, hg2469⟩) wd_1591 wd_1593 wp_67 wd_13 wd_1594 (by decide +kernel) ⟨by rw [hR]; exact Nat.le_of_ble_eq_true rfl, by rw [hR]; exact Nat.le_of_ble_eq_true rfl⟩ hI hN hK hS hG0 rfl hl.1 rfl (Nat.le_of_ble_eq_true rfl) dX12_reads_57 ⟨Nat.zero_le _, Nat.zero_le _⟩ (fun r2479 locs hp hS => ?_)
          rcases hp with ⟨rfl, hp⟩ | ⟨rfl, hp⟩
          · skip
            try simp only [rg, not_and, Int.not_le] at hp
            have hp2480 := hp
            exfalso; omega
          · skip
            try simp only [rg, not_and, Int.not_le] at hp
            have hp2481 := hp
            refine lv_if_eq (tgt := 67) hx hb dX12_reads_60 (by decide) (fun _ => ?_) (fun c => absurd c (by decide))
            obtain ⟨v2482, e2483⟩ : ∃ y : Int32, y = v2334 + (1) := ⟨_, rfl⟩
            have tv2482 : v2482.toInt = v2334.toInt + (1) := iv_add rfl (by decide) e2483 (by omega) (by omega)
            refine lv_iinc (v := v2482) (lv' := [(1, .int v2482), (0, .ref h0)]) hx hb dX12_reads_67 hl (k := 0) rfl (by rw [e2483]; rfl) (by decide) rfl (fun ls hl => ?_)
            refine lv_goto (tgt := 34) hx hb dX12_reads_70 (by decide) ?_
            exact ih_34 _ (by omega) H locs ls v2482 cd va pl TT XX (p1 + 1) bn2446 L1 (nj + 1) rfl (lv_sub hl [0, 1] rfl) ⟨by omega, by omega⟩ (hTI) (hpe) (hXX) (by first | omega | decide) (by first | decide | (intro hq9; omega)) (hiv2478) (fun h => absurd h (by omega)) (⟨⟨hkf, hT, hz0, by omega, ⟨a2449, hf2450, hq2451, hA2452⟩, ⟨a2453, hf2454, hq2455, hA2456⟩, ⟨w2465, hg2466, by first | omega | decide⟩, ⟨w2467, hg2468, by first | omega | decide⟩, hg2469⟩, ⟨a2457, hf2458, hq2459, hA2460⟩, ⟨a2461, hf2462, hq2463, hA2464⟩, hPl, ⟨w2470, hg2471, by first | omega | decide⟩, by omega, by first | omega | (intro; omega)⟩) hI hS
      · skip
        try simp only [rg, not_and, Int.not_le] at hp
        have hp2484 := hp
        obtain ⟨hc2485, hE⟩ := hp2484
        have hp2484 : True := trivial
        rw [show (159 : Int32).toInt = 159 from by decide] at hc2485
        obtain ⟨⟨hkf, hT, hz0, k2510, ⟨a2487, hf2488, hq2489, hA2490⟩, ⟨a2491, hf2492, hq2493, hA2494⟩, ⟨w2503, hg2504, k2511⟩, ⟨w2505, hg2506, k2512⟩, hg2507⟩, ⟨a2495, hf2496, hq2497, hA2498⟩, ⟨a2499, hf2500, hq2501, hA2502⟩, hPl, ⟨w2508, hg2509, k2513⟩, k2514, k2515⟩ := hE
        try rw [show (159 : Int32).toInt = 159 from by decide] at hp2484
        refine lv_if_eq (tgt := 73) hx hb dX12_reads_43 (by decide) (fun _ => ?_) (fun c => absurd c (by decide))
        refine lv_aload_n hx hb dX12_reads_73 rfl (lv_at hl 1 rfl) ?_
        refine mr_i (As := []) (rest := []) (n := 0) (d := 0) ⟨hx, hb, hml, hown, hts⟩ (c_X12_fine l Em D G H h0 hG0  ff cd TT p1 b1 ⟨hkf, hT, hz0, by omega, ⟨a2487, hf2488, hq2489, hA2490⟩, ⟨a2491, hf2492, hq2493, hA2494⟩, ⟨w2503, hg2504, by first | omega | decide⟩, ⟨w2505, hg2506, by first | omega | decide⟩, hg2507⟩) wd_1591 wd_1593 wp_67 wd_13 wd_1594 (by decide +kernel) ⟨by rw [hR]; exact Nat.le_of_ble_eq_true rfl, by rw [hR]; exact Nat.le_of_ble_eq_true rfl⟩ hI hN hK hS hG0 rfl hl.1 rfl (Nat.le_of_ble_eq_true rfl) dX12_reads_74 ⟨Nat.zero_le _, Nat.zero_le _⟩ (fun r2516 locs hp hS => ?_)
        rcases hp with ⟨rfl, hp⟩ | ⟨rfl, hp⟩
        · skip
          try simp only [rg, not_and, Int.not_le] at hp
          have hp2517 := hp
          refine lv_if_eq (tgt := 95) hx hb dX12_reads_77 (by decide) (fun c => absurd c (by decide)) (fun _ => ?_)
          refine lv_aload_n hx hb dX12_reads_80 rfl (lv_at hl 1 rfl) ?_
          refine gmI hx hb hts inT12 hown hK hI List.not_mem_nil hG0 16 (by decide) (hts _ (tb_c wd_1249)) rfl rfl dX12_reads_81 (fun w2518 hg2519 k2520 k2521 => ?_)
          obtain rfl := gf.uniq (by decide) hg2506 hg2519
          refine lv_aload_n hx hb dX12_reads_84 rfl (lv_at hl 1 rfl) ?_
          refine gmI hx hb hts inT12 hown hK hI List.not_mem_nil hG0 15 (by decide) (hts _ (tb_c wd_1248)) rfl rfl dX12_reads_85 (fun w2522 hg2523 k2524 k2525 => ?_)
          obtain rfl := gf.uniq (by decide) hg2504 hg2523
          refine lv_icmp_ge (tgt := 95) hx hb dX12_reads_88 (by decide) (fun c2526 => ?_) (fun c2526 => ?_)
          · skip
            have k2527 := iv_le (X := w2503.toInt) (Y := w2505.toInt) rfl rfl c2526
            have hR9 := RR_cd hXX
            have hX9 : XX = (p1, true) := (IV.yes hiv1 (by omega)).symm.trans (pd_C_end (by omega))
            have hO9 : OUTR (tB Eo) (Eo 15) true (pl p1).toInt := ⟨TT, p1, _, _, _, hTI, hpe, by omega, hR9.trans hX9, rfl⟩
            refine lv_aload_n hx hb dX12_reads_95 rfl (lv_at hl 1 rfl) ?_
            refine lv_aload_n hx hb dX12_reads_96 rfl (lv_at hl 1 rfl) ?_
            refine gmI hx hb hts inT12 hown hK hI List.not_mem_nil hG0 18 (by decide) (hts _ (tb_c wd_1251)) rfl rfl dX12_reads_97 (fun w2528 hg2529 k2530 k2531 => ?_)
            obtain rfl := gf.uniq (by decide) hg2507 hg2529
            have k2532 := iv_lo b1
            have k2533 := iv_hi b1
            refine pmE (E' := eu Em 16 (((b1 : Int32).toInt + 1).toNat)) (ty := .int) hx hb hts inT12 hown hK hI List.not_mem_nil hG0 hS ⟨_, hG0⟩ 11 (by decide) (hts _ (tb_c wd_1244)) rfl rfl hU10 (okM_g15 (by decide)) (fun fs a b => c10_16 a b (by omega)) (by decide +kernel) rfl rfl rfl (by omega) (by omega) dX12_reads_100 (fun H locs hI hgP hS => ?_)
            have hg2504 := hgP.2.2.1 15 _ (by decide) (by decide) hg2504
            have hg2506 := hgP.2.2.1 16 _ (by decide) (by decide) hg2506
            have hg2507 := hgP.2.2.1 18 _ (by decide) (by decide) hg2507
            have hg2509 := hgP.2.2.1 17 _ (by decide) (by decide) hg2509
            have hg2534 := hgP.2.1
            have hf2488 := hgP.2.2.2 3 _ (by decide) (by decide) hf2488
            have hf2492 := hgP.2.2.2 12 _ (by decide) (by decide) hf2492
            have hf2496 := hgP.2.2.2 13 _ (by decide) (by decide) hf2496
            have hf2500 := hgP.2.2.2 14 _ (by decide) (by decide) hf2500
            have hA2490 := va_at.kept hA2490 (hgP.1 _ (m_ne hq2489 hG0 (by first | decide | (dsimp only; decide))))
            have hA2494 := va_at.kept hA2494 (hgP.1 _ (m_ne hq2493 hG0 (by first | decide | (dsimp only; decide))))
            have hA2498 := va_at.kept hA2498 (hgP.1 _ (m_ne hq2497 hG0 (by first | decide | (dsimp only; decide))))
            have hA2502 := va_at.kept hA2502 (hgP.1 _ (m_ne hq2501 hG0 (by first | decide | (dsimp only; decide))))
            have hEq : eu Em 16 (((b1 : Int32).toInt + 1).toNat) = E := by rw [hEe, hEm, lwo_eq hO9]; exact congrArg (fun z => eu (eu Eo 15 0) 16 z) (show _ = (0 : Nat) from by omega)
            have hI : th_I (okM E) D G [] H := by rw [← hEq]; exact hI
            have hK : va_K D vwCl (th_tys E) s := by rw [← hEq, tys_eu (by decide)]; exact hK
            have hA2490 : va_at D vwCl (a2487, .inl (E 0, 5123, .inl ff)) H := by rw [show E 0 = Em 0 from (by rw [← hEq]; exact eu_ne (by decide))]; exact hA2490
            have hkf : kOk (E 10) ff := by rw [show E 10 = Em 10 from (by rw [← hEq]; exact eu_ne (by decide))]; exact hkf
            have hA2494 : va_at D vwCl (a2491, .inl (E 0, 401, .inl cd)) H := by rw [show E 0 = Em 0 from (by rw [← hEq]; exact eu_ne (by decide))]; exact hA2494
            have hA2498 : va_at D vwCl (a2495, .inl (E 0, 401, .inl va)) H := by rw [show E 0 = Em 0 from (by rw [← hEq]; exact eu_ne (by decide))]; exact hA2498
            have hA2502 : va_at D vwCl (a2499, .inl (E 0, 401, .inl pl)) H := by rw [show E 0 = Em 0 from (by rw [← hEq]; exact eu_ne (by decide))]; exact hA2502
            refine lv_aload_n hx hb dX12_reads_103 rfl (lv_at hl 1 rfl) ?_
            refine mr_i (As := []) (rest := []) (n := 0) (d := 0) ⟨hx, hb, hml, hown, hts⟩ (c_X12_fine l E D G H h0 hG0  ff cd TT p1 b1 ⟨hkf, hT, hz0, by omega, ⟨a2487, hf2488, hq2489, hA2490⟩, ⟨a2491, hf2492, hq2493, hA2494⟩, ⟨w2503, hg2504, by first | omega | decide⟩, ⟨w2505, hg2506, by first | omega | decide⟩, hg2507⟩) wd_1591 wd_1593 wp_67 wd_13 wd_1594 (by decide +kernel) ⟨by rw [hR]; exact Nat.le_of_ble_eq_true rfl, by rw [hR]; exact Nat.le_of_ble_eq_true rfl⟩ hI hN hK hS hG0 rfl hl.1 rfl (Nat.le_of_ble_eq_true rfl) dX12_reads_104 ⟨Nat.zero_le _, Nat.zero_le _⟩ (fun r2535 locs hp hS => ?_)
            rcases hp with ⟨rfl, hp⟩ | ⟨rfl, hp⟩
            · skip
              try simp only [rg, not_and, Int.not_le] at hp
              have hp2536 := hp
              have hpost : ((1 : Int32) = 1 ∧ ∃ f : Int, OUTR (tB Eo) (Eo 15) true f ∧ LD Eo D G h0 ff H) ∨ ((1 : Int32) = 0 ∧ ∃ f : Int, OUTR (tB Eo) (Eo 15) false f ∧ ga Eo D G h0 3 (1, 5123) ff H) := Or.inl ⟨rfl, _, hO9, LD_E (by rw [hEe, eu_ne (by decide), eu_ne (by decide)]) ⟨cd, TT, hT, ⟨a2487, hf2488, hq2489, hA2490⟩, ⟨a2491, hf2492, hq2493, hA2494⟩, ⟨w2503, hg2504, by omega⟩, so_x (hInv (by omega)) (by omega)⟩⟩
              subst hEe
              rw [hQ]
              exact W.zret (v := 1) hx hb hr (by decide) (fun t ht hW => ⟨⟨1, 1, rfl, rfl, ⟨by rw [ht]; exact hI, hN.warm hW, va_K.moved hW.alike hK⟩, by first | (rw [ht]; exact hpost) | exact hpost⟩, hS.F ht⟩) hS.2.2 dX12_reads_107
            · skip
              try simp only [rg, not_and, Int.not_le] at hp
              have hp2537 := hp
              exfalso; omega
          · skip
            have k2538 := iv_nle (X := w2503.toInt) (Y := w2505.toInt) rfl rfl c2526
            refine lv_aload_n hx hb dX12_reads_91 rfl (lv_at hl 1 rfl) ?_
            refine mx_v (As := []) (rest := []) (n := 0) (d := 1) ⟨hx, hb, hml, hown, hts⟩ (c_X12_faults l Em D G h0 hG0  ff cd va pl TT p1 L1 b1) wd_1607 wd_1609 wp_71 wd_13 wd_1610 (by decide +kernel) ⟨by rw [hR]; exact Nat.le_of_ble_eq_true rfl, by rw [hR]; exact Nat.le_of_ble_eq_true rfl⟩ hI hN hK hS hG0 (⟨⟨hkf, hT, hz0, by omega, ⟨a2487, hf2488, hq2489, hA2490⟩, ⟨a2491, hf2492, hq2493, hA2494⟩, ⟨w2503, hg2504, by first | omega | decide⟩, ⟨w2505, hg2506, by first | omega | decide⟩, hg2507⟩, ⟨a2495, hf2496, hq2497, hA2498⟩, ⟨a2499, hf2500, hq2501, hA2502⟩, hPl, ⟨w2508, hg2509, by first | omega | decide⟩, by omega, by first | omega | (intro; omega)⟩) rfl hl.1 rfl (Nat.le_of_ble_eq_true rfl) dX12_reads_92 ⟨Nat.zero_le _, Nat.zero_le _⟩ (fun H locs hI hp hS => ?_)
            obtain ⟨bn2540, hb2541, hd2542, hE⟩ := hp
            obtain ⟨⟨hkf, hT, hz0, k2566, ⟨a2543, hf2544, hq2545, hA2546⟩, ⟨a2547, hf2548, hq2549, hA2550⟩, ⟨w2559, hg2560, k2567⟩, ⟨w2561, hg2562, k2568⟩, hg2563⟩, ⟨a2551, hf2552, hq2553, hA2554⟩, ⟨a2555, hf2556, hq2557, hA2558⟩, hPl, ⟨w2564, hg2565, k2569⟩, k2570, k2571⟩ := hE
            have hiv2572 : IV cd va pl TT XX (5, [], nj, L1) p1 bn2540 := hiv1.flt (fun _ => pd_C_no (by omega) (by omega)) hb2541 hd2542
            have hR9 := RR_cd hXX
            obtain ⟨hx9, hb9⟩ := IV.no hiv2572 (by omega)
            have hq9 : XX.1 ≤ TT := by rw [← hXX]; exact pd_R_le (Nat.zero_le _)
            have hp9 := hPl XX.1 (by omega)
            have hO9 : OUTR (tB Eo) (Eo 15) false (bn2540).toInt := ⟨TT, XX.1, _, _, _, hTI, hpe, hq9, hR9.trans (Prod.ext rfl hx9), hb9⟩
            refine lv_aload_n hx hb dX12_reads_95 rfl (lv_at hl 1 rfl) ?_
            refine lv_aload_n hx hb dX12_reads_96 rfl (lv_at hl 1 rfl) ?_
            refine gmI hx hb hts inT12 hown hK hI List.not_mem_nil hG0 18 (by decide) (hts _ (tb_c wd_1251)) rfl rfl dX12_reads_97 (fun w2573 hg2574 k2575 k2576 => ?_)
            obtain rfl := gf.uniq (by decide) hg2563 hg2574
            have k2577 := iv_lo bn2540
            have k2578 := iv_hi bn2540
            refine pmE (E' := eu Em 16 (((bn2540 : Int32).toInt + 1).toNat)) (ty := .int) hx hb hts inT12 hown hK hI List.not_mem_nil hG0 hS ⟨_, hG0⟩ 11 (by decide) (hts _ (tb_c wd_1244)) rfl rfl hU10 (okM_g15 (by decide)) (fun fs a b => c10_16 a b (by omega)) (by decide +kernel) rfl rfl rfl (by omega) (by omega) dX12_reads_100 (fun H locs hI hgP hS => ?_)
            have hg2560 := hgP.2.2.1 15 _ (by decide) (by decide) hg2560
            have hg2562 := hgP.2.2.1 16 _ (by decide) (by decide) hg2562
            have hg2563 := hgP.2.2.1 18 _ (by decide) (by decide) hg2563
            have hg2565 := hgP.2.2.1 17 _ (by decide) (by decide) hg2565
            have hg2579 := hgP.2.1
            have hf2544 := hgP.2.2.2 3 _ (by decide) (by decide) hf2544
            have hf2548 := hgP.2.2.2 12 _ (by decide) (by decide) hf2548
            have hf2552 := hgP.2.2.2 13 _ (by decide) (by decide) hf2552
            have hf2556 := hgP.2.2.2 14 _ (by decide) (by decide) hf2556
            have hA2546 := va_at.kept hA2546 (hgP.1 _ (m_ne hq2545 hG0 (by first | decide | (dsimp only; decide))))
            have hA2550 := va_at.kept hA2550 (hgP.1 _ (m_ne hq2549 hG0 (by first | decide | (dsimp only; decide))))
            have hA2554 := va_at.kept hA2554 (hgP.1 _ (m_ne hq2553 hG0 (by first | decide | (dsimp only; decide))))
            have hA2558 := va_at.kept hA2558 (hgP.1 _ (m_ne hq2557 hG0 (by first | decide | (dsimp only; decide))))
            have hEq : eu Em 16 (((bn2540 : Int32).toInt + 1).toNat) = E := by rw [hEe, hEm, lwo_eq hO9]; exact congrArg (fun z => eu (eu Eo 15 0) 16 z) (rfl)
            have hI : th_I (okM E) D G [] H := by rw [← hEq]; exact hI
            have hK : va_K D vwCl (th_tys E) s := by rw [← hEq, tys_eu (by decide)]; exact hK
            have hA2546 : va_at D vwCl (a2543, .inl (E 0, 5123, .inl ff)) H := by rw [show E 0 = Em 0 from (by rw [← hEq]; exact eu_ne (by decide))]; exact hA2546
            have hkf : kOk (E 10) ff := by rw [show E 10 = Em 10 from (by rw [← hEq]; exact eu_ne (by decide))]; exact hkf
            have hA2550 : va_at D vwCl (a2547, .inl (E 0, 401, .inl cd)) H := by rw [show E 0 = Em 0 from (by rw [← hEq]; exact eu_ne (by decide))]; exact hA2550
            have hA2554 : va_at D vwCl (a2551, .inl (E 0, 401, .inl va)) H := by rw [show E 0 = Em 0 from (by rw [← hEq]; exact eu_ne (by decide))]; exact hA2554
            have hA2558 : va_at D vwCl (a2555, .inl (E 0, 401, .inl pl)) H := by rw [show E 0 = Em 0 from (by rw [← hEq]; exact eu_ne (by decide))]; exact hA2558
            refine lv_aload_n hx hb dX12_reads_103 rfl (lv_at hl 1 rfl) ?_
            refine mr_i (As := []) (rest := []) (n := 0) (d := 0) ⟨hx, hb, hml, hown, hts⟩ (c_X12_fine l E D G H h0 hG0  ff cd TT p1 bn2540 ⟨hkf, hT, hz0, by omega, ⟨a2543, hf2544, hq2545, hA2546⟩, ⟨a2547, hf2548, hq2549, hA2550⟩, ⟨w2559, hg2560, by first | omega | decide⟩, ⟨w2561, hg2562, by first | omega | decide⟩, hg2563⟩) wd_1591 wd_1593 wp_67 wd_13 wd_1594 (by decide +kernel) ⟨by rw [hR]; exact Nat.le_of_ble_eq_true rfl, by rw [hR]; exact Nat.le_of_ble_eq_true rfl⟩ hI hN hK hS hG0 rfl hl.1 rfl (Nat.le_of_ble_eq_true rfl) dX12_reads_104 ⟨Nat.zero_le _, Nat.zero_le _⟩ (fun r2580 locs hp hS => ?_)
            rcases hp with ⟨rfl, hp⟩ | ⟨rfl, hp⟩
            · skip
              try simp only [rg, not_and, Int.not_le] at hp
              have hp2581 := hp
              exfalso; omega
            · skip
              try simp only [rg, not_and, Int.not_le] at hp
              have hp2582 := hp
              have hpost : ((0 : Int32) = 1 ∧ ∃ f : Int, OUTR (tB Eo) (Eo 15) true f ∧ LD Eo D G h0 ff H) ∨ ((0 : Int32) = 0 ∧ ∃ f : Int, OUTR (tB Eo) (Eo 15) false f ∧ ga Eo D G h0 3 (1, 5123) ff H) := Or.inr ⟨rfl, _, hO9, ga_E (by rw [hEe, eu_ne (by decide), eu_ne (by decide)]) ⟨a2543, hf2544, hq2545, hA2546⟩⟩
              subst hEe
              rw [hQ]
              exact W.zret (v := 0) hx hb hr (by decide) (fun t ht hW => ⟨⟨0, 0, rfl, rfl, ⟨by rw [ht]; exact hI, hN.warm hW, va_K.moved hW.alike hK⟩, by first | (rw [ht]; exact hpost) | exact hpost⟩, hS.F ht⟩) hS.2.2 dX12_reads_107
        · skip
          try simp only [rg, not_and, Int.not_le] at hp
          have hp2583 := hp
          refine lv_if_eq (tgt := 95) hx hb dX12_reads_77 (by decide) (fun _ => ?_) (fun c => absurd c (by decide))
          have hR9 := RR_cd hXX
          obtain ⟨hx9, hb9⟩ := IV.no hiv1 (by omega)
          have hq9 : XX.1 ≤ TT := by rw [← hXX]; exact pd_R_le (Nat.zero_le _)
          have hp9 := hPl XX.1 (by omega)
          have hO9 : OUTR (tB Eo) (Eo 15) false (b1).toInt := ⟨TT, XX.1, _, _, _, hTI, hpe, hq9, hR9.trans (Prod.ext rfl hx9), hb9⟩
          refine lv_aload_n hx hb dX12_reads_95 rfl (lv_at hl 1 rfl) ?_
          refine lv_aload_n hx hb dX12_reads_96 rfl (lv_at hl 1 rfl) ?_
          refine gmI hx hb hts inT12 hown hK hI List.not_mem_nil hG0 18 (by decide) (hts _ (tb_c wd_1251)) rfl rfl dX12_reads_97 (fun w2584 hg2585 k2586 k2587 => ?_)
          obtain rfl := gf.uniq (by decide) hg2507 hg2585
          have k2588 := iv_lo b1
          have k2589 := iv_hi b1
          refine pmE (E' := eu Em 16 (((b1 : Int32).toInt + 1).toNat)) (ty := .int) hx hb hts inT12 hown hK hI List.not_mem_nil hG0 hS ⟨_, hG0⟩ 11 (by decide) (hts _ (tb_c wd_1244)) rfl rfl hU10 (okM_g15 (by decide)) (fun fs a b => c10_16 a b (by omega)) (by decide +kernel) rfl rfl rfl (by omega) (by omega) dX12_reads_100 (fun H locs hI hgP hS => ?_)
          have hg2504 := hgP.2.2.1 15 _ (by decide) (by decide) hg2504
          have hg2506 := hgP.2.2.1 16 _ (by decide) (by decide) hg2506
          have hg2507 := hgP.2.2.1 18 _ (by decide) (by decide) hg2507
          have hg2509 := hgP.2.2.1 17 _ (by decide) (by decide) hg2509
          have hg2590 := hgP.2.1
          have hf2488 := hgP.2.2.2 3 _ (by decide) (by decide) hf2488
          have hf2492 := hgP.2.2.2 12 _ (by decide) (by decide) hf2492
          have hf2496 := hgP.2.2.2 13 _ (by decide) (by decide) hf2496
          have hf2500 := hgP.2.2.2 14 _ (by decide) (by decide) hf2500
          have hA2490 := va_at.kept hA2490 (hgP.1 _ (m_ne hq2489 hG0 (by first | decide | (dsimp only; decide))))
          have hA2494 := va_at.kept hA2494 (hgP.1 _ (m_ne hq2493 hG0 (by first | decide | (dsimp only; decide))))
          have hA2498 := va_at.kept hA2498 (hgP.1 _ (m_ne hq2497 hG0 (by first | decide | (dsimp only; decide))))
          have hA2502 := va_at.kept hA2502 (hgP.1 _ (m_ne hq2501 hG0 (by first | decide | (dsimp only; decide))))
          have hEq : eu Em 16 (((b1 : Int32).toInt + 1).toNat) = E := by rw [hEe, hEm, lwo_eq hO9]; exact congrArg (fun z => eu (eu Eo 15 0) 16 z) (rfl)
          have hI : th_I (okM E) D G [] H := by rw [← hEq]; exact hI
          have hK : va_K D vwCl (th_tys E) s := by rw [← hEq, tys_eu (by decide)]; exact hK
          have hA2490 : va_at D vwCl (a2487, .inl (E 0, 5123, .inl ff)) H := by rw [show E 0 = Em 0 from (by rw [← hEq]; exact eu_ne (by decide))]; exact hA2490
          have hkf : kOk (E 10) ff := by rw [show E 10 = Em 10 from (by rw [← hEq]; exact eu_ne (by decide))]; exact hkf
          have hA2494 : va_at D vwCl (a2491, .inl (E 0, 401, .inl cd)) H := by rw [show E 0 = Em 0 from (by rw [← hEq]; exact eu_ne (by decide))]; exact hA2494
          have hA2498 : va_at D vwCl (a2495, .inl (E 0, 401, .inl va)) H := by rw [show E 0 = Em 0 from (by rw [← hEq]; exact eu_ne (by decide))]; exact hA2498
          have hA2502 : va_at D vwCl (a2499, .inl (E 0, 401, .inl pl)) H := by rw [show E 0 = Em 0 from (by rw [← hEq]; exact eu_ne (by decide))]; exact hA2502
          refine lv_aload_n hx hb dX12_reads_103 rfl (lv_at hl 1 rfl) ?_
          refine mr_i (As := []) (rest := []) (n := 0) (d := 0) ⟨hx, hb, hml, hown, hts⟩ (c_X12_fine l E D G H h0 hG0  ff cd TT p1 b1 ⟨hkf, hT, hz0, by omega, ⟨a2487, hf2488, hq2489, hA2490⟩, ⟨a2491, hf2492, hq2493, hA2494⟩, ⟨w2503, hg2504, by first | omega | decide⟩, ⟨w2505, hg2506, by first | omega | decide⟩, hg2507⟩) wd_1591 wd_1593 wp_67 wd_13 wd_1594 (by decide +kernel) ⟨by rw [hR]; exact Nat.le_of_ble_eq_true rfl, by rw [hR]; exact Nat.le_of_ble_eq_true rfl⟩ hI hN hK hS hG0 rfl hl.1 rfl (Nat.le_of_ble_eq_true rfl) dX12_reads_104 ⟨Nat.zero_le _, Nat.zero_le _⟩ (fun r2591 locs hp hS => ?_)
          rcases hp with ⟨rfl, hp⟩ | ⟨rfl, hp⟩
          · skip
            try simp only [rg, not_and, Int.not_le] at hp
            have hp2592 := hp
            exfalso; omega
          · skip
            try simp only [rg, not_and, Int.not_le] at hp
            have hp2593 := hp
            have hpost : ((0 : Int32) = 1 ∧ ∃ f : Int, OUTR (tB Eo) (Eo 15) true f ∧ LD Eo D G h0 ff H) ∨ ((0 : Int32) = 0 ∧ ∃ f : Int, OUTR (tB Eo) (Eo 15) false f ∧ ga Eo D G h0 3 (1, 5123) ff H) := Or.inr ⟨rfl, _, hO9, ga_E (by rw [hEe, eu_ne (by decide), eu_ne (by decide)]) ⟨a2487, hf2488, hq2489, hA2490⟩⟩
            subst hEe
            rw [hQ]
            exact W.zret (v := 0) hx hb hr (by decide) (fun t ht hW => ⟨⟨0, 0, rfl, rfl, ⟨by rw [ht]; exact hI, hN.warm hW, va_K.moved hW.alike hK⟩, by first | (rw [ht]; exact hpost) | exact hpost⟩, hS.F ht⟩) hS.2.2 dX12_reads_107
  refine lv_aload_n hx hb dX12_reads_0 rfl (lv_at hl 0 rfl) ?_
  refine lv_aload_n hx hb dX12_reads_1 rfl (lv_at hl 0 rfl) ?_
  refine gmI hx hb hts inT12 hown hK hI List.not_mem_nil hG0 10 (by decide) (hts _ (tb_c wd_1243)) rfl rfl dX12_reads_2 (fun w2594 hg2595 k2596 k2597 => ?_)
  have k2598 := lw_g10 hI hG0 List.not_mem_nil hg2595
  refine mx_v (As := [.int w2594]) (rest := []) (n := 1) (d := 2) ⟨hx, hb, hml, hown, hts⟩ (c_X12_splits l Eo D G h0 hG0 w2594 ⟨by omega, by omega⟩ ff hkf (Eo 15) (by omega)) wd_1568 wd_1570 wp_63 wd_13 wd_1571 (by decide +kernel) ⟨by rw [hR]; exact Nat.le_of_ble_eq_true rfl, by rw [hR]; exact Nat.le_of_ble_eq_true rfl⟩ hI hN hK hS hG0 (⟨q_3, hf_3, hq_3, hA_3⟩) rfl hl.1 rfl (Nat.le_of_ble_eq_true rfl) dX12_reads_5 ⟨Nat.zero_le _, Nat.zero_le _⟩ (fun H locs hI hp hS => ?_)
  obtain ⟨TT, cd, va, pl, ⟨w2600, hg2601, k2602⟩, hT, ⟨a2603, hf2604, hq2605, hA2606⟩, ⟨a2607, hf2608, hq2609, hA2610⟩, ⟨a2611, hf2612, hq2613, hA2614⟩, ⟨a2615, hf2616, hq2617, hA2618⟩, hPl, hz0, hpe, hTI⟩ := hp
  refine lv_aload_n hx hb dX12_reads_8 rfl (lv_at hl 0 rfl) ?_
  refine lv_iconst (v := 0) hx hb dX12_reads_9 (by decide) ?_
  refine pmE (E' := eu Eo 15 0) (ty := .int) hx hb hts inT12 hown hK hI List.not_mem_nil hG0 hS ⟨_, hG0⟩ 10 (by decide) (hts _ (tb_c wd_1243)) rfl rfl hU10 (okM_g15 (by decide)) (fun fs a b => c10_15 a b (by decide)) (by decide +kernel) rfl rfl rfl (by decide) (by decide) dX12_reads_10 (fun H locs hI hgP hS => ?_)
  have hg2601 := hgP.2.2.1 15 _ (by decide) (by decide) hg2601
  have hg2619 := hgP.2.1
  have hf2604 := hgP.2.2.2 3 _ (by decide) (by decide) hf2604
  have hf2608 := hgP.2.2.2 12 _ (by decide) (by decide) hf2608
  have hf2612 := hgP.2.2.2 13 _ (by decide) (by decide) hf2612
  have hf2616 := hgP.2.2.2 14 _ (by decide) (by decide) hf2616
  have hA2606 := va_at.kept hA2606 (hgP.1 _ (m_ne hq2605 hG0 (by first | decide | (dsimp only; decide))))
  have hA2610 := va_at.kept hA2610 (hgP.1 _ (m_ne hq2609 hG0 (by first | decide | (dsimp only; decide))))
  have hA2614 := va_at.kept hA2614 (hgP.1 _ (m_ne hq2613 hG0 (by first | decide | (dsimp only; decide))))
  have hA2618 := va_at.kept hA2618 (hgP.1 _ (m_ne hq2617 hG0 (by first | decide | (dsimp only; decide))))
  have hI : th_I (okM Em) D G [] H := by rw [hEm]; exact hI
  have hK := hKm
  have hA2606 : va_at D vwCl (a2603, .inl (Em 0, 5123, .inl ff)) H := by rw [show Em 0 = Eo 0 from (by rw [hEm]; exact eu_ne (by decide))]; exact hA2606
  have hkf : kOk (Em 10) ff := by rw [show Em 10 = Eo 10 from (by rw [hEm]; exact eu_ne (by decide))]; exact hkf
  have hA2610 : va_at D vwCl (a2607, .inl (Em 0, 401, .inl cd)) H := by rw [show Em 0 = Eo 0 from (by rw [hEm]; exact eu_ne (by decide))]; exact hA2610
  have hA2614 : va_at D vwCl (a2611, .inl (Em 0, 401, .inl va)) H := by rw [show Em 0 = Eo 0 from (by rw [hEm]; exact eu_ne (by decide))]; exact hA2614
  have hA2618 : va_at D vwCl (a2615, .inl (Em 0, 401, .inl pl)) H := by rw [show Em 0 = Eo 0 from (by rw [hEm]; exact eu_ne (by decide))]; exact hA2618
  refine lv_aload_n hx hb dX12_reads_13 rfl (lv_at hl 0 rfl) ?_
  refine lv_iconst (v := 0) hx hb dX12_reads_14 (by decide) ?_
  refine pmI (ty := .int) hx hb hts inT12 hown hK hI List.not_mem_nil hG0 hS ⟨_, hG0⟩ 16 (by decide) (by decide) (hts _ (tb_c wd_1249)) rfl rfl (by decide +kernel) rfl rfl rfl (by decide) (by decide) dX12_reads_15 (fun H locs hI hgP hS => ?_)
  have hg2601 := hgP.2.2.1 15 _ (by decide) (by decide) hg2601
  have hg2619 := hgP.2.2.1 10 _ (by decide) (by decide) hg2619
  have hg2620 := hgP.2.1
  have hf2604 := hgP.2.2.2 3 _ (by decide) (by decide) hf2604
  have hf2608 := hgP.2.2.2 12 _ (by decide) (by decide) hf2608
  have hf2612 := hgP.2.2.2 13 _ (by decide) (by decide) hf2612
  have hf2616 := hgP.2.2.2 14 _ (by decide) (by decide) hf2616
  have hA2606 := va_at.kept hA2606 (hgP.1 _ (m_ne hq2605 hG0 (by first | decide | (dsimp only; decide))))
  have hA2610 := va_at.kept hA2610 (hgP.1 _ (m_ne hq2609 hG0 (by first | decide | (dsimp only; decide))))
  have hA2614 := va_at.kept hA2614 (hgP.1 _ (m_ne hq2613 hG0 (by first | decide | (dsimp only; decide))))
  have hA2618 := va_at.kept hA2618 (hgP.1 _ (m_ne hq2617 hG0 (by first | decide | (dsimp only; decide))))
  refine lv_aload_n hx hb dX12_reads_18 rfl (lv_at hl 0 rfl) ?_
  refine lv_iconst (v := 0) hx hb dX12_reads_19 (by decide) ?_
  refine pmI (ty := .int) hx hb hts inT12 hown hK hI List.not_mem_nil hG0 hS ⟨_, hG0⟩ 17 (by decide) (by decide) (hts _ (tb_c wd_1250)) rfl rfl (by decide +kernel) rfl rfl rfl (by decide) (by decide) dX12_reads_20 (fun H locs hI hgP hS => ?_)
  have hg2601 := hgP.2.2.1 15 _ (by decide) (by decide) hg2601
  have hg2619 := hgP.2.2.1 10 _ (by decide) (by decide) hg2619
  have hg2620 := hgP.2.2.1 16 _ (by decide) (by decide) hg2620
  have hg2621 := hgP.2.1
  have hf2604 := hgP.2.2.2 3 _ (by decide) (by decide) hf2604
  have hf2608 := hgP.2.2.2 12 _ (by decide) (by decide) hf2608
  have hf2612 := hgP.2.2.2 13 _ (by decide) (by decide) hf2612
  have hf2616 := hgP.2.2.2 14 _ (by decide) (by decide) hf2616
  have hA2606 := va_at.kept hA2606 (hgP.1 _ (m_ne hq2605 hG0 (by first | decide | (dsimp only; decide))))
  have hA2610 := va_at.kept hA2610 (hgP.1 _ (m_ne hq2609 hG0 (by first | decide | (dsimp only; decide))))
  have hA2614 := va_at.kept hA2614 (hgP.1 _ (m_ne hq2613 hG0 (by first | decide | (dsimp only; decide))))
  have hA2618 := va_at.kept hA2618 (hgP.1 _ (m_ne hq2617 hG0 (by first | decide | (dsimp only; decide))))
  refine lv_aload_n hx hb dX12_reads_23 rfl (lv_at hl 0 rfl) ?_
  refine lv_iconst (v := (-1)) hx hb dX12_reads_24 (by decide) ?_
  refine pmI (ty := .int) hx hb hts inT12 hown hK hI List.not_mem_nil hG0 hS ⟨_, hG0⟩ 18 (by decide) (by decide) (hts _ (tb_c wd_1251)) rfl rfl (by decide +kernel) rfl rfl rfl (by decide) (by decide) dX12_reads_25 (fun H locs hI hgP hS => ?_)
  have hg2601 := hgP.2.2.1 15 _ (by decide) (by decide) hg2601
  have hg2619 := hgP.2.2.1 10 _ (by decide) (by decide) hg2619
  have hg2620 := hgP.2.2.1 16 _ (by decide) (by decide) hg2620
  have hg2621 := hgP.2.2.1 17 _ (by decide) (by decide) hg2621
  have hg2622 := hgP.2.1
  have hf2604 := hgP.2.2.2 3 _ (by decide) (by decide) hf2604
  have hf2608 := hgP.2.2.2 12 _ (by decide) (by decide) hf2608
  have hf2612 := hgP.2.2.2 13 _ (by decide) (by decide) hf2612
  have hf2616 := hgP.2.2.2 14 _ (by decide) (by decide) hf2616
  have hA2606 := va_at.kept hA2606 (hgP.1 _ (m_ne hq2605 hG0 (by first | decide | (dsimp only; decide))))
  have hA2610 := va_at.kept hA2610 (hgP.1 _ (m_ne hq2609 hG0 (by first | decide | (dsimp only; decide))))
  have hA2614 := va_at.kept hA2614 (hgP.1 _ (m_ne hq2613 hG0 (by first | decide | (dsimp only; decide))))
  have hA2618 := va_at.kept hA2618 (hgP.1 _ (m_ne hq2617 hG0 (by first | decide | (dsimp only; decide))))
  obtain ⟨XX, hXX⟩ : ∃ X : Nat × Bool, RR cd va TT (0, [], 0, 0) 0 = X := ⟨_, rfl⟩
  have hiv0 : IV cd va pl TT XX (0, [], 0, 0) 0 (-1) := Or.inl ⟨by decide, hXX⟩
  refine lv_aload_n hx hb dX12_reads_28 rfl (lv_at hl 0 rfl) ?_
  refine mx_v (As := []) (rest := []) (n := 0) (d := 57) ⟨hx, hb, hml, hown, hts⟩ (c_X12_readClause l Em D G h0 hG0  ff cd va pl TT 0 0 (-1) 0 XX (by omega) hiv0) wd_1583 wd_1585 wp_65 wd_13 wd_1586 (by decide +kernel) ⟨by rw [hR]; exact Nat.le_of_ble_eq_true rfl, by rw [hR]; exact Nat.le_of_ble_eq_true rfl⟩ hI hN hK hS hG0 (⟨⟨hkf, hT, hz0, by omega, ⟨a2603, hf2604, hq2605, hA2606⟩, ⟨a2607, hf2608, hq2609, hA2610⟩, ⟨w2600, hg2601, by first | omega | decide⟩, ⟨0, hg2620, by first | omega | decide⟩, hg2622⟩, ⟨a2611, hf2612, hq2613, hA2614⟩, ⟨a2615, hf2616, hq2617, hA2618⟩, hPl, ⟨0, hg2621, by first | omega | decide⟩, by omega, by first | omega | (intro; omega)⟩) rfl hl.1 rfl (Nat.le_of_ble_eq_true rfl) dX12_reads_29 ⟨Nat.zero_le _, Nat.zero_le _⟩ (fun H locs hI hp hS => ?_)
  obtain ⟨pn2624, bn2625, Ln2626, hE, k2629, hi2627, hiv2628⟩ := hp
  obtain ⟨⟨hkf, hT, hz0, k2653, ⟨a2630, hf2631, hq2632, hA2633⟩, ⟨a2634, hf2635, hq2636, hA2637⟩, ⟨w2646, hg2647, k2654⟩, ⟨w2648, hg2649, k2655⟩, hg2650⟩, ⟨a2638, hf2639, hq2640, hA2641⟩, ⟨a2642, hf2643, hq2644, hA2645⟩, hPl, ⟨w2651, hg2652, k2656⟩, k2657, k2658⟩ := hE
  have hInv0 : bn2625.toInt = -1 → g_so (rC cd TT) TT pn2624 := fun h => so_i (hi2627 h).2
  refine lv_iconst (v := 1) hx hb dX12_reads_32 (by decide) ?_
  refine lv_istore_n (lv' := [(1, .int 1), (0, .ref h0)]) hx hb dX12_reads_33 rfl hl (by decide) rfl (fun ls hl => ?_)
  exact J_34 _ H locs ls 1 cd va pl TT XX pn2624 bn2625 Ln2626 1 rfl (lv_sub hl [0, 1] rfl) ⟨by decide, by decide⟩ (hTI) (hpe) (hXX) (by first | omega | decide) (by first | decide | (intro hq9; omega)) (hiv2628) (hInv0) (⟨⟨hkf, hT, hz0, by omega, ⟨a2630, hf2631, hq2632, hA2633⟩, ⟨a2634, hf2635, hq2636, hA2637⟩, ⟨w2646, hg2647, by first | omega | decide⟩, ⟨w2648, hg2649, by first | omega | decide⟩, hg2650⟩, ⟨a2638, hf2639, hq2640, hA2641⟩, ⟨a2642, hf2643, hq2644, hA2645⟩, hPl, ⟨w2651, hg2652, by first | omega | decide⟩, by omega, by first | omega | (intro; omega)⟩) hI hS
