theorem wp_68 : Cond.selects RX12 yX12_readSum yX12_readSum ∈ TB := tv 68 (by decide +kernel) (by decide +kernel)
theorem wp_72 : Cond.selects RX12 yX12_must yX12_must ∈ TB := tv 72 (by decide +kernel) (by decide +kernel)
theorem wp_73 : Cond.selects RX12 yX12_leaf yX12_leaf ∈ TB := tv 73 (by decide +kernel) (by decide +kernel)
theorem wd_1246 : (Cond.fieldLink RX12 (46 : Nat) "NineRiverModel" "value" "[I") ∈ TB := tw 1246 (by decide +kernel) (by decide +kernel)
theorem wd_1595 : (Cond.methodLink RX12 (178 : Nat) yX12_readSum) ∈ TB := tw 1595 (by decide +kernel) (by decide +kernel)
theorem wd_1597 : (Jvm.Cond.instanceMethod yX12_readSum) ∈ TB := tw 1597 (by decide +kernel) (by decide +kernel)
theorem wd_1598 : (Cond.code yX12_readSum cX12_readSum 2 (Option.none : Option Jvm.ClassFile.FieldType)) ∈ TB := tw 1598 (by decide +kernel) (by decide +kernel)
theorem wd_1611 : (Cond.methodLink RX12 (182 : Nat) yX12_must) ∈ TB := tw 1611 (by decide +kernel) (by decide +kernel)
theorem wd_1613 : (Jvm.Cond.instanceMethod yX12_must) ∈ TB := tw 1613 (by decide +kernel) (by decide +kernel)
theorem wd_1614 : (Cond.code yX12_must cX12_must 2 (Option.none : Option Jvm.ClassFile.FieldType)) ∈ TB := tw 1614 (by decide +kernel) (by decide +kernel)
theorem wd_1615 : (Cond.methodLink RX12 (204 : Nat) yX12_leaf) ∈ TB := tw 1615 (by decide +kernel) (by decide +kernel)
theorem wd_1617 : (Jvm.Cond.instanceMethod yX12_leaf) ∈ TB := tw 1617 (by decide +kernel) (by decide +kernel)
theorem wd_1618 : (Cond.code yX12_leaf cX12_leaf 1 (Option.none : Option Jvm.ClassFile.FieldType)) ∈ TB := tw 1618 (by decide +kernel) (by decide +kernel)
theorem dX12_readPart_0g : (decode cX12_readPart 0 = .ok (.aload_n 0, 1)) ∧ (decode cX12_readPart 1 = .ok (.invokevirtual 162, 3)) ∧ (decode cX12_readPart 4 = .ok (.ifCond .ne 4, 3)) ∧ (decode cX12_readPart 7 = .ok (.return_, 1)) ∧ (decode cX12_readPart 8 = .ok (.aload_n 0, 1)) ∧ (decode cX12_readPart 9 = .ok (.getfield 43, 3)) ∧ (decode cX12_readPart 12 = .ok (.aload_n 0, 1)) ∧ (decode cX12_readPart 13 = .ok (.getfield 166, 3)) ∧ (decode cX12_readPart 16 = .ok (.iaload, 1)) ∧ (decode cX12_readPart 17 = .ok (.istore_n 2, 1)) := by decide +kernel
theorem dX12_readPart_0 : decode cX12_readPart 0 = .ok (.aload_n 0, 1) := dX12_readPart_0g.1
theorem dX12_readPart_1 : decode cX12_readPart 1 = .ok (.invokevirtual 162, 3) := dX12_readPart_0g.2.1
theorem dX12_readPart_4 : decode cX12_readPart 4 = .ok (.ifCond .ne 4, 3) := dX12_readPart_0g.2.2.1
theorem dX12_readPart_7 : decode cX12_readPart 7 = .ok (.return_, 1) := dX12_readPart_0g.2.2.2.1
theorem dX12_readPart_8 : decode cX12_readPart 8 = .ok (.aload_n 0, 1) := dX12_readPart_0g.2.2.2.2.1
theorem dX12_readPart_9 : decode cX12_readPart 9 = .ok (.getfield 43, 3) := dX12_readPart_0g.2.2.2.2.2.1
theorem dX12_readPart_12 : decode cX12_readPart 12 = .ok (.aload_n 0, 1) := dX12_readPart_0g.2.2.2.2.2.2.1
theorem dX12_readPart_13 : decode cX12_readPart 13 = .ok (.getfield 166, 3) := dX12_readPart_0g.2.2.2.2.2.2.2.1
theorem dX12_readPart_16 : decode cX12_readPart 16 = .ok (.iaload, 1) := dX12_readPart_0g.2.2.2.2.2.2.2.2.1
theorem dX12_readPart_17 : decode cX12_readPart 17 = .ok (.istore_n 2, 1) := dX12_readPart_0g.2.2.2.2.2.2.2.2.2
theorem dX12_readPart_18g : (decode cX12_readPart 18 = .ok (.iload_n 2, 1)) ∧ (decode cX12_readPart 19 = .ok (.bipush 91, 2)) ∧ (decode cX12_readPart 21 = .ok (.invokestatic 194, 3)) ∧ (decode cX12_readPart 24 = .ok (.if_icmp .ne 50, 3)) ∧ (decode cX12_readPart 27 = .ok (.iload_n 1, 1)) ∧ (decode cX12_readPart 28 = .ok (.bipush 8, 2)) ∧ (decode cX12_readPart 30 = .ok (.if_icmp .ne 7, 3)) ∧ (decode cX12_readPart 33 = .ok (.aload_n 0, 1)) ∧ (decode cX12_readPart 34 = .ok (.invokevirtual 172, 3)) ∧ (decode cX12_readPart 37 = .ok (.aload_n 0, 1)) := by decide +kernel
theorem dX12_readPart_18 : decode cX12_readPart 18 = .ok (.iload_n 2, 1) := dX12_readPart_18g.1
theorem dX12_readPart_19 : decode cX12_readPart 19 = .ok (.bipush 91, 2) := dX12_readPart_18g.2.1
theorem dX12_readPart_21 : decode cX12_readPart 21 = .ok (.invokestatic 194, 3) := dX12_readPart_18g.2.2.1
theorem dX12_readPart_24 : decode cX12_readPart 24 = .ok (.if_icmp .ne 50, 3) := dX12_readPart_18g.2.2.2.1
theorem dX12_readPart_27 : decode cX12_readPart 27 = .ok (.iload_n 1, 1) := dX12_readPart_18g.2.2.2.2.1
theorem dX12_readPart_28 : decode cX12_readPart 28 = .ok (.bipush 8, 2) := dX12_readPart_18g.2.2.2.2.2.1
theorem dX12_readPart_30 : decode cX12_readPart 30 = .ok (.if_icmp .ne 7, 3) := dX12_readPart_18g.2.2.2.2.2.2.1
theorem dX12_readPart_33 : decode cX12_readPart 33 = .ok (.aload_n 0, 1) := dX12_readPart_18g.2.2.2.2.2.2.2.1
theorem dX12_readPart_34 : decode cX12_readPart 34 = .ok (.invokevirtual 172, 3) := dX12_readPart_18g.2.2.2.2.2.2.2.2.1
theorem dX12_readPart_37 : decode cX12_readPart 37 = .ok (.aload_n 0, 1) := dX12_readPart_18g.2.2.2.2.2.2.2.2.2
theorem dX12_readPart_38g : (decode cX12_readPart 38 = .ok (.invokevirtual 162, 3)) ∧ (decode cX12_readPart 41 = .ok (.ifCond .ne 4, 3)) ∧ (decode cX12_readPart 44 = .ok (.return_, 1)) ∧ (decode cX12_readPart 45 = .ok (.aload_n 0, 1)) ∧ (decode cX12_readPart 46 = .ok (.dup, 1)) ∧ (decode cX12_readPart 47 = .ok (.getfield 166, 3)) ∧ (decode cX12_readPart 50 = .ok (.iconst 1, 1)) ∧ (decode cX12_readPart 51 = .ok (.iadd, 1)) ∧ (decode cX12_readPart 52 = .ok (.putfield 166, 3)) ∧ (decode cX12_readPart 55 = .ok (.aload_n 0, 1)) := by decide +kernel
theorem dX12_readPart_38 : decode cX12_readPart 38 = .ok (.invokevirtual 162, 3) := dX12_readPart_38g.1
theorem dX12_readPart_41 : decode cX12_readPart 41 = .ok (.ifCond .ne 4, 3) := dX12_readPart_38g.2.1
theorem dX12_readPart_44 : decode cX12_readPart 44 = .ok (.return_, 1) := dX12_readPart_38g.2.2.1
theorem dX12_readPart_45 : decode cX12_readPart 45 = .ok (.aload_n 0, 1) := dX12_readPart_38g.2.2.2.1
theorem dX12_readPart_46 : decode cX12_readPart 46 = .ok (.dup, 1) := dX12_readPart_38g.2.2.2.2.1
theorem dX12_readPart_47 : decode cX12_readPart 47 = .ok (.getfield 166, 3) := dX12_readPart_38g.2.2.2.2.2.1
theorem dX12_readPart_50 : decode cX12_readPart 50 = .ok (.iconst 1, 1) := dX12_readPart_38g.2.2.2.2.2.2.1
theorem dX12_readPart_51 : decode cX12_readPart 51 = .ok (.iadd, 1) := dX12_readPart_38g.2.2.2.2.2.2.2.1
theorem dX12_readPart_52 : decode cX12_readPart 52 = .ok (.putfield 166, 3) := dX12_readPart_38g.2.2.2.2.2.2.2.2.1
theorem dX12_readPart_55 : decode cX12_readPart 55 = .ok (.aload_n 0, 1) := dX12_readPart_38g.2.2.2.2.2.2.2.2.2
theorem dX12_readPart_56g : (decode cX12_readPart 56 = .ok (.iload_n 1, 1)) ∧ (decode cX12_readPart 57 = .ok (.iconst 1, 1)) ∧ (decode cX12_readPart 58 = .ok (.iadd, 1)) ∧ (decode cX12_readPart 59 = .ok (.invokevirtual 178, 3)) ∧ (decode cX12_readPart 62 = .ok (.aload_n 0, 1)) ∧ (decode cX12_readPart 63 = .ok (.bipush 93, 2)) ∧ (decode cX12_readPart 65 = .ok (.invokestatic 194, 3)) ∧ (decode cX12_readPart 68 = .ok (.invokevirtual 182, 3)) ∧ (decode cX12_readPart 71 = .ok (.goto 47, 3)) ∧ (decode cX12_readPart 74 = .ok (.iload_n 2, 1)) := by decide +kernel
theorem dX12_readPart_56 : decode cX12_readPart 56 = .ok (.iload_n 1, 1) := dX12_readPart_56g.1
theorem dX12_readPart_57 : decode cX12_readPart 57 = .ok (.iconst 1, 1) := dX12_readPart_56g.2.1
theorem dX12_readPart_58 : decode cX12_readPart 58 = .ok (.iadd, 1) := dX12_readPart_56g.2.2.1
theorem dX12_readPart_59 : decode cX12_readPart 59 = .ok (.invokevirtual 178, 3) := dX12_readPart_56g.2.2.2.1
theorem dX12_readPart_62 : decode cX12_readPart 62 = .ok (.aload_n 0, 1) := dX12_readPart_56g.2.2.2.2.1
theorem dX12_readPart_63 : decode cX12_readPart 63 = .ok (.bipush 93, 2) := dX12_readPart_56g.2.2.2.2.2.1
theorem dX12_readPart_65 : decode cX12_readPart 65 = .ok (.invokestatic 194, 3) := dX12_readPart_56g.2.2.2.2.2.2.1
theorem dX12_readPart_68 : decode cX12_readPart 68 = .ok (.invokevirtual 182, 3) := dX12_readPart_56g.2.2.2.2.2.2.2.1
theorem dX12_readPart_71 : decode cX12_readPart 71 = .ok (.goto 47, 3) := dX12_readPart_56g.2.2.2.2.2.2.2.2.1
theorem dX12_readPart_74 : decode cX12_readPart 74 = .ok (.iload_n 2, 1) := dX12_readPart_56g.2.2.2.2.2.2.2.2.2
theorem dX12_readPart_75g : (decode cX12_readPart 75 = .ok (.bipush 50, 2)) ∧ (decode cX12_readPart 77 = .ok (.if_icmp .ne 18, 3)) ∧ (decode cX12_readPart 80 = .ok (.aload_n 0, 1)) ∧ (decode cX12_readPart 81 = .ok (.getfield 46, 3)) ∧ (decode cX12_readPart 84 = .ok (.aload_n 0, 1)) ∧ (decode cX12_readPart 85 = .ok (.getfield 166, 3)) ∧ (decode cX12_readPart 88 = .ok (.iaload, 1)) ∧ (decode cX12_readPart 89 = .ok (.sipush 1000, 3)) ∧ (decode cX12_readPart 92 = .ok (.if_icmp .le 15, 3)) ∧ (decode cX12_readPart 95 = .ok (.iload_n 2, 1)) := by decide +kernel
theorem dX12_readPart_75 : decode cX12_readPart 75 = .ok (.bipush 50, 2) := dX12_readPart_75g.1
theorem dX12_readPart_77 : decode cX12_readPart 77 = .ok (.if_icmp .ne 18, 3) := dX12_readPart_75g.2.1
theorem dX12_readPart_80 : decode cX12_readPart 80 = .ok (.aload_n 0, 1) := dX12_readPart_75g.2.2.1
theorem dX12_readPart_81 : decode cX12_readPart 81 = .ok (.getfield 46, 3) := dX12_readPart_75g.2.2.2.1
theorem dX12_readPart_84 : decode cX12_readPart 84 = .ok (.aload_n 0, 1) := dX12_readPart_75g.2.2.2.2.1
theorem dX12_readPart_85 : decode cX12_readPart 85 = .ok (.getfield 166, 3) := dX12_readPart_75g.2.2.2.2.2.1
theorem dX12_readPart_88 : decode cX12_readPart 88 = .ok (.iaload, 1) := dX12_readPart_75g.2.2.2.2.2.2.1
theorem dX12_readPart_89 : decode cX12_readPart 89 = .ok (.sipush 1000, 3) := dX12_readPart_75g.2.2.2.2.2.2.2.1
theorem dX12_readPart_92 : decode cX12_readPart 92 = .ok (.if_icmp .le 15, 3) := dX12_readPart_75g.2.2.2.2.2.2.2.2.1
theorem dX12_readPart_95 : decode cX12_readPart 95 = .ok (.iload_n 2, 1) := dX12_readPart_75g.2.2.2.2.2.2.2.2.2
theorem dX12_readPart_96g : (decode cX12_readPart 96 = .ok (.bipush 9, 2)) ∧ (decode cX12_readPart 98 = .ok (.if_icmp .lt 16, 3)) ∧ (decode cX12_readPart 101 = .ok (.iload_n 2, 1)) ∧ (decode cX12_readPart 102 = .ok (.bipush 17, 2)) ∧ (decode cX12_readPart 104 = .ok (.if_icmp .gt 10, 3)) ∧ (decode cX12_readPart 107 = .ok (.aload_n 0, 1)) ∧ (decode cX12_readPart 108 = .ok (.invokevirtual 204, 3)) ∧ (decode cX12_readPart 111 = .ok (.goto 7, 3)) ∧ (decode cX12_readPart 114 = .ok (.aload_n 0, 1)) ∧ (decode cX12_readPart 115 = .ok (.invokevirtual 172, 3)) := by decide +kernel
theorem dX12_readPart_96 : decode cX12_readPart 96 = .ok (.bipush 9, 2) := dX12_readPart_96g.1
theorem dX12_readPart_98 : decode cX12_readPart 98 = .ok (.if_icmp .lt 16, 3) := dX12_readPart_96g.2.1
theorem dX12_readPart_101 : decode cX12_readPart 101 = .ok (.iload_n 2, 1) := dX12_readPart_96g.2.2.1
theorem dX12_readPart_102 : decode cX12_readPart 102 = .ok (.bipush 17, 2) := dX12_readPart_96g.2.2.2.1
theorem dX12_readPart_104 : decode cX12_readPart 104 = .ok (.if_icmp .gt 10, 3) := dX12_readPart_96g.2.2.2.2.1
theorem dX12_readPart_107 : decode cX12_readPart 107 = .ok (.aload_n 0, 1) := dX12_readPart_96g.2.2.2.2.2.1
theorem dX12_readPart_108 : decode cX12_readPart 108 = .ok (.invokevirtual 204, 3) := dX12_readPart_96g.2.2.2.2.2.2.1
theorem dX12_readPart_111 : decode cX12_readPart 111 = .ok (.goto 7, 3) := dX12_readPart_96g.2.2.2.2.2.2.2.1
theorem dX12_readPart_114 : decode cX12_readPart 114 = .ok (.aload_n 0, 1) := dX12_readPart_96g.2.2.2.2.2.2.2.2.1
theorem dX12_readPart_115 : decode cX12_readPart 115 = .ok (.invokevirtual 172, 3) := dX12_readPart_96g.2.2.2.2.2.2.2.2.2
theorem dX12_readPart_118 : decode cX12_readPart 118 = .ok (.return_, 1) := by decide +kernel
set_option maxHeartbeats 4000000 in
set_option maxRecDepth 100000 in
theorem c_X12_readPart (l : Launch) (E : Nat → Nat) (D : va_G) (G : th_G) (k : Nat) : ∀ (h0 : Nat) (hG0 : G h0 = some (10, 0)) (x1 : Int32) (ff cd va pl : Nat → Int32) (TT pp LL : Nat) (bb : Int32) (dd : Nat) (hdd : x1.toInt = (dd : Int)) (hd8 : dd ≤ 8) (hk : 8 ≤ dd + k) (fl : List Nat) (nk : Nat) (XX : Nat × Bool) (hdp : pd_dp (fl) = dd) (hiv : IV cd va pl TT XX (1, fl, nk, LL) pp bb), Met l yX12_readPart (tb (.code yX12_readPart cX12_readPart 3 none)) (rm (3 + 3 * k)) (va_Pc [.ref h0, .int x1] (PX E D G (fun H => RX E D G h0 ff cd va pl TT pp bb LL H))) (QXv E D G (fun H => ∃ (p2 : Nat) (b2 : Int32) (L2 : Nat), RX E D G h0 ff cd va pl TT p2 b2 L2 H ∧ pp ≤ p2 ∧ (b2.toInt = -1 → bb.toInt = -1 ∧ Gr (rC cd TT) 0 dd pp p2) ∧ IV cd va pl TT XX (2, fl, nk, L2) p2 b2)) 0 0 (th_A G) := by
  induction k using Nat.strongRecOn with
  | ind k ih =>
  intro h0 hG0 x1 ff cd va pl TT pp LL bb dd hdd hd8 hk fl nk XX hdp hiv
  refine Met.ofW (cc := cX12_readPart) (maxL := 3) (ret := none) (by decide) rfl ?_
  intro p e s m args below meth c s₁ B hml hv
  obtain ⟨hav, ⟨hI, hN, hK⟩, hX⟩ := hv
  have hx := B.exec
  have hb := B.bytes
  have hr := B.returns
  have hts := atoms_spec (ws := tb (.code yX12_readPart cX12_readPart 3 none)) B.pre
  have hown : s.vm.findClass RX12 = some m.cls := findClass_of_methodNamed B.named
  have hlocks := B.notSynchronized
  have hS : va_S (th_A G) s.heap s.heap [] := va_S.rf
  have hl := lv_entry ([.ref h0, .int x1]) (n := 3) (Nat.le_of_ble_eq_true rfl)
  rw [show entryFrame m args 3 = entryFrame m ([.ref h0, .int x1] : List Value).toArray 3 from by rw [hav], lg_entry_eq]
  generalize (lg_sl ([.ref h0, .int x1]) ++ List.replicate (3 - (lg_sl ([.ref h0, .int x1])).length) Slot.unset).toArray = ls at hl ⊢
  have hl : lv_has ls 3 [(0, .ref h0), (1, .int x1)] := hl
  generalize hR : (headSpec (tb (.code yX12_readPart cX12_readPart 3 none)) (rm (3 + 3 * k))).room = R
  have hR := hR.symm
  generalize hQ : MQ below (QXv E D G (fun H => ∃ (p2 : Nat) (b2 : Int32) (L2 : Nat), RX E D G h0 ff cd va pl TT p2 b2 L2 H ∧ pp ≤ p2 ∧ (b2.toInt = -1 → bb.toInt = -1 ∧ Gr (rC cd TT) 0 dd pp p2) ∧ IV cd va pl TT XX (2, fl, nk, L2) p2 b2)) args s 0 0 (th_A G) = QF
  have hQ := hQ.symm
  obtain ⟨⟨hkf, hT, hz0, k24, ⟨a1, hf2, hq3, hA4⟩, ⟨a5, hf6, hq7, hA8⟩, ⟨w17, hg18, k25⟩, ⟨w19, hg20, k26⟩, hg21⟩, ⟨a9, hf10, hq11, hA12⟩, ⟨a13, hf14, hq15, hA16⟩, hPl, ⟨w22, hg23, k27⟩, k28, k29⟩ := hX
  refine lv_aload_n hx hb dX12_readPart_0 rfl (lv_at hl 0 rfl) ?_
  refine mr_i (As := []) (rest := []) (n := 0) (d := 0) ⟨hx, hb, hml, hown, hts⟩ (c_X12_fine l E D G s.heap h0 hG0  ff cd TT pp bb ⟨hkf, hT, hz0, by omega, ⟨a1, hf2, hq3, hA4⟩, ⟨a5, hf6, hq7, hA8⟩, ⟨w17, hg18, by first | omega | decide⟩, ⟨w19, hg20, by first | omega | decide⟩, hg21⟩) wd_1591 wd_1593 wp_67 wd_13 wd_1594 (by decide +kernel) ⟨by rw [hR]; show 0 + 1 ≤ 3 + 3 * k; omega, by rw [hR]; show 8 + (1 + 11) + 40 * (0) ≤ 40 * (3 + 3 * k); omega⟩ hI hN hK hS hG0 rfl hl.1 rfl (Nat.le_of_ble_eq_true rfl) dX12_readPart_1 ⟨Nat.zero_le _, Nat.zero_le _⟩ (fun r30 locs hp hS => ?_)
  rcases hp with ⟨rfl, hp⟩ | ⟨rfl, hp⟩
  · skip
    try simp only [rg, not_and, Int.not_le] at hp
    have hp31 := hp
    refine lv_if_ne (tgt := 8) hx hb dX12_readPart_4 (by decide) (fun _ => ?_) (fun c => absurd c (by decide))
    refine lv_aload_n hx hb dX12_readPart_8 rfl (lv_at hl 0 rfl) ?_
    refine gmA hx hb hts inT12 hown hK hI List.not_mem_nil hG0 12 (by decide) (hts _ (tb_c wd_1245)) rfl rfl dX12_readPart_9 (fun a32 hq33 hf34 => ?_)
    obtain rfl := fr.uniq (by decide) hf6 hf34
    refine lv_aload_n hx hb dX12_readPart_12 rfl (lv_at hl 0 rfl) ?_
    refine gmI hx hb hts inT12 hown hK hI List.not_mem_nil hG0 16 (by decide) (hts _ (tb_c wd_1249)) rfl rfl dX12_readPart_13 (fun w35 hg36 k37 k38 => ?_)
    obtain rfl := gf.uniq (by decide) hg20 hg36
    refine th_iald hx hb hK hA8 0 rfl (iv_in (X := w19.toInt) rfl (by omega) (by omega)) dX12_readPart_16 (fun v39 e40 => ?_)
    have hrc := rC_rd (TT := TT) e40 (j := pp) (by omega) (by omega) hz0
    refine lv_istore_n (lv' := [(2, .int v39), (0, .ref h0), (1, .int x1)]) hx hb dX12_readPart_17 rfl hl (by decide) rfl (fun ls hl => ?_)
    refine lv_iload_n hx hb dX12_readPart_18 rfl (lv_at hl 0 rfl) ?_
    refine lv_bipush (v := 91) hx hb dX12_readPart_19 (by decide) ?_
    refine th_cSs (As := [.int 91]) (rest := [.int v39]) (n := 1) (d := 0) ⟨hx, hb, hml, hown, hts⟩ (c_X12_sign l s.heap 91) wd_1495 wd_1496 wd_13 wd_1497 (by decide +kernel) ⟨by rw [hR]; show 0 + 1 ≤ 3 + 3 * k; omega, by rw [hR]; show 8 + (1 + 11) + 40 * (0) ≤ 40 * (3 + 3 * k); omega⟩ hN hS rfl hl.1 rfl (Nat.le_of_ble_eq_true rfl) dX12_readPart_21 ⟨Nat.zero_le _, Nat.zero_le _⟩ (fun r41 locs hp hS => ?_)
    obtain rfl : r41 = 191 := hp.trans (by decide)
    have k42 := iv_lo v39
    have k43 := iv_hi v39
    refine lv_icmp_ne (tgt := 74) hx hb dX12_readPart_24 (by decide) (fun c44 => ?_) (fun c44 => ?_)
    · skip
      have k45 := iv_ne (X := v39.toInt) (Y := (191)) rfl (by decide) c44
      refine lv_iload_n hx hb dX12_readPart_74 rfl (lv_at hl 0 rfl) ?_
      refine lv_bipush (v := 50) hx hb dX12_readPart_75 (by decide) ?_
      refine lv_icmp_ne (tgt := 95) hx hb dX12_readPart_77 (by decide) (fun c46 => ?_) (fun c46 => ?_)
      · skip
        have k47 := iv_ne (X := v39.toInt) (Y := (50)) rfl (by decide) c46
        refine lv_iload_n hx hb dX12_readPart_95 rfl (lv_at hl 0 rfl) ?_
        refine lv_bipush (v := 9) hx hb dX12_readPart_96 (by decide) ?_
        refine lv_icmp_lt (tgt := 114) hx hb dX12_readPart_98 (by decide) (fun c48 => ?_) (fun c48 => ?_)
        · skip
          have k49 := iv_lt (X := v39.toInt) (Y := (9)) rfl (by decide) c48
          refine lv_aload_n hx hb dX12_readPart_114 rfl (lv_at hl 1 rfl) ?_
          refine mx_v (As := []) (rest := []) (n := 0) (d := 1) ⟨hx, hb, hml, hown, hts⟩ (c_X12_faults l E D G h0 hG0  ff cd va pl TT pp LL bb) wd_1607 wd_1609 wp_71 wd_13 wd_1610 (by decide +kernel) ⟨by rw [hR]; show 1 + 1 ≤ 3 + 3 * k; omega, by rw [hR]; show 8 + (1 + 11) + 40 * (1) ≤ 40 * (3 + 3 * k); omega⟩ hI hN hK hS hG0 (⟨⟨hkf, hT, hz0, by omega, ⟨a1, hf2, hq3, hA4⟩, ⟨a5, hf6, hq7, hA8⟩, ⟨w17, hg18, by first | omega | decide⟩, ⟨w19, hg20, by first | omega | decide⟩, hg21⟩, ⟨a9, hf10, hq11, hA12⟩, ⟨a13, hf14, hq15, hA16⟩, hPl, ⟨w22, hg23, by first | omega | decide⟩, by omega, by first | omega | (intro; omega)⟩) rfl hl.1 rfl (Nat.le_of_ble_eq_true rfl) dX12_readPart_115 ⟨Nat.zero_le _, Nat.zero_le _⟩ (fun H locs hI hp hS => ?_)
          obtain ⟨bn51, hb52, hd53, hE⟩ := hp
          obtain ⟨⟨hkf, hT, hz0, k77, ⟨a54, hf55, hq56, hA57⟩, ⟨a58, hf59, hq60, hA61⟩, ⟨w70, hg71, k78⟩, ⟨w72, hg73, k79⟩, hg74⟩, ⟨a62, hf63, hq64, hA65⟩, ⟨a66, hf67, hq68, hA69⟩, hPl, ⟨w75, hg76, k80⟩, k81, k82⟩ := hE
          have hiv83 : IV cd va pl TT XX (2, fl, nk, LL) pp bn51 := hiv.flt (fun _ => st_E_no (fun h => by omega) (fun h => by rcases h with h | h <;> omega)) hb52 hd53
          have hpost : ∃ (p2 : Nat) (b2 : Int32) (L2 : Nat), RX E D G h0 ff cd va pl TT p2 b2 L2 H ∧ pp ≤ p2 ∧ (b2.toInt = -1 → bb.toInt = -1 ∧ Gr (rC cd TT) 0 dd pp p2) ∧ IV cd va pl TT XX (2, fl, nk, L2) p2 b2 := ⟨pp, bn51, LL, ⟨⟨hkf, hT, hz0, by omega, ⟨a54, hf55, hq56, hA57⟩, ⟨a58, hf59, hq60, hA61⟩, ⟨w70, hg71, by first | omega | decide⟩, ⟨w72, hg73, by first | omega | decide⟩, hg74⟩, ⟨a62, hf63, hq64, hA65⟩, ⟨a66, hf67, hq68, hA69⟩, hPl, ⟨w75, hg76, by first | omega | decide⟩, by omega, by first | omega | (intro; omega)⟩, by omega, fun h => absurd h (by omega), hiv83⟩
          rw [hQ]
          exact W.vret hx hb hr (fun t ht hW => ⟨⟨(), rfl, trivial, ⟨by rw [ht]; exact hI, hN.warm hW, va_K.moved hW.alike hK⟩, by first | (rw [ht]; exact hpost) | exact hpost⟩, hS.F ht⟩) hS.2.2 dX12_readPart_118
        · skip
          have k84 := iv_nlt (X := v39.toInt) (Y := (9)) rfl (by decide) c48
          refine lv_iload_n hx hb dX12_readPart_101 rfl (lv_at hl 0 rfl) ?_
          refine lv_bipush (v := 17) hx hb dX12_readPart_102 (by decide) ?_
          refine lv_icmp_gt (tgt := 114) hx hb dX12_readPart_104 (by decide) (fun c85 => ?_) (fun c85 => ?_)
          · skip
            have k86 := iv_lt (X := (17)) (Y := v39.toInt) (by decide) rfl c85
            refine lv_aload_n hx hb dX12_readPart_114 rfl (lv_at hl 1 rfl) ?_
            refine mx_v (As := []) (rest := []) (n := 0) (d := 1) ⟨hx, hb, hml, hown, hts⟩ (c_X12_faults l E D G h0 hG0  ff cd va pl TT pp LL bb) wd_1607 wd_1609 wp_71 wd_13 wd_1610 (by decide +kernel) ⟨by rw [hR]; show 1 + 1 ≤ 3 + 3 * k; omega, by rw [hR]; show 8 + (1 + 11) + 40 * (1) ≤ 40 * (3 + 3 * k); omega⟩ hI hN hK hS hG0 (⟨⟨hkf, hT, hz0, by omega, ⟨a1, hf2, hq3, hA4⟩, ⟨a5, hf6, hq7, hA8⟩, ⟨w17, hg18, by first | omega | decide⟩, ⟨w19, hg20, by first | omega | decide⟩, hg21⟩, ⟨a9, hf10, hq11, hA12⟩, ⟨a13, hf14, hq15, hA16⟩, hPl, ⟨w22, hg23, by first | omega | decide⟩, by omega, by first | omega | (intro; omega)⟩) rfl hl.1 rfl (Nat.le_of_ble_eq_true rfl) dX12_readPart_115 ⟨Nat.zero_le _, Nat.zero_le _⟩ (fun H locs hI hp hS => ?_)
            obtain ⟨bn88, hb89, hd90, hE⟩ := hp
            obtain ⟨⟨hkf, hT, hz0, k114, ⟨a91, hf92, hq93, hA94⟩, ⟨a95, hf96, hq97, hA98⟩, ⟨w107, hg108, k115⟩, ⟨w109, hg110, k116⟩, hg111⟩, ⟨a99, hf100, hq101, hA102⟩, ⟨a103, hf104, hq105, hA106⟩, hPl, ⟨w112, hg113, k117⟩, k118, k119⟩ := hE
            have hiv120 : IV cd va pl TT XX (2, fl, nk, LL) pp bn88 := hiv.flt (fun _ => st_E_no (fun h => by omega) (fun h => by rcases h with h | h <;> omega)) hb89 hd90
            have hpost : ∃ (p2 : Nat) (b2 : Int32) (L2 : Nat), RX E D G h0 ff cd va pl TT p2 b2 L2 H ∧ pp ≤ p2 ∧ (b2.toInt = -1 → bb.toInt = -1 ∧ Gr (rC cd TT) 0 dd pp p2) ∧ IV cd va pl TT XX (2, fl, nk, L2) p2 b2 := ⟨pp, bn88, LL, ⟨⟨hkf, hT, hz0, by omega, ⟨a91, hf92, hq93, hA94⟩, ⟨a95, hf96, hq97, hA98⟩, ⟨w107, hg108, by first | omega | decide⟩, ⟨w109, hg110, by first | omega | decide⟩, hg111⟩, ⟨a99, hf100, hq101, hA102⟩, ⟨a103, hf104, hq105, hA106⟩, hPl, ⟨w112, hg113, by first | omega | decide⟩, by omega, by first | omega | (intro; omega)⟩, by omega, fun h => absurd h (by omega), hiv120⟩
            rw [hQ]
            exact W.vret hx hb hr (fun t ht hW => ⟨⟨(), rfl, trivial, ⟨by rw [ht]; exact hI, hN.warm hW, va_K.moved hW.alike hK⟩, by first | (rw [ht]; exact hpost) | exact hpost⟩, hS.F ht⟩) hS.2.2 dX12_readPart_118
          · skip
            have k121 := iv_nlt (X := (17)) (Y := v39.toInt) (by decide) rfl c85
            have hlt9 : pp < TT := rC_lt (cd := cd) (by omega)
            refine lv_aload_n hx hb dX12_readPart_107 rfl (lv_at hl 1 rfl) ?_
            refine mx_v (As := []) (rest := []) (n := 0) (d := 2) ⟨hx, hb, hml, hown, hts⟩ (c_X12_leaf l E D G h0 hG0  ff cd va pl TT pp LL bb (by omega) (by omega)) wd_1615 wd_1617 wp_73 wd_13 wd_1618 (by decide +kernel) ⟨by rw [hR]; show 2 + 1 ≤ 3 + 3 * k; omega, by rw [hR]; show 8 + (1 + 11) + 40 * (2) ≤ 40 * (3 + 3 * k); omega⟩ hI hN hK hS hG0 (⟨⟨hkf, hT, hz0, by omega, ⟨a1, hf2, hq3, hA4⟩, ⟨a5, hf6, hq7, hA8⟩, ⟨w17, hg18, by first | omega | decide⟩, ⟨w19, hg20, by first | omega | decide⟩, hg21⟩, ⟨a9, hf10, hq11, hA12⟩, ⟨a13, hf14, hq15, hA16⟩, hPl, ⟨w22, hg23, by first | omega | decide⟩, by omega, by first | omega | (intro; omega)⟩) rfl hl.1 rfl (Nat.le_of_ble_eq_true rfl) dX12_readPart_108 ⟨Nat.zero_le _, Nat.zero_le _⟩ (fun H locs hI hp hS => ?_)
            obtain ⟨pn123, bn124, Ln125, hE, k127, hd126⟩ := hp
            obtain ⟨⟨hkf, hT, hz0, k151, ⟨a128, hf129, hq130, hA131⟩, ⟨a132, hf133, hq134, hA135⟩, ⟨w144, hg145, k152⟩, ⟨w146, hg147, k153⟩, hg148⟩, ⟨a136, hf137, hq138, hA139⟩, ⟨a140, hf141, hq142, hA143⟩, hPl, ⟨w149, hg150, k154⟩, k155, k156⟩ := hE
            have hi157 : bn124.toInt = -1 → bb.toInt = -1 ∧ pn123 = pp + 1 := fun h => by omega
            have hiv9 : IV cd va pl TT XX (2, fl, nk, Ln125) pn123 bn124 := by
              rcases hd126 with ⟨q1, q2, q3, q4⟩ | ⟨q1, q2, q3⟩
              · rw [q3, q4]
                have h9 := hiv.go (fun _ => st_lf (p := pp) (by omega) (by omega) q2)
                rcases h9 with h9 | ⟨h9, _⟩
                · exact Or.inl ⟨q1, h9.2⟩
                · exact absurd (by omega) h9
              · exact hiv.flt (fun _ => st_lf50 (by omega) q2) q1 (Or.inl ⟨by omega, q3⟩)
            refine lv_goto (tgt := 118) hx hb dX12_readPart_111 (by decide) ?_
            have hpost : ∃ (p2 : Nat) (b2 : Int32) (L2 : Nat), RX E D G h0 ff cd va pl TT p2 b2 L2 H ∧ pp ≤ p2 ∧ (b2.toInt = -1 → bb.toInt = -1 ∧ Gr (rC cd TT) 0 dd pp p2) ∧ IV cd va pl TT XX (2, fl, nk, L2) p2 b2 := ⟨pn123, bn124, Ln125, ⟨⟨hkf, hT, hz0, by omega, ⟨a128, hf129, hq130, hA131⟩, ⟨a132, hf133, hq134, hA135⟩, ⟨w144, hg145, by first | omega | decide⟩, ⟨w146, hg147, by first | omega | decide⟩, hg148⟩, ⟨a136, hf137, hq138, hA139⟩, ⟨a140, hf141, hq142, hA143⟩, hPl, ⟨w149, hg150, by first | omega | decide⟩, by omega, by first | omega | (intro; omega)⟩, by omega, fun h => ⟨(hi157 h).1, r0_lf (by omega) (hi157 h).2⟩, hiv9⟩
            rw [hQ]
            exact W.vret hx hb hr (fun t ht hW => ⟨⟨(), rfl, trivial, ⟨by rw [ht]; exact hI, hN.warm hW, va_K.moved hW.alike hK⟩, by first | (rw [ht]; exact hpost) | exact hpost⟩, hS.F ht⟩) hS.2.2 dX12_readPart_118
      · skip
        have k158 := iv_eq (X := v39.toInt) (Y := (50)) rfl (by decide) c46
        refine lv_aload_n hx hb dX12_readPart_80 rfl (lv_at hl 1 rfl) ?_
        refine gmA hx hb hts inT12 hown hK hI List.not_mem_nil hG0 13 (by decide) (hts _ (tb_c wd_1246)) rfl rfl dX12_readPart_81 (fun a159 hq160 hf161 => ?_)
        obtain rfl := fr.uniq (by decide) hf10 hf161
        refine lv_aload_n hx hb dX12_readPart_84 rfl (lv_at hl 1 rfl) ?_
        refine gmI hx hb hts inT12 hown hK hI List.not_mem_nil hG0 16 (by decide) (hts _ (tb_c wd_1249)) rfl rfl dX12_readPart_85 (fun w162 hg163 k164 k165 => ?_)
        obtain rfl := gf.uniq (by decide) hg20 hg163
        refine th_iald hx hb hK hA12 0 rfl (iv_in (X := w19.toInt) rfl (by omega) (by omega)) dX12_readPart_88 (fun v166 e167 => ?_)
        have k168 := rd_at (p := pp) e167 (by omega)
        refine lv_sipush (v := 1000) hx hb dX12_readPart_89 (by decide) ?_
        have k169 := iv_lo v166
        have k170 := iv_hi v166
        refine lv_icmp_le (tgt := 107) hx hb dX12_readPart_92 (by decide) (fun c171 => ?_) (fun c171 => ?_)
        · skip
          have k172 := iv_le (X := v166.toInt) (Y := (1000)) rfl (by decide) c171
          have hlt9 : pp < TT := rC_lt (cd := cd) (by omega)
          refine lv_aload_n hx hb dX12_readPart_107 rfl (lv_at hl 1 rfl) ?_
          refine mx_v (As := []) (rest := []) (n := 0) (d := 2) ⟨hx, hb, hml, hown, hts⟩ (c_X12_leaf l E D G h0 hG0  ff cd va pl TT pp LL bb (by omega) (by omega)) wd_1615 wd_1617 wp_73 wd_13 wd_1618 (by decide +kernel) ⟨by rw [hR]; show 2 + 1 ≤ 3 + 3 * k; omega, by rw [hR]; show 8 + (1 + 11) + 40 * (2) ≤ 40 * (3 + 3 * k); omega⟩ hI hN hK hS hG0 (⟨⟨hkf, hT, hz0, by omega, ⟨a1, hf2, hq3, hA4⟩, ⟨a5, hf6, hq7, hA8⟩, ⟨w17, hg18, by first | omega | decide⟩, ⟨w19, hg20, by first | omega | decide⟩, hg21⟩, ⟨a9, hf10, hq11, hA12⟩, ⟨a13, hf14, hq15, hA16⟩, hPl, ⟨w22, hg23, by first | omega | decide⟩, by omega, by first | omega | (intro; omega)⟩) rfl hl.1 rfl (Nat.le_of_ble_eq_true rfl) dX12_readPart_108 ⟨Nat.zero_le _, Nat.zero_le _⟩ (fun H locs hI hp hS => ?_)
          obtain ⟨pn174, bn175, Ln176, hE, k178, hd177⟩ := hp
          obtain ⟨⟨hkf, hT, hz0, k202, ⟨a179, hf180, hq181, hA182⟩, ⟨a183, hf184, hq185, hA186⟩, ⟨w195, hg196, k203⟩, ⟨w197, hg198, k204⟩, hg199⟩, ⟨a187, hf188, hq189, hA190⟩, ⟨a191, hf192, hq193, hA194⟩, hPl, ⟨w200, hg201, k205⟩, k206, k207⟩ := hE
          have hi208 : bn175.toInt = -1 → bb.toInt = -1 ∧ pn174 = pp + 1 := fun h => by omega
          have hiv9 : IV cd va pl TT XX (2, fl, nk, Ln176) pn174 bn175 := by
            rcases hd177 with ⟨q1, q2, q3, q4⟩ | ⟨q1, q2, q3⟩
            · rw [q3, q4]
              have h9 := hiv.go (fun _ => st_lf (p := pp) (by omega) (by omega) q2)
              rcases h9 with h9 | ⟨h9, _⟩
              · exact Or.inl ⟨q1, h9.2⟩
              · exact absurd (by omega) h9
            · exact hiv.flt (fun _ => st_lf50 (by omega) q2) q1 (Or.inl ⟨by omega, q3⟩)
          refine lv_goto (tgt := 118) hx hb dX12_readPart_111 (by decide) ?_
          have hpost : ∃ (p2 : Nat) (b2 : Int32) (L2 : Nat), RX E D G h0 ff cd va pl TT p2 b2 L2 H ∧ pp ≤ p2 ∧ (b2.toInt = -1 → bb.toInt = -1 ∧ Gr (rC cd TT) 0 dd pp p2) ∧ IV cd va pl TT XX (2, fl, nk, L2) p2 b2 := ⟨pn174, bn175, Ln176, ⟨⟨hkf, hT, hz0, by omega, ⟨a179, hf180, hq181, hA182⟩, ⟨a183, hf184, hq185, hA186⟩, ⟨w195, hg196, by first | omega | decide⟩, ⟨w197, hg198, by first | omega | decide⟩, hg199⟩, ⟨a187, hf188, hq189, hA190⟩, ⟨a191, hf192, hq193, hA194⟩, hPl, ⟨w200, hg201, by first | omega | decide⟩, by omega, by first | omega | (intro; omega)⟩, by omega, fun h => ⟨(hi208 h).1, r0_lf (by omega) (hi208 h).2⟩, hiv9⟩
          rw [hQ]
          exact W.vret hx hb hr (fun t ht hW => ⟨⟨(), rfl, trivial, ⟨by rw [ht]; exact hI, hN.warm hW, va_K.moved hW.alike hK⟩, by first | (rw [ht]; exact hpost) | exact hpost⟩, hS.F ht⟩) hS.2.2 dX12_readPart_118
        · skip
          have k209 := iv_nle (X := v166.toInt) (Y := (1000)) rfl (by decide) c171
          refine lv_iload_n hx hb dX12_readPart_95 rfl (lv_at hl 0 rfl) ?_
          refine lv_bipush (v := 9) hx hb dX12_readPart_96 (by decide) ?_
          refine lv_icmp_lt (tgt := 114) hx hb dX12_readPart_98 (by decide) (fun c210 => ?_) (fun c210 => ?_)
          · skip
            have k211 := iv_lt (X := v39.toInt) (Y := (9)) rfl (by decide) c210
            exfalso; omega
          · skip
            have k212 := iv_nlt (X := v39.toInt) (Y := (9)) rfl (by decide) c210
            refine lv_iload_n hx hb dX12_readPart_101 rfl (lv_at hl 0 rfl) ?_
            refine lv_bipush (v := 17) hx hb dX12_readPart_102 (by decide) ?_
            refine lv_icmp_gt (tgt := 114) hx hb dX12_readPart_104 (by decide) (fun c213 => ?_) (fun c213 => ?_)
            · skip
              have k214 := iv_lt (X := (17)) (Y := v39.toInt) (by decide) rfl c213
              refine lv_aload_n hx hb dX12_readPart_114 rfl (lv_at hl 1 rfl) ?_
              refine mx_v (As := []) (rest := []) (n := 0) (d := 1) ⟨hx, hb, hml, hown, hts⟩ (c_X12_faults l E D G h0 hG0  ff cd va pl TT pp LL bb) wd_1607 wd_1609 wp_71 wd_13 wd_1610 (by decide +kernel) ⟨by rw [hR]; show 1 + 1 ≤ 3 + 3 * k; omega, by rw [hR]; show 8 + (1 + 11) + 40 * (1) ≤ 40 * (3 + 3 * k); omega⟩ hI hN hK hS hG0 (⟨⟨hkf, hT, hz0, by omega, ⟨a1, hf2, hq3, hA4⟩, ⟨a5, hf6, hq7, hA8⟩, ⟨w17, hg18, by first | omega | decide⟩, ⟨w19, hg20, by first | omega | decide⟩, hg21⟩, ⟨a9, hf10, hq11, hA12⟩, ⟨a13, hf14, hq15, hA16⟩, hPl, ⟨w22, hg23, by first | omega | decide⟩, by omega, by first | omega | (intro; omega)⟩) rfl hl.1 rfl (Nat.le_of_ble_eq_true rfl) dX12_readPart_115 ⟨Nat.zero_le _, Nat.zero_le _⟩ (fun H locs hI hp hS => ?_)
              obtain ⟨bn216, hb217, hd218, hE⟩ := hp
              obtain ⟨⟨hkf, hT, hz0, k242, ⟨a219, hf220, hq221, hA222⟩, ⟨a223, hf224, hq225, hA226⟩, ⟨w235, hg236, k243⟩, ⟨w237, hg238, k244⟩, hg239⟩, ⟨a227, hf228, hq229, hA230⟩, ⟨a231, hf232, hq233, hA234⟩, hPl, ⟨w240, hg241, k245⟩, k246, k247⟩ := hE
              have hiv248 : IV cd va pl TT XX (2, fl, nk, LL) pp bn216 := hiv.flt (fun _ => st_E_no (fun h => by omega) (fun h => by rcases h with h | h <;> omega)) hb217 hd218
              have hpost : ∃ (p2 : Nat) (b2 : Int32) (L2 : Nat), RX E D G h0 ff cd va pl TT p2 b2 L2 H ∧ pp ≤ p2 ∧ (b2.toInt = -1 → bb.toInt = -1 ∧ Gr (rC cd TT) 0 dd pp p2) ∧ IV cd va pl TT XX (2, fl, nk, L2) p2 b2 := ⟨pp, bn216, LL, ⟨⟨hkf, hT, hz0, by omega, ⟨a219, hf220, hq221, hA222⟩, ⟨a223, hf224, hq225, hA226⟩, ⟨w235, hg236, by first | omega | decide⟩, ⟨w237, hg238, by first | omega | decide⟩, hg239⟩, ⟨a227, hf228, hq229, hA230⟩, ⟨a231, hf232, hq233, hA234⟩, hPl, ⟨w240, hg241, by first | omega | decide⟩, by omega, by first | omega | (intro; omega)⟩, by omega, fun h => absurd h (by omega), hiv248⟩
              rw [hQ]
              exact W.vret hx hb hr (fun t ht hW => ⟨⟨(), rfl, trivial, ⟨by rw [ht]; exact hI, hN.warm hW, va_K.moved hW.alike hK⟩, by first | (rw [ht]; exact hpost) | exact hpost⟩, hS.F ht⟩) hS.2.2 dX12_readPart_118
            · skip
              have k249 := iv_nlt (X := (17)) (Y := v39.toInt) (by decide) rfl c213
              exfalso; omega
    · skip
      have k250 := iv_eq (X := v39.toInt) (Y := (191)) rfl (by decide) c44
      refine lv_iload_n hx hb dX12_readPart_27 rfl (lv_at hl 2 rfl) ?_
      refine lv_bipush (v := 8) hx hb dX12_readPart_28 (by decide) ?_
      refine lv_icmp_ne (tgt := 37) hx hb dX12_readPart_30 (by decide) (fun c251 => ?_) (fun c251 => ?_)
      · skip
        have k252 := iv_ne (X := x1.toInt) (Y := (8)) rfl (by decide) c251
        refine lv_aload_n hx hb dX12_readPart_37 rfl (lv_at hl 1 rfl) ?_
        refine mr_i (As := []) (rest := []) (n := 0) (d := 0) ⟨hx, hb, hml, hown, hts⟩ (c_X12_fine l E D G s.heap h0 hG0  ff cd TT pp bb ⟨hkf, hT, hz0, by omega, ⟨a1, hf2, hq3, hA4⟩, ⟨a5, hf6, hq7, hA8⟩, ⟨w17, hg18, by first | omega | decide⟩, ⟨w19, hg20, by first | omega | decide⟩, hg21⟩) wd_1591 wd_1593 wp_67 wd_13 wd_1594 (by decide +kernel) ⟨by rw [hR]; show 0 + 1 ≤ 3 + 3 * k; omega, by rw [hR]; show 8 + (1 + 11) + 40 * (0) ≤ 40 * (3 + 3 * k); omega⟩ hI hN hK hS hG0 rfl hl.1 rfl (Nat.le_of_ble_eq_true rfl) dX12_readPart_38 ⟨Nat.zero_le _, Nat.zero_le _⟩ (fun r253 locs hp hS => ?_)
        rcases hp with ⟨rfl, hp⟩ | ⟨rfl, hp⟩
        · skip
          try simp only [rg, not_and, Int.not_le] at hp
          have hp254 := hp
          refine lv_if_ne (tgt := 45) hx hb dX12_readPart_41 (by decide) (fun _ => ?_) (fun c => absurd c (by decide))
          have hlt9 : pp < TT := rC_lt (cd := cd) (by omega)
          refine lv_aload_n hx hb dX12_readPart_45 rfl (lv_at hl 1 rfl) ?_
          refine lv_dup hx hb dX12_readPart_46 rfl ?_
          refine gmI hx hb hts inT12 hown hK hI List.not_mem_nil hG0 16 (by decide) (hts _ (tb_c wd_1249)) rfl rfl dX12_readPart_47 (fun w255 hg256 k257 k258 => ?_)
          obtain rfl := gf.uniq (by decide) hg20 hg256
          refine lv_iconst (v := 1) hx hb dX12_readPart_50 (by decide) ?_
          refine lv_iadd hx hb dX12_readPart_51 ?_
          refine lv_topi (fun v259 e260 => ?_)
          have tv259 : v259.toInt = w19.toInt + (1) := iv_add rfl (by decide) e260 (by omega) (by omega)
          refine pmI (ty := .int) hx hb hts inT12 hown hK hI List.not_mem_nil hG0 hS ⟨_, hG0⟩ 16 (by decide) (by decide) (hts _ (tb_c wd_1249)) rfl rfl (by decide +kernel) rfl rfl rfl (by omega) (by omega) dX12_readPart_52 (fun H locs hI hgP hS => ?_)
          have hg18 := hgP.2.2.1 15 _ (by decide) (by decide) hg18
          have hg21 := hgP.2.2.1 18 _ (by decide) (by decide) hg21
          have hg23 := hgP.2.2.1 17 _ (by decide) (by decide) hg23
          have hg261 := hgP.2.1
          have hf2 := hgP.2.2.2 3 _ (by decide) (by decide) hf2
          have hf6 := hgP.2.2.2 12 _ (by decide) (by decide) hf6
          have hf10 := hgP.2.2.2 13 _ (by decide) (by decide) hf10
          have hf14 := hgP.2.2.2 14 _ (by decide) (by decide) hf14
          have hA4 := va_at.kept hA4 (hgP.1 _ (m_ne hq3 hG0 (by first | decide | (dsimp only; decide))))
          have hA8 := va_at.kept hA8 (hgP.1 _ (m_ne hq7 hG0 (by first | decide | (dsimp only; decide))))
          have hA12 := va_at.kept hA12 (hgP.1 _ (m_ne hq11 hG0 (by first | decide | (dsimp only; decide))))
          have hA16 := va_at.kept hA16 (hgP.1 _ (m_ne hq15 hG0 (by first | decide | (dsimp only; decide))))
          have hiv262 : IV cd va pl TT XX (1, 3 :: fl, nk, LL) (pp + 1) bb := hiv.go (fun hb9 => pd_E_br hlt9 (by omega) (by omega))
          refine lv_aload_n hx hb dX12_readPart_55 rfl (lv_at hl 1 rfl) ?_
          refine lv_iload_n hx hb dX12_readPart_56 rfl (lv_at hl 2 rfl) ?_
          refine lv_iconst (v := 1) hx hb dX12_readPart_57 (by decide) ?_
          refine lv_iadd hx hb dX12_readPart_58 ?_
          refine lv_topi (fun v263 e264 => ?_)
          have tv263 : v263.toInt = x1.toInt + (1) := iv_add rfl (by decide) e264 (by omega) (by omega)
          refine mx_v (As := [.int v263]) (rest := []) (n := 1) (d := (5 + 3 * (k - 1))) ⟨hx, hb, hml, hown, hts⟩ (c_X12_readSum l E D G (k - 1) h0 hG0 v263 ff cd va pl TT (pp + 1) LL bb (dd + 1) (by first | decide | omega) (by omega) (by omega) (3 :: fl) nk XX (by rw [pd_dp3, hdp]) hiv262 (ih (k - 1) (by omega))) wd_1595 wd_1597 wp_68 wd_13 wd_1598 (by decide +kernel) ⟨by rw [hR]; show (5 + 3 * (k - 1)) + 1 ≤ 3 + 3 * k; omega, by rw [hR]; show 8 + (2 + 11) + 40 * ((5 + 3 * (k - 1))) ≤ 40 * (3 + 3 * k); omega⟩ hI hN hK hS hG0 (⟨⟨hkf, hT, hz0, by omega, ⟨a1, hf2, hq3, hA4⟩, ⟨a5, hf6, hq7, hA8⟩, ⟨w17, hg18, by first | omega | decide⟩, ⟨v259, hg261, by first | omega | decide⟩, hg21⟩, ⟨a9, hf10, hq11, hA12⟩, ⟨a13, hf14, hq15, hA16⟩, hPl, ⟨w22, hg23, by first | omega | decide⟩, by omega, by first | omega | (intro; omega)⟩) rfl hl.1 rfl (Nat.le_of_ble_eq_true rfl) dX12_readPart_59 ⟨Nat.zero_le _, Nat.zero_le _⟩ (fun H locs hI hp hS => ?_)
          obtain ⟨pn266, bn267, Ln268, hE, k272, hi269, hiv270, hno271⟩ := hp
          obtain ⟨⟨hkf, hT, hz0, k296, ⟨a273, hf274, hq275, hA276⟩, ⟨a277, hf278, hq279, hA280⟩, ⟨w289, hg290, k297⟩, ⟨w291, hg292, k298⟩, hg293⟩, ⟨a281, hf282, hq283, hA284⟩, ⟨a285, hf286, hq287, hA288⟩, hPl, ⟨w294, hg295, k299⟩, k300, k301⟩ := hE
          refine lv_aload_n hx hb dX12_readPart_62 rfl (lv_at hl 1 rfl) ?_
          refine lv_bipush (v := 93) hx hb dX12_readPart_63 (by decide) ?_
          refine th_cSs (As := [.int 93]) (rest := [.ref h0]) (n := 1) (d := 0) ⟨hx, hb, hml, hown, hts⟩ (c_X12_sign l H 93) wd_1495 wd_1496 wd_13 wd_1497 (by decide +kernel) ⟨by rw [hR]; show 0 + 1 ≤ 3 + 3 * k; omega, by rw [hR]; show 8 + (1 + 11) + 40 * (0) ≤ 40 * (3 + 3 * k); omega⟩ hN hS rfl hl.1 rfl (Nat.le_of_ble_eq_true rfl) dX12_readPart_65 ⟨Nat.zero_le _, Nat.zero_le _⟩ (fun r302 locs hp hS => ?_)
          obtain rfl : r302 = 193 := hp.trans (by decide)
          refine mx_v (As := [.int 193]) (rest := []) (n := 1) (d := 2) ⟨hx, hb, hml, hown, hts⟩ (c_X12_must l E D G h0 hG0 193 ff cd va pl TT pn266 Ln268 bn267 (by first | decide | omega)) wd_1611 wd_1613 wp_72 wd_13 wd_1614 (by decide +kernel) ⟨by rw [hR]; show 2 + 1 ≤ 3 + 3 * k; omega, by rw [hR]; show 8 + (2 + 11) + 40 * (2) ≤ 40 * (3 + 3 * k); omega⟩ hI hN hK hS hG0 (⟨⟨hkf, hT, hz0, by omega, ⟨a273, hf274, hq275, hA276⟩, ⟨a277, hf278, hq279, hA280⟩, ⟨w289, hg290, by first | omega | decide⟩, ⟨w291, hg292, by first | omega | decide⟩, hg293⟩, ⟨a281, hf282, hq283, hA284⟩, ⟨a285, hf286, hq287, hA288⟩, hPl, ⟨w294, hg295, by first | omega | decide⟩, by omega, by first | omega | (intro; omega)⟩) rfl hl.1 rfl (Nat.le_of_ble_eq_true rfl) dX12_readPart_68 ⟨Nat.zero_le _, Nat.zero_le _⟩ (fun H locs hI hp hS => ?_)
          obtain ⟨pn304, bn305, hE, k307, hm306⟩ := hp
          rw [show (193 : Int32).toInt = 193 from by decide] at hm306
          have hi308 := hm306.i
          obtain ⟨⟨hkf, hT, hz0, k332, ⟨a309, hf310, hq311, hA312⟩, ⟨a313, hf314, hq315, hA316⟩, ⟨w325, hg326, k333⟩, ⟨w327, hg328, k334⟩, hg329⟩, ⟨a317, hf318, hq319, hA320⟩, ⟨a321, hf322, hq323, hA324⟩, hPl, ⟨w330, hg331, k335⟩, k336, k337⟩ := hE
          have hiv338 : IV cd va pl TT XX (2, fl, nk, Ln268) pn304 bn305 := IV.must hiv270 hm306 (fun hb9 hc9 => pd_A_br (rC_lt (cd := cd) (by omega)) hc9) (fun hb9 hc9 => pd_A_brno (fun _ => ⟨hno271 hb9, hc9⟩))
          refine lv_goto (tgt := 118) hx hb dX12_readPart_71 (by decide) ?_
          have hpost : ∃ (p2 : Nat) (b2 : Int32) (L2 : Nat), RX E D G h0 ff cd va pl TT p2 b2 L2 H ∧ pp ≤ p2 ∧ (b2.toInt = -1 → bb.toInt = -1 ∧ Gr (rC cd TT) 0 dd pp p2) ∧ IV cd va pl TT XX (2, fl, nk, L2) p2 b2 := ⟨pn304, bn305, Ln268, ⟨⟨hkf, hT, hz0, by omega, ⟨a309, hf310, hq311, hA312⟩, ⟨a313, hf314, hq315, hA316⟩, ⟨w325, hg326, by first | omega | decide⟩, ⟨w327, hg328, by first | omega | decide⟩, hg329⟩, ⟨a317, hf318, hq319, hA320⟩, ⟨a321, hf322, hq323, hA324⟩, hPl, ⟨w330, hg331, by first | omega | decide⟩, by omega, by first | omega | (intro; omega)⟩, by omega, fun h => ⟨by omega, r0_br (by omega) (by omega) (hi269 (hi308 h).1).2 (hi308 h).2.1 (hi308 h).2.2⟩, hiv338⟩
          rw [hQ]
          exact W.vret hx hb hr (fun t ht hW => ⟨⟨(), rfl, trivial, ⟨by rw [ht]; exact hI, hN.warm hW, va_K.moved hW.alike hK⟩, by first | (rw [ht]; exact hpost) | exact hpost⟩, hS.F ht⟩) hS.2.2 dX12_readPart_118
        · skip
          try simp only [rg, not_and, Int.not_le] at hp
          have hp339 := hp
          exfalso; omega
      · skip
        have k340 := iv_eq (X := x1.toInt) (Y := (8)) rfl (by decide) c251
        refine lv_aload_n hx hb dX12_readPart_33 rfl (lv_at hl 1 rfl) ?_
        refine mx_v (As := []) (rest := []) (n := 0) (d := 1) ⟨hx, hb, hml, hown, hts⟩ (c_X12_faults l E D G h0 hG0  ff cd va pl TT pp LL bb) wd_1607 wd_1609 wp_71 wd_13 wd_1610 (by decide +kernel) ⟨by rw [hR]; show 1 + 1 ≤ 3 + 3 * k; omega, by rw [hR]; show 8 + (1 + 11) + 40 * (1) ≤ 40 * (3 + 3 * k); omega⟩ hI hN hK hS hG0 (⟨⟨hkf, hT, hz0, by omega, ⟨a1, hf2, hq3, hA4⟩, ⟨a5, hf6, hq7, hA8⟩, ⟨w17, hg18, by first | omega | decide⟩, ⟨w19, hg20, by first | omega | decide⟩, hg21⟩, ⟨a9, hf10, hq11, hA12⟩, ⟨a13, hf14, hq15, hA16⟩, hPl, ⟨w22, hg23, by first | omega | decide⟩, by omega, by first | omega | (intro; omega)⟩) rfl hl.1 rfl (Nat.le_of_ble_eq_true rfl) dX12_readPart_34 ⟨Nat.zero_le _, Nat.zero_le _⟩ (fun H locs hI hp hS => ?_)
        obtain ⟨bn342, hb343, hd344, hE⟩ := hp
        obtain ⟨⟨hkf, hT, hz0, k368, ⟨a345, hf346, hq347, hA348⟩, ⟨a349, hf350, hq351, hA352⟩, ⟨w361, hg362, k369⟩, ⟨w363, hg364, k370⟩, hg365⟩, ⟨a353, hf354, hq355, hA356⟩, ⟨a357, hf358, hq359, hA360⟩, hPl, ⟨w366, hg367, k371⟩, k372, k373⟩ := hE
        have hiv374 : IV cd va pl TT XX (2, fl, nk, LL) pp bn342 := hiv.flt (fun _ => st_E_no (fun h => by omega) (fun h => by rcases h with h | h <;> omega)) hb343 hd344
        refine lv_aload_n hx hb dX12_readPart_37 rfl (lv_at hl 1 rfl) ?_
        refine mr_i (As := []) (rest := []) (n := 0) (d := 0) ⟨hx, hb, hml, hown, hts⟩ (c_X12_fine l E D G H h0 hG0  ff cd TT pp bn342 ⟨hkf, hT, hz0, by omega, ⟨a345, hf346, hq347, hA348⟩, ⟨a349, hf350, hq351, hA352⟩, ⟨w361, hg362, by first | omega | decide⟩, ⟨w363, hg364, by first | omega | decide⟩, hg365⟩) wd_1591 wd_1593 wp_67 wd_13 wd_1594 (by decide +kernel) ⟨by rw [hR]; show 0 + 1 ≤ 3 + 3 * k; omega, by rw [hR]; show 8 + (1 + 11) + 40 * (0) ≤ 40 * (3 + 3 * k); omega⟩ hI hN hK hS hG0 rfl hl.1 rfl (Nat.le_of_ble_eq_true rfl) dX12_readPart_38 ⟨Nat.zero_le _, Nat.zero_le _⟩ (fun r375 locs hp hS => ?_)
        rcases hp with ⟨rfl, hp⟩ | ⟨rfl, hp⟩
        · skip
          try simp only [rg, not_and, Int.not_le] at hp
          have hp376 := hp
          exfalso; omega
        · skip
          try simp only [rg, not_and, Int.not_le] at hp
          have hp377 := hp
          refine lv_if_ne (tgt := 45) hx hb dX12_readPart_41 (by decide) (fun c => absurd c (by decide)) (fun _ => ?_)
          have hpost : ∃ (p2 : Nat) (b2 : Int32) (L2 : Nat), RX E D G h0 ff cd va pl TT p2 b2 L2 H ∧ pp ≤ p2 ∧ (b2.toInt = -1 → bb.toInt = -1 ∧ Gr (rC cd TT) 0 dd pp p2) ∧ IV cd va pl TT XX (2, fl, nk, L2) p2 b2 := ⟨pp, bn342, LL, ⟨⟨hkf, hT, hz0, by omega, ⟨a345, hf346, hq347, hA348⟩, ⟨a349, hf350, hq351, hA352⟩, ⟨w361, hg362, by first | omega | decide⟩, ⟨w363, hg364, by first | omega | decide⟩, hg365⟩, ⟨a353, hf354, hq355, hA356⟩, ⟨a357, hf358, hq359, hA360⟩, hPl, ⟨w366, hg367, by first | omega | decide⟩, by omega, by first | omega | (intro; omega)⟩, by omega, fun h => absurd h (by omega), hiv374⟩
          rw [hQ]
          exact W.vret hx hb hr (fun t ht hW => ⟨⟨(), rfl, trivial, ⟨by rw [ht]; exact hI, hN.warm hW, va_K.moved hW.alike hK⟩, by first | (rw [ht]; exact hpost) | exact hpost⟩, hS.F ht⟩) hS.2.2 dX12_readPart_44
  · skip
    try simp only [rg, not_and, Int.not_le] at hp
    have hp378 := hp
    refine lv_if_ne (tgt := 8) hx hb dX12_readPart_4 (by decide) (fun c => absurd c (by decide)) (fun _ => ?_)
    have hiv379 : IV cd va pl TT XX (2, fl, nk, LL) pp bb := hiv.bad (by omega)
    have hpost : ∃ (p2 : Nat) (b2 : Int32) (L2 : Nat), RX E D G h0 ff cd va pl TT p2 b2 L2 s.heap ∧ pp ≤ p2 ∧ (b2.toInt = -1 → bb.toInt = -1 ∧ Gr (rC cd TT) 0 dd pp p2) ∧ IV cd va pl TT XX (2, fl, nk, L2) p2 b2 := ⟨pp, bb, LL, ⟨⟨hkf, hT, hz0, by omega, ⟨a1, hf2, hq3, hA4⟩, ⟨a5, hf6, hq7, hA8⟩, ⟨w17, hg18, by first | omega | decide⟩, ⟨w19, hg20, by first | omega | decide⟩, hg21⟩, ⟨a9, hf10, hq11, hA12⟩, ⟨a13, hf14, hq15, hA16⟩, hPl, ⟨w22, hg23, by first | omega | decide⟩, by omega, by first | omega | (intro; omega)⟩, by omega, fun h => absurd h (by omega), hiv379⟩
    rw [hQ]
    exact W.vret hx hb hr (fun t ht hW => ⟨⟨(), rfl, trivial, ⟨by rw [ht]; exact hI, hN.warm hW, va_K.moved hW.alike hK⟩, by first | (rw [ht]; exact hpost) | exact hpost⟩, hS.F ht⟩) hS.2.2 dX12_readPart_7
