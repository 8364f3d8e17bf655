theorem wp_74 : Cond.selects RX12 yX12_readTest yX12_readTest ∈ TB := tv 74 (by decide +kernel) (by decide +kernel)
theorem wd_1619 : (Cond.methodLink RX12 (185 : Nat) yX12_readTest) ∈ TB := tw 1619 (by decide +kernel) (by decide +kernel)
theorem wd_1621 : (Jvm.Cond.instanceMethod yX12_readTest) ∈ TB := tw 1621 (by decide +kernel) (by decide +kernel)
theorem wd_1622 : (Cond.code yX12_readTest cX12_readTest 2 (Option.none : Option Jvm.ClassFile.FieldType)) ∈ TB := tw 1622 (by decide +kernel) (by decide +kernel)
theorem dX12_readPlain_0g : (decode cX12_readPlain 0 = .ok (.iconst 1, 1)) ∧ (decode cX12_readPlain 1 = .ok (.istore_n 2, 1)) ∧ (decode cX12_readPlain 2 = .ok (.iload_n 2, 1)) ∧ (decode cX12_readPlain 3 = .ok (.ifCond .eq 13, 3)) ∧ (decode cX12_readPlain 6 = .ok (.aload_n 0, 1)) ∧ (decode cX12_readPlain 7 = .ok (.bipush 8, 2)) ∧ (decode cX12_readPlain 9 = .ok (.invokevirtual 169, 3)) ∧ (decode cX12_readPlain 12 = .ok (.istore_n 2, 1)) ∧ (decode cX12_readPlain 13 = .ok (.goto (-11), 3)) ∧ (decode cX12_readPlain 16 = .ok (.aload_n 0, 1)) := by decide +kernel
theorem dX12_readPlain_0 : decode cX12_readPlain 0 = .ok (.iconst 1, 1) := dX12_readPlain_0g.1
theorem dX12_readPlain_1 : decode cX12_readPlain 1 = .ok (.istore_n 2, 1) := dX12_readPlain_0g.2.1
theorem dX12_readPlain_2 : decode cX12_readPlain 2 = .ok (.iload_n 2, 1) := dX12_readPlain_0g.2.2.1
theorem dX12_readPlain_3 : decode cX12_readPlain 3 = .ok (.ifCond .eq 13, 3) := dX12_readPlain_0g.2.2.2.1
theorem dX12_readPlain_6 : decode cX12_readPlain 6 = .ok (.aload_n 0, 1) := dX12_readPlain_0g.2.2.2.2.1
theorem dX12_readPlain_7 : decode cX12_readPlain 7 = .ok (.bipush 8, 2) := dX12_readPlain_0g.2.2.2.2.2.1
theorem dX12_readPlain_9 : decode cX12_readPlain 9 = .ok (.invokevirtual 169, 3) := dX12_readPlain_0g.2.2.2.2.2.2.1
theorem dX12_readPlain_12 : decode cX12_readPlain 12 = .ok (.istore_n 2, 1) := dX12_readPlain_0g.2.2.2.2.2.2.2.1
theorem dX12_readPlain_13 : decode cX12_readPlain 13 = .ok (.goto (-11), 3) := dX12_readPlain_0g.2.2.2.2.2.2.2.2.1
theorem dX12_readPlain_16 : decode cX12_readPlain 16 = .ok (.aload_n 0, 1) := dX12_readPlain_0g.2.2.2.2.2.2.2.2.2
theorem dX12_readPlain_17g : (decode cX12_readPlain 17 = .ok (.invokevirtual 162, 3)) ∧ (decode cX12_readPlain 20 = .ok (.ifCond .ne 4, 3)) ∧ (decode cX12_readPlain 23 = .ok (.return_, 1)) ∧ (decode cX12_readPlain 24 = .ok (.aload_n 0, 1)) ∧ (decode cX12_readPlain 25 = .ok (.getfield 43, 3)) ∧ (decode cX12_readPlain 28 = .ok (.aload_n 0, 1)) ∧ (decode cX12_readPlain 29 = .ok (.getfield 166, 3)) ∧ (decode cX12_readPlain 32 = .ok (.iaload, 1)) ∧ (decode cX12_readPlain 33 = .ok (.istore_n 3, 1)) ∧ (decode cX12_readPlain 34 = .ok (.iload_n 3, 1)) := by decide +kernel
theorem dX12_readPlain_17 : decode cX12_readPlain 17 = .ok (.invokevirtual 162, 3) := dX12_readPlain_17g.1
theorem dX12_readPlain_20 : decode cX12_readPlain 20 = .ok (.ifCond .ne 4, 3) := dX12_readPlain_17g.2.1
theorem dX12_readPlain_23 : decode cX12_readPlain 23 = .ok (.return_, 1) := dX12_readPlain_17g.2.2.1
theorem dX12_readPlain_24 : decode cX12_readPlain 24 = .ok (.aload_n 0, 1) := dX12_readPlain_17g.2.2.2.1
theorem dX12_readPlain_25 : decode cX12_readPlain 25 = .ok (.getfield 43, 3) := dX12_readPlain_17g.2.2.2.2.1
theorem dX12_readPlain_28 : decode cX12_readPlain 28 = .ok (.aload_n 0, 1) := dX12_readPlain_17g.2.2.2.2.2.1
theorem dX12_readPlain_29 : decode cX12_readPlain 29 = .ok (.getfield 166, 3) := dX12_readPlain_17g.2.2.2.2.2.2.1
theorem dX12_readPlain_32 : decode cX12_readPlain 32 = .ok (.iaload, 1) := dX12_readPlain_17g.2.2.2.2.2.2.2.1
theorem dX12_readPlain_33 : decode cX12_readPlain 33 = .ok (.istore_n 3, 1) := dX12_readPlain_17g.2.2.2.2.2.2.2.2.1
theorem dX12_readPlain_34 : decode cX12_readPlain 34 = .ok (.iload_n 3, 1) := dX12_readPlain_17g.2.2.2.2.2.2.2.2.2
theorem dX12_readPlain_35g : (decode cX12_readPlain 35 = .ok (.bipush 40, 2)) ∧ (decode cX12_readPlain 37 = .ok (.invokestatic 194, 3)) ∧ (decode cX12_readPlain 40 = .ok (.if_icmp .ne 50, 3)) ∧ (decode cX12_readPlain 43 = .ok (.iload_n 1, 1)) ∧ (decode cX12_readPlain 44 = .ok (.bipush 8, 2)) ∧ (decode cX12_readPlain 46 = .ok (.if_icmp .ne 7, 3)) ∧ (decode cX12_readPlain 49 = .ok (.aload_n 0, 1)) ∧ (decode cX12_readPlain 50 = .ok (.invokevirtual 172, 3)) ∧ (decode cX12_readPlain 53 = .ok (.aload_n 0, 1)) ∧ (decode cX12_readPlain 54 = .ok (.invokevirtual 162, 3)) := by decide +kernel
theorem dX12_readPlain_35 : decode cX12_readPlain 35 = .ok (.bipush 40, 2) := dX12_readPlain_35g.1
theorem dX12_readPlain_37 : decode cX12_readPlain 37 = .ok (.invokestatic 194, 3) := dX12_readPlain_35g.2.1
theorem dX12_readPlain_40 : decode cX12_readPlain 40 = .ok (.if_icmp .ne 50, 3) := dX12_readPlain_35g.2.2.1
theorem dX12_readPlain_43 : decode cX12_readPlain 43 = .ok (.iload_n 1, 1) := dX12_readPlain_35g.2.2.2.1
theorem dX12_readPlain_44 : decode cX12_readPlain 44 = .ok (.bipush 8, 2) := dX12_readPlain_35g.2.2.2.2.1
theorem dX12_readPlain_46 : decode cX12_readPlain 46 = .ok (.if_icmp .ne 7, 3) := dX12_readPlain_35g.2.2.2.2.2.1
theorem dX12_readPlain_49 : decode cX12_readPlain 49 = .ok (.aload_n 0, 1) := dX12_readPlain_35g.2.2.2.2.2.2.1
theorem dX12_readPlain_50 : decode cX12_readPlain 50 = .ok (.invokevirtual 172, 3) := dX12_readPlain_35g.2.2.2.2.2.2.2.1
theorem dX12_readPlain_53 : decode cX12_readPlain 53 = .ok (.aload_n 0, 1) := dX12_readPlain_35g.2.2.2.2.2.2.2.2.1
theorem dX12_readPlain_54 : decode cX12_readPlain 54 = .ok (.invokevirtual 162, 3) := dX12_readPlain_35g.2.2.2.2.2.2.2.2.2
theorem dX12_readPlain_57g : (decode cX12_readPlain 57 = .ok (.ifCond .ne 4, 3)) ∧ (decode cX12_readPlain 60 = .ok (.return_, 1)) ∧ (decode cX12_readPlain 61 = .ok (.aload_n 0, 1)) ∧ (decode cX12_readPlain 62 = .ok (.dup, 1)) ∧ (decode cX12_readPlain 63 = .ok (.getfield 166, 3)) ∧ (decode cX12_readPlain 66 = .ok (.iconst 1, 1)) ∧ (decode cX12_readPlain 67 = .ok (.iadd, 1)) ∧ (decode cX12_readPlain 68 = .ok (.putfield 166, 3)) ∧ (decode cX12_readPlain 71 = .ok (.aload_n 0, 1)) ∧ (decode cX12_readPlain 72 = .ok (.iload_n 1, 1)) := by decide +kernel
theorem dX12_readPlain_57 : decode cX12_readPlain 57 = .ok (.ifCond .ne 4, 3) := dX12_readPlain_57g.1
theorem dX12_readPlain_60 : decode cX12_readPlain 60 = .ok (.return_, 1) := dX12_readPlain_57g.2.1
theorem dX12_readPlain_61 : decode cX12_readPlain 61 = .ok (.aload_n 0, 1) := dX12_readPlain_57g.2.2.1
theorem dX12_readPlain_62 : decode cX12_readPlain 62 = .ok (.dup, 1) := dX12_readPlain_57g.2.2.2.1
theorem dX12_readPlain_63 : decode cX12_readPlain 63 = .ok (.getfield 166, 3) := dX12_readPlain_57g.2.2.2.2.1
theorem dX12_readPlain_66 : decode cX12_readPlain 66 = .ok (.iconst 1, 1) := dX12_readPlain_57g.2.2.2.2.2.1
theorem dX12_readPlain_67 : decode cX12_readPlain 67 = .ok (.iadd, 1) := dX12_readPlain_57g.2.2.2.2.2.2.1
theorem dX12_readPlain_68 : decode cX12_readPlain 68 = .ok (.putfield 166, 3) := dX12_readPlain_57g.2.2.2.2.2.2.2.1
theorem dX12_readPlain_71 : decode cX12_readPlain 71 = .ok (.aload_n 0, 1) := dX12_readPlain_57g.2.2.2.2.2.2.2.2.1
theorem dX12_readPlain_72 : decode cX12_readPlain 72 = .ok (.iload_n 1, 1) := dX12_readPlain_57g.2.2.2.2.2.2.2.2.2
theorem dX12_readPlain_73g : (decode cX12_readPlain 73 = .ok (.iconst 1, 1)) ∧ (decode cX12_readPlain 74 = .ok (.iadd, 1)) ∧ (decode cX12_readPlain 75 = .ok (.invokevirtual 185, 3)) ∧ (decode cX12_readPlain 78 = .ok (.aload_n 0, 1)) ∧ (decode cX12_readPlain 79 = .ok (.bipush 41, 2)) ∧ (decode cX12_readPlain 81 = .ok (.invokestatic 194, 3)) ∧ (decode cX12_readPlain 84 = .ok (.invokevirtual 182, 3)) ∧ (decode cX12_readPlain 87 = .ok (.goto 46, 3)) ∧ (decode cX12_readPlain 90 = .ok (.aload_n 0, 1)) ∧ (decode cX12_readPlain 91 = .ok (.iload_n 1, 1)) := by decide +kernel
theorem dX12_readPlain_73 : decode cX12_readPlain 73 = .ok (.iconst 1, 1) := dX12_readPlain_73g.1
theorem dX12_readPlain_74 : decode cX12_readPlain 74 = .ok (.iadd, 1) := dX12_readPlain_73g.2.1
theorem dX12_readPlain_75 : decode cX12_readPlain 75 = .ok (.invokevirtual 185, 3) := dX12_readPlain_73g.2.2.1
theorem dX12_readPlain_78 : decode cX12_readPlain 78 = .ok (.aload_n 0, 1) := dX12_readPlain_73g.2.2.2.1
theorem dX12_readPlain_79 : decode cX12_readPlain 79 = .ok (.bipush 41, 2) := dX12_readPlain_73g.2.2.2.2.1
theorem dX12_readPlain_81 : decode cX12_readPlain 81 = .ok (.invokestatic 194, 3) := dX12_readPlain_73g.2.2.2.2.2.1
theorem dX12_readPlain_84 : decode cX12_readPlain 84 = .ok (.invokevirtual 182, 3) := dX12_readPlain_73g.2.2.2.2.2.2.1
theorem dX12_readPlain_87 : decode cX12_readPlain 87 = .ok (.goto 46, 3) := dX12_readPlain_73g.2.2.2.2.2.2.2.1
theorem dX12_readPlain_90 : decode cX12_readPlain 90 = .ok (.aload_n 0, 1) := dX12_readPlain_73g.2.2.2.2.2.2.2.2.1
theorem dX12_readPlain_91 : decode cX12_readPlain 91 = .ok (.iload_n 1, 1) := dX12_readPlain_73g.2.2.2.2.2.2.2.2.2
theorem dX12_readPlain_92g : (decode cX12_readPlain 92 = .ok (.invokevirtual 178, 3)) ∧ (decode cX12_readPlain 95 = .ok (.aload_n 0, 1)) ∧ (decode cX12_readPlain 96 = .ok (.bipush 60, 2)) ∧ (decode cX12_readPlain 98 = .ok (.invokestatic 194, 3)) ∧ (decode cX12_readPlain 101 = .ok (.invokevirtual 169, 3)) ∧ (decode cX12_readPlain 104 = .ok (.ifCond .ne 24, 3)) ∧ (decode cX12_readPlain 107 = .ok (.aload_n 0, 1)) ∧ (decode cX12_readPlain 108 = .ok (.bipush 62, 2)) ∧ (decode cX12_readPlain 110 = .ok (.invokestatic 194, 3)) ∧ (decode cX12_readPlain 113 = .ok (.invokevirtual 169, 3)) := by decide +kernel
theorem dX12_readPlain_92 : decode cX12_readPlain 92 = .ok (.invokevirtual 178, 3) := dX12_readPlain_92g.1
theorem dX12_readPlain_95 : decode cX12_readPlain 95 = .ok (.aload_n 0, 1) := dX12_readPlain_92g.2.1
theorem dX12_readPlain_96 : decode cX12_readPlain 96 = .ok (.bipush 60, 2) := dX12_readPlain_92g.2.2.1
theorem dX12_readPlain_98 : decode cX12_readPlain 98 = .ok (.invokestatic 194, 3) := dX12_readPlain_92g.2.2.2.1
theorem dX12_readPlain_101 : decode cX12_readPlain 101 = .ok (.invokevirtual 169, 3) := dX12_readPlain_92g.2.2.2.2.1
theorem dX12_readPlain_104 : decode cX12_readPlain 104 = .ok (.ifCond .ne 24, 3) := dX12_readPlain_92g.2.2.2.2.2.1
theorem dX12_readPlain_107 : decode cX12_readPlain 107 = .ok (.aload_n 0, 1) := dX12_readPlain_92g.2.2.2.2.2.2.1
theorem dX12_readPlain_108 : decode cX12_readPlain 108 = .ok (.bipush 62, 2) := dX12_readPlain_92g.2.2.2.2.2.2.2.1
theorem dX12_readPlain_110 : decode cX12_readPlain 110 = .ok (.invokestatic 194, 3) := dX12_readPlain_92g.2.2.2.2.2.2.2.2.1
theorem dX12_readPlain_113 : decode cX12_readPlain 113 = .ok (.invokevirtual 169, 3) := dX12_readPlain_92g.2.2.2.2.2.2.2.2.2
theorem dX12_readPlain_116g : (decode cX12_readPlain 116 = .ok (.ifCond .ne 12, 3)) ∧ (decode cX12_readPlain 119 = .ok (.aload_n 0, 1)) ∧ (decode cX12_readPlain 120 = .ok (.bipush 61, 2)) ∧ (decode cX12_readPlain 122 = .ok (.invokestatic 194, 3)) ∧ (decode cX12_readPlain 125 = .ok (.invokevirtual 182, 3)) ∧ (decode cX12_readPlain 128 = .ok (.aload_n 0, 1)) ∧ (decode cX12_readPlain 129 = .ok (.iload_n 1, 1)) ∧ (decode cX12_readPlain 130 = .ok (.invokevirtual 178, 3)) ∧ (decode cX12_readPlain 133 = .ok (.return_, 1)) := by decide +kernel
theorem dX12_readPlain_116 : decode cX12_readPlain 116 = .ok (.ifCond .ne 12, 3) := dX12_readPlain_116g.1
theorem dX12_readPlain_119 : decode cX12_readPlain 119 = .ok (.aload_n 0, 1) := dX12_readPlain_116g.2.1
theorem dX12_readPlain_120 : decode cX12_readPlain 120 = .ok (.bipush 61, 2) := dX12_readPlain_116g.2.2.1
theorem dX12_readPlain_122 : decode cX12_readPlain 122 = .ok (.invokestatic 194, 3) := dX12_readPlain_116g.2.2.2.1
theorem dX12_readPlain_125 : decode cX12_readPlain 125 = .ok (.invokevirtual 182, 3) := dX12_readPlain_116g.2.2.2.2.1
theorem dX12_readPlain_128 : decode cX12_readPlain 128 = .ok (.aload_n 0, 1) := dX12_readPlain_116g.2.2.2.2.2.1
theorem dX12_readPlain_129 : decode cX12_readPlain 129 = .ok (.iload_n 1, 1) := dX12_readPlain_116g.2.2.2.2.2.2.1
theorem dX12_readPlain_130 : decode cX12_readPlain 130 = .ok (.invokevirtual 178, 3) := dX12_readPlain_116g.2.2.2.2.2.2.2.1
theorem dX12_readPlain_133 : decode cX12_readPlain 133 = .ok (.return_, 1) := dX12_readPlain_116g.2.2.2.2.2.2.2.2
set_option maxHeartbeats 4000000 in
set_option maxRecDepth 100000 in
theorem c_X12_readPlain (l : Launch) (E : Nat → Nat) (D : va_G) (G : th_G) (k : Nat) : ∀ (h0 : Nat) (hG0 : G h0 = some (10, 0)) (x1 : Int32) (ff cd va pl : Nat → Int32) (TT pp LL : Nat) (bb : Int32) (dd : Nat) (hdd : x1.toInt = (dd : Int)) (hd8 : dd ≤ 8) (hk : 8 ≤ dd + k) (fl : List Nat) (nk : Nat) (XX : Nat × Bool) (hdp : pd_dp (fl) = dd) (hiv : IV cd va pl TT XX (3, fl, nk, LL) pp bb), Met l yX12_readPlain (tb (.code yX12_readPlain cX12_readPlain 4 none)) (rm (30 + 3 * k)) (va_Pc [.ref h0, .int x1] (PX E D G (fun H => RX E D G h0 ff cd va pl TT pp bb LL H))) (QXv E D G (fun H => ∃ (p2 : Nat) (b2 : Int32) (L2 : Nat), RX E D G h0 ff cd va pl TT p2 b2 L2 H ∧ pp ≤ p2 ∧ (b2.toInt = -1 → bb.toInt = -1 ∧ Gr (rC cd TT) 3 dd pp p2) ∧ IV cd va pl TT XX (4, fl, nk, L2) p2 b2)) 0 0 (th_A G) := by
  induction k using Nat.strongRecOn with
  | ind k ih =>
  intro h0 hG0 x1 ff cd va pl TT pp LL bb dd hdd hd8 hk fl nk XX hdp hiv
  refine Met.ofW (cc := cX12_readPlain) (maxL := 4) (ret := none) (by decide) rfl ?_
  intro p e s m args below meth c s₁ B hml hv
  obtain ⟨hav, ⟨hI, hN, hK⟩, hX⟩ := hv
  have hx := B.exec
  have hb := B.bytes
  have hr := B.returns
  have hts := atoms_spec (ws := tb (.code yX12_readPlain cX12_readPlain 4 none)) B.pre
  have hown : s.vm.findClass RX12 = some m.cls := findClass_of_methodNamed B.named
  have hlocks := B.notSynchronized
  have hS : va_S (th_A G) s.heap s.heap [] := va_S.rf
  have hl := lv_entry ([.ref h0, .int x1]) (n := 4) (Nat.le_of_ble_eq_true rfl)
  rw [show entryFrame m args 4 = entryFrame m ([.ref h0, .int x1] : List Value).toArray 4 from by rw [hav], lg_entry_eq]
  generalize (lg_sl ([.ref h0, .int x1]) ++ List.replicate (4 - (lg_sl ([.ref h0, .int x1])).length) Slot.unset).toArray = ls at hl ⊢
  have hl : lv_has ls 4 [(0, .ref h0), (1, .int x1)] := hl
  generalize hR : (headSpec (tb (.code yX12_readPlain cX12_readPlain 4 none)) (rm (30 + 3 * k))).room = R
  have hR := hR.symm
  generalize hQ : MQ below (QXv E D G (fun H => ∃ (p2 : Nat) (b2 : Int32) (L2 : Nat), RX E D G h0 ff cd va pl TT p2 b2 L2 H ∧ pp ≤ p2 ∧ (b2.toInt = -1 → bb.toInt = -1 ∧ Gr (rC cd TT) 3 dd pp p2) ∧ IV cd va pl TT XX (4, fl, nk, L2) p2 b2)) args s 0 0 (th_A G) = QF
  have hQ := hQ.symm
  obtain ⟨⟨hkf, hT, hz0, k24, ⟨a1, hf2, hq3, hA4⟩, ⟨a5, hf6, hq7, hA8⟩, ⟨w17, hg18, k25⟩, ⟨w19, hg20, k26⟩, hg21⟩, ⟨a9, hf10, hq11, hA12⟩, ⟨a13, hf14, hq15, hA16⟩, hPl, ⟨w22, hg23, k27⟩, k28, k29⟩ := hX
  have hInv0 : bb.toInt = -1 → bb.toInt = -1 ∧ ∀ r, Gr (rC cd TT) 3 dd pp r → Gr (rC cd TT) 3 dd pp r := fun h => ⟨h, fun r hr => hr⟩
  have J_2 : ∀ (nn : Nat) (H : Heap) (locs : List Loc) (ls : Array Slot) (v4123 : Int32) (p1 : Nat) (b1 : Int32) (L1 : Nat), (Int.toNat (2 * (((TT : Nat) : Int) - ((p1 : Nat) : Int)) + v4123.toInt) = nn) → lv_has ls 4 [(2, .int v4123), (0, .ref h0), (1, .int x1)] → ((0 : Int) ≤ v4123.toInt ∧ v4123.toInt ≤ 1) → ((0 : Int) ≤ x1.toInt ∧ x1.toInt ≤ 8) → (pp ≤ p1) → (v4123.toInt = 1 ∨ b1.toInt ≠ -1 ∨ rC cd TT p1 ≠ 8) → (b1.toInt = -1 → bb.toInt = -1 ∧ ∀ r, Gr (rC cd TT) 3 dd p1 r → Gr (rC cd TT) 3 dd pp r) → (IV cd va pl TT XX (3, fl, nk, L1) p1 b1) → (RX E D G h0 ff cd va pl TT p1 b1 L1 H) → th_I (okM E) D G [] H → va_S (th_A G) s.heap H locs → W p l e R s m args below meth c H locs 0 0 QF (F0 m 2 ls []) := by
    intro nn
    induction nn using Nat.strongRecOn with
    | ind nn ih_2 =>
      intro H locs ls v4123 p1 b1 L1 hm hl k4124 k4125 hle1 hno hInv hiv1 hE hI hS
      obtain ⟨⟨hkf, hT, hz0, k4149, ⟨a4126, hf4127, hq4128, hA4129⟩, ⟨a4130, hf4131, hq4132, hA4133⟩, ⟨w4142, hg4143, k4150⟩, ⟨w4144, hg4145, k4151⟩, hg4146⟩, ⟨a4134, hf4135, hq4136, hA4137⟩, ⟨a4138, hf4139, hq4140, hA4141⟩, hPl, ⟨w4147, hg4148, k4152⟩, k4153, k4154⟩ := hE
      refine lv_iload_n hx hb dX12_readPlain_2 rfl (lv_at hl 0 rfl) ?_
      refine lv_if_eq (tgt := 16) hx hb dX12_readPlain_3 (by decide) (fun c4155 => ?_) (fun c4155 => ?_)
      · skip
        have k4156 := iv_eq (X := v4123.toInt) (Y := (0)) rfl (by decide) c4155
        refine lv_aload_n hx hb dX12_readPlain_16 rfl (lv_at hl 1 rfl) ?_
        refine mr_i (As := []) (rest := []) (n := 0) (d := 0) ⟨hx, hb, hml, hown, hts⟩ (c_X12_fine l E D G H h0 hG0  ff cd TT p1 b1 ⟨hkf, hT, hz0, by omega, ⟨a4126, hf4127, hq4128, hA4129⟩, ⟨a4130, hf4131, hq4132, hA4133⟩, ⟨w4142, hg4143, by first | omega | decide⟩, ⟨w4144, hg4145, by first | omega | decide⟩, hg4146⟩) wd_1591 wd_1593 wp_67 wd_13 wd_1594 (by decide +kernel) ⟨by rw [hR]; show 0 + 1 ≤ 30 + 3 * k; omega, by rw [hR]; show 8 + (1 + 11) + 40 * (0) ≤ 40 * (30 + 3 * k); omega⟩ hI hN hK hS hG0 rfl hl.1 rfl (Nat.le_of_ble_eq_true rfl) dX12_readPlain_17 ⟨Nat.zero_le _, Nat.zero_le _⟩ (fun r4157 locs hp hS => ?_)
        rcases hp with ⟨rfl, hp⟩ | ⟨rfl, hp⟩
        · skip
          try simp only [rg, not_and, Int.not_le] at hp
          have hp4158 := hp
          refine lv_if_ne (tgt := 24) hx hb dX12_readPlain_20 (by decide) (fun _ => ?_) (fun c => absurd c (by decide))
          refine lv_aload_n hx hb dX12_readPlain_24 rfl (lv_at hl 1 rfl) ?_
          refine gmA hx hb hts inT12 hown hK hI List.not_mem_nil hG0 12 (by decide) (hts _ (tb_c wd_1245)) rfl rfl dX12_readPlain_25 (fun a4159 hq4160 hf4161 => ?_)
          obtain rfl := fr.uniq (by decide) hf4131 hf4161
          refine lv_aload_n hx hb dX12_readPlain_28 rfl (lv_at hl 1 rfl) ?_
          refine gmI hx hb hts inT12 hown hK hI List.not_mem_nil hG0 16 (by decide) (hts _ (tb_c wd_1249)) rfl rfl dX12_readPlain_29 (fun w4162 hg4163 k4164 k4165 => ?_)
          obtain rfl := gf.uniq (by decide) hg4145 hg4163
          refine th_iald hx hb hK hA4133 0 rfl (iv_in (X := w4144.toInt) rfl (by omega) (by omega)) dX12_readPlain_32 (fun v4166 e4167 => ?_)
          have hrc := rC_rd (TT := TT) e4167 (j := p1) (by omega) (by omega) hz0
          refine lv_istore_n (lv' := [(3, .int v4166), (2, .int v4123), (0, .ref h0), (1, .int x1)]) hx hb dX12_readPlain_33 rfl hl (by decide) rfl (fun ls hl => ?_)
          refine lv_iload_n hx hb dX12_readPlain_34 rfl (lv_at hl 0 rfl) ?_
          refine lv_bipush (v := 40) hx hb dX12_readPlain_35 (by decide) ?_
          refine th_cSs (As := [.int 40]) (rest := [.int v4166]) (n := 1) (d := 0) ⟨hx, hb, hml, hown, hts⟩ (c_X12_sign l H 40) wd_1495 wd_1496 wd_13 wd_1497 (by decide +kernel) ⟨by rw [hR]; show 0 + 1 ≤ 30 + 3 * k; omega, by rw [hR]; show 8 + (1 + 11) + 40 * (0) ≤ 40 * (30 + 3 * k); omega⟩ hN hS rfl hl.1 rfl (Nat.le_of_ble_eq_true rfl) dX12_readPlain_37 ⟨Nat.zero_le _, Nat.zero_le _⟩ (fun r4168 locs hp hS => ?_)
          obtain rfl : r4168 = 140 := hp.trans (by decide)
          have k4169 := iv_lo v4166
          have k4170 := iv_hi v4166
          refine lv_icmp_ne (tgt := 90) hx hb dX12_readPlain_40 (by decide) (fun c4171 => ?_) (fun c4171 => ?_)
          · skip
            have k4172 := iv_ne (X := v4166.toInt) (Y := (140)) rfl (by decide) c4171
            have hiv4173 : IV cd va pl TT XX (1, 1 :: fl, nk, L1) p1 b1 := hiv1.go (fun hb9 => pd_Q_E (fun _ => ⟨by omega, by omega⟩))
            refine lv_aload_n hx hb dX12_readPlain_90 rfl (lv_at hl 2 rfl) ?_
            refine lv_iload_n hx hb dX12_readPlain_91 rfl (lv_at hl 3 rfl) ?_
            refine mx_v (As := [.int x1]) (rest := []) (n := 1) (d := 29) ⟨hx, hb, hml, hown, hts⟩ (c_X12_readSum l E D G 8 h0 hG0 x1 ff cd va pl TT p1 L1 b1 dd (by first | decide | omega) (by omega) (by omega) (1 :: fl) nk XX (by rw [pd_dp1, hdp]) hiv4173 (c_X12_readPart l E D G 8)) wd_1595 wd_1597 wp_68 wd_13 wd_1598 (by decide +kernel) ⟨by rw [hR]; show 29 + 1 ≤ 30 + 3 * k; omega, by rw [hR]; show 8 + (2 + 11) + 40 * (29) ≤ 40 * (30 + 3 * k); omega⟩ hI hN hK hS hG0 (⟨⟨hkf, hT, hz0, by omega, ⟨a4126, hf4127, hq4128, hA4129⟩, ⟨a4130, hf4131, hq4132, hA4133⟩, ⟨w4142, hg4143, by first | omega | decide⟩, ⟨w4144, hg4145, by first | omega | decide⟩, hg4146⟩, ⟨a4134, hf4135, hq4136, hA4137⟩, ⟨a4138, hf4139, hq4140, hA4141⟩, hPl, ⟨w4147, hg4148, by first | omega | decide⟩, by omega, by first | omega | (intro; omega)⟩) rfl hl.1 rfl (Nat.le_of_ble_eq_true rfl) dX12_readPlain_92 ⟨Nat.zero_le _, Nat.zero_le _⟩ (fun H locs hI hp hS => ?_)
            obtain ⟨pn4175, bn4176, Ln4177, hE, k4181, hi4178, hiv4179, hno4180⟩ := hp
            obtain ⟨⟨hkf, hT, hz0, k4205, ⟨a4182, hf4183, hq4184, hA4185⟩, ⟨a4186, hf4187, hq4188, hA4189⟩, ⟨w4198, hg4199, k4206⟩, ⟨w4200, hg4201, k4207⟩, hg4202⟩, ⟨a4190, hf4191, hq4192, hA4193⟩, ⟨a4194, hf4195, hq4196, hA4197⟩, hPl, ⟨w4203, hg4204, k4208⟩, k4209, k4210⟩ := hE
            refine lv_aload_n hx hb dX12_readPlain_95 rfl (lv_at hl 2 rfl) ?_
            refine lv_bipush (v := 60) hx hb dX12_readPlain_96 (by decide) ?_
            refine th_cSs (As := [.int 60]) (rest := [.ref h0]) (n := 1) (d := 0) ⟨hx, hb, hml, hown, hts⟩ (c_X12_sign l H 60) wd_1495 wd_1496 wd_13 wd_1497 (by decide +kernel) ⟨by rw [hR]; show 0 + 1 ≤ 30 + 3 * k; omega, by rw [hR]; show 8 + (1 + 11) + 40 * (0) ≤ 40 * (30 + 3 * k); omega⟩ hN hS rfl hl.1 rfl (Nat.le_of_ble_eq_true rfl) dX12_readPlain_98 ⟨Nat.zero_le _, Nat.zero_le _⟩ (fun r4211 locs hp hS => ?_)
            obtain rfl : r4211 = 160 := hp.trans (by decide)
            refine mx_i (As := [.int 160]) (rest := []) (n := 1) (d := 1) ⟨hx, hb, hml, hown, hts⟩ (c_X12_takes0 l E D G h0 hG0 160 ff cd va pl TT pn4175 Ln4177 bn4176 (by first | decide | omega)) wd_1587 wd_1589 wp_66 wd_13 wd_1590 (by decide +kernel) ⟨by rw [hR]; show 1 + 1 ≤ 30 + 3 * k; omega, by rw [hR]; show 8 + (3 + 11) + 40 * (1) ≤ 40 * (30 + 3 * k); omega⟩ hI hN hK hS hG0 (⟨⟨hkf, hT, hz0, by omega, ⟨a4182, hf4183, hq4184, hA4185⟩, ⟨a4186, hf4187, hq4188, hA4189⟩, ⟨w4198, hg4199, by first | omega | decide⟩, ⟨w4200, hg4201, by first | omega | decide⟩, hg4202⟩, ⟨a4190, hf4191, hq4192, hA4193⟩, ⟨a4194, hf4195, hq4196, hA4197⟩, hPl, ⟨w4203, hg4204, by first | omega | decide⟩, by omega, by first | omega | (intro; omega)⟩) rfl hl.1 rfl (Nat.le_of_ble_eq_true rfl) dX12_readPlain_101 ⟨Nat.zero_le _, Nat.zero_le _⟩ (fun r4212 H locs hI hp hS => ?_)
            rcases hp with ⟨rfl, hp⟩ | ⟨rfl, hp⟩
            · skip
              try simp only [rg, not_and, Int.not_le] at hp
              have hp4213 := hp
              obtain ⟨hb4216, hc4214, k4215, hE⟩ := hp4213
              have hp4213 : True := trivial
              rw [show (160 : Int32).toInt = 160 from by decide] at hc4214
              obtain ⟨⟨hkf, hT, hz0, k4240, ⟨a4217, hf4218, hq4219, hA4220⟩, ⟨a4221, hf4222, hq4223, hA4224⟩, ⟨w4233, hg4234, k4241⟩, ⟨w4235, hg4236, k4242⟩, hg4237⟩, ⟨a4225, hf4226, hq4227, hA4228⟩, ⟨a4229, hf4230, hq4231, hA4232⟩, hPl, ⟨w4238, hg4239, k4243⟩, k4244, k4245⟩ := hE
              have hiv4246 : IV cd va pl TT XX (1, 2 :: fl, nk, Ln4177) (pn4175 + 1) bn4176 := hiv4179.go (fun hb9 => pd_A_cm k4215 (by omega))
              try rw [show (160 : Int32).toInt = 160 from by decide] at hp4213
              refine lv_if_ne (tgt := 128) hx hb dX12_readPlain_104 (by decide) (fun _ => ?_) (fun c => absurd c (by decide))
              refine lv_aload_n hx hb dX12_readPlain_128 rfl (lv_at hl 2 rfl) ?_
              refine lv_iload_n hx hb dX12_readPlain_129 rfl (lv_at hl 3 rfl) ?_
              refine mx_v (As := [.int x1]) (rest := []) (n := 1) (d := 29) ⟨hx, hb, hml, hown, hts⟩ (c_X12_readSum l E D G 8 h0 hG0 x1 ff cd va pl TT (pn4175 + 1) Ln4177 bn4176 dd (by first | decide | omega) (by omega) (by omega) (2 :: fl) nk XX (by rw [pd_dp2, hdp]) hiv4246 (c_X12_readPart l E D G 8)) wd_1595 wd_1597 wp_68 wd_13 wd_1598 (by decide +kernel) ⟨by rw [hR]; show 29 + 1 ≤ 30 + 3 * k; omega, by rw [hR]; show 8 + (2 + 11) + 40 * (29) ≤ 40 * (30 + 3 * k); omega⟩ hI hN hK hS hG0 (⟨⟨hkf, hT, hz0, by omega, ⟨a4217, hf4218, hq4219, hA4220⟩, ⟨a4221, hf4222, hq4223, hA4224⟩, ⟨w4233, hg4234, by first | omega | decide⟩, ⟨w4235, hg4236, by first | omega | decide⟩, hg4237⟩, ⟨a4225, hf4226, hq4227, hA4228⟩, ⟨a4229, hf4230, hq4231, hA4232⟩, hPl, ⟨w4238, hg4239, by first | omega | decide⟩, by omega, by first | omega | (intro; omega)⟩) rfl hl.1 rfl (Nat.le_of_ble_eq_true rfl) dX12_readPlain_130 ⟨Nat.zero_le _, Nat.zero_le _⟩ (fun H locs hI hp hS => ?_)
              obtain ⟨pn4248, bn4249, Ln4250, hE, k4254, hi4251, hiv4252, hno4253⟩ := hp
              obtain ⟨⟨hkf, hT, hz0, k4278, ⟨a4255, hf4256, hq4257, hA4258⟩, ⟨a4259, hf4260, hq4261, hA4262⟩, ⟨w4271, hg4272, k4279⟩, ⟨w4273, hg4274, k4280⟩, hg4275⟩, ⟨a4263, hf4264, hq4265, hA4266⟩, ⟨a4267, hf4268, hq4269, hA4270⟩, hPl, ⟨w4276, hg4277, k4281⟩, k4282, k4283⟩ := hE
              have hiv4284 : IV cd va pl TT XX (4, fl, nk, Ln4250) pn4248 bn4249 := hiv4252.go (fun hb9 => pd_A_rt (fun _ => hno4253 hb9))
              have hpost : ∃ (p2 : Nat) (b2 : Int32) (L2 : Nat), RX E D G h0 ff cd va pl TT p2 b2 L2 H ∧ pp ≤ p2 ∧ (b2.toInt = -1 → bb.toInt = -1 ∧ Gr (rC cd TT) 3 dd pp p2) ∧ IV cd va pl TT XX (4, fl, nk, L2) p2 b2 := ⟨pn4248, bn4249, Ln4250, ⟨⟨hkf, hT, hz0, by omega, ⟨a4255, hf4256, hq4257, hA4258⟩, ⟨a4259, hf4260, hq4261, hA4262⟩, ⟨w4271, hg4272, by first | omega | decide⟩, ⟨w4273, hg4274, by first | omega | decide⟩, hg4275⟩, ⟨a4263, hf4264, hq4265, hA4266⟩, ⟨a4267, hf4268, hq4269, hA4270⟩, hPl, ⟨w4276, hg4277, by first | omega | decide⟩, by omega, by first | omega | (intro; omega)⟩, by omega, fun h => ⟨(hInv (by omega)).1, r3_x (hInv (by omega)).2 (by omega) (by omega) (hi4178 hb4216).2 (by omega) (hi4251 h).2⟩, hiv4284⟩
              rw [hQ]
              exact W.vret hx hb hr (fun t ht hW => ⟨⟨(), rfl, trivial, ⟨by rw [ht]; exact hI, hN.warm hW, va_K.moved hW.alike hK⟩, by first | (rw [ht]; exact hpost) | exact hpost⟩, hS.F ht⟩) hS.2.2 dX12_readPlain_133
            · skip
              try simp only [rg, not_and, Int.not_le] at hp
              have hp4285 := hp
              obtain ⟨hc4286, hE⟩ := hp4285
              have hp4285 : True := trivial
              rw [show (160 : Int32).toInt = 160 from by decide] at hc4286
              obtain ⟨⟨hkf, hT, hz0, k4311, ⟨a4288, hf4289, hq4290, hA4291⟩, ⟨a4292, hf4293, hq4294, hA4295⟩, ⟨w4304, hg4305, k4312⟩, ⟨w4306, hg4307, k4313⟩, hg4308⟩, ⟨a4296, hf4297, hq4298, hA4299⟩, ⟨a4300, hf4301, hq4302, hA4303⟩, hPl, ⟨w4309, hg4310, k4314⟩, k4315, k4316⟩ := hE
              try rw [show (160 : Int32).toInt = 160 from by decide] at hp4285
              refine lv_if_ne (tgt := 128) hx hb dX12_readPlain_104 (by decide) (fun c => absurd c (by decide)) (fun _ => ?_)
              refine lv_aload_n hx hb dX12_readPlain_107 rfl (lv_at hl 2 rfl) ?_
              refine lv_bipush (v := 62) hx hb dX12_readPlain_108 (by decide) ?_
              refine th_cSs (As := [.int 62]) (rest := [.ref h0]) (n := 1) (d := 0) ⟨hx, hb, hml, hown, hts⟩ (c_X12_sign l H 62) wd_1495 wd_1496 wd_13 wd_1497 (by decide +kernel) ⟨by rw [hR]; show 0 + 1 ≤ 30 + 3 * k; omega, by rw [hR]; show 8 + (1 + 11) + 40 * (0) ≤ 40 * (30 + 3 * k); omega⟩ hN hS rfl hl.1 rfl (Nat.le_of_ble_eq_true rfl) dX12_readPlain_110 ⟨Nat.zero_le _, Nat.zero_le _⟩ (fun r4317 locs hp hS => ?_)
              obtain rfl : r4317 = 162 := hp.trans (by decide)
              refine mx_i (As := [.int 162]) (rest := []) (n := 1) (d := 1) ⟨hx, hb, hml, hown, hts⟩ (c_X12_takes0 l E D G h0 hG0 162 ff cd va pl TT pn4175 Ln4177 bn4176 (by first | decide | omega)) wd_1587 wd_1589 wp_66 wd_13 wd_1590 (by decide +kernel) ⟨by rw [hR]; show 1 + 1 ≤ 30 + 3 * k; omega, by rw [hR]; show 8 + (3 + 11) + 40 * (1) ≤ 40 * (30 + 3 * k); omega⟩ hI hN hK hS hG0 (⟨⟨hkf, hT, hz0, by omega, ⟨a4288, hf4289, hq4290, hA4291⟩, ⟨a4292, hf4293, hq4294, hA4295⟩, ⟨w4304, hg4305, by first | omega | decide⟩, ⟨w4306, hg4307, by first | omega | decide⟩, hg4308⟩, ⟨a4296, hf4297, hq4298, hA4299⟩, ⟨a4300, hf4301, hq4302, hA4303⟩, hPl, ⟨w4309, hg4310, by first | omega | decide⟩, by omega, by first | omega | (intro; omega)⟩) rfl hl.1 rfl (Nat.le_of_ble_eq_true rfl) dX12_readPlain_113 ⟨Nat.zero_le _, Nat.zero_le _⟩ (fun r4318 H locs hI hp hS => ?_)
              rcases hp with ⟨rfl, hp⟩ | ⟨rfl, hp⟩
              · skip
                try simp only [rg, not_and, Int.not_le] at hp
                have hp4319 := hp
                obtain ⟨hb4322, hc4320, k4321, hE⟩ := hp4319
                have hp4319 : True := trivial
                rw [show (162 : Int32).toInt = 162 from by decide] at hc4320
                obtain ⟨⟨hkf, hT, hz0, k4346, ⟨a4323, hf4324, hq4325, hA4326⟩, ⟨a4327, hf4328, hq4329, hA4330⟩, ⟨w4339, hg4340, k4347⟩, ⟨w4341, hg4342, k4348⟩, hg4343⟩, ⟨a4331, hf4332, hq4333, hA4334⟩, ⟨a4335, hf4336, hq4337, hA4338⟩, hPl, ⟨w4344, hg4345, k4349⟩, k4350, k4351⟩ := hE
                have hiv4352 : IV cd va pl TT XX (1, 2 :: fl, nk, Ln4177) (pn4175 + 1) bn4176 := hiv4179.go (fun hb9 => pd_A_cm k4321 (by omega))
                try rw [show (162 : Int32).toInt = 162 from by decide] at hp4319
                refine lv_if_ne (tgt := 128) hx hb dX12_readPlain_116 (by decide) (fun _ => ?_) (fun c => absurd c (by decide))
                refine lv_aload_n hx hb dX12_readPlain_128 rfl (lv_at hl 2 rfl) ?_
                refine lv_iload_n hx hb dX12_readPlain_129 rfl (lv_at hl 3 rfl) ?_
                refine mx_v (As := [.int x1]) (rest := []) (n := 1) (d := 29) ⟨hx, hb, hml, hown, hts⟩ (c_X12_readSum l E D G 8 h0 hG0 x1 ff cd va pl TT (pn4175 + 1) Ln4177 bn4176 dd (by first | decide | omega) (by omega) (by omega) (2 :: fl) nk XX (by rw [pd_dp2, hdp]) hiv4352 (c_X12_readPart l E D G 8)) wd_1595 wd_1597 wp_68 wd_13 wd_1598 (by decide +kernel) ⟨by rw [hR]; show 29 + 1 ≤ 30 + 3 * k; omega, by rw [hR]; show 8 + (2 + 11) + 40 * (29) ≤ 40 * (30 + 3 * k); omega⟩ hI hN hK hS hG0 (⟨⟨hkf, hT, hz0, by omega, ⟨a4323, hf4324, hq4325, hA4326⟩, ⟨a4327, hf4328, hq4329, hA4330⟩, ⟨w4339, hg4340, by first | omega | decide⟩, ⟨w4341, hg4342, by first | omega | decide⟩, hg4343⟩, ⟨a4331, hf4332, hq4333, hA4334⟩, ⟨a4335, hf4336, hq4337, hA4338⟩, hPl, ⟨w4344, hg4345, by first | omega | decide⟩, by omega, by first | omega | (intro; omega)⟩) rfl hl.1 rfl (Nat.le_of_ble_eq_true rfl) dX12_readPlain_130 ⟨Nat.zero_le _, Nat.zero_le _⟩ (fun H locs hI hp hS => ?_)
                obtain ⟨pn4354, bn4355, Ln4356, hE, k4360, hi4357, hiv4358, hno4359⟩ := hp
                obtain ⟨⟨hkf, hT, hz0, k4384, ⟨a4361, hf4362, hq4363, hA4364⟩, ⟨a4365, hf4366, hq4367, hA4368⟩, ⟨w4377, hg4378, k4385⟩, ⟨w4379, hg4380, k4386⟩, hg4381⟩, ⟨a4369, hf4370, hq4371, hA4372⟩, ⟨a4373, hf4374, hq4375, hA4376⟩, hPl, ⟨w4382, hg4383, k4387⟩, k4388, k4389⟩ := hE
                have hiv4390 : IV cd va pl TT XX (4, fl, nk, Ln4356) pn4354 bn4355 := hiv4358.go (fun hb9 => pd_A_rt (fun _ => hno4359 hb9))
                have hpost : ∃ (p2 : Nat) (b2 : Int32) (L2 : Nat), RX E D G h0 ff cd va pl TT p2 b2 L2 H ∧ pp ≤ p2 ∧ (b2.toInt = -1 → bb.toInt = -1 ∧ Gr (rC cd TT) 3 dd pp p2) ∧ IV cd va pl TT XX (4, fl, nk, L2) p2 b2 := ⟨pn4354, bn4355, Ln4356, ⟨⟨hkf, hT, hz0, by omega, ⟨a4361, hf4362, hq4363, hA4364⟩, ⟨a4365, hf4366, hq4367, hA4368⟩, ⟨w4377, hg4378, by first | omega | decide⟩, ⟨w4379, hg4380, by first | omega | decide⟩, hg4381⟩, ⟨a4369, hf4370, hq4371, hA4372⟩, ⟨a4373, hf4374, hq4375, hA4376⟩, hPl, ⟨w4382, hg4383, by first | omega | decide⟩, by omega, by first | omega | (intro; omega)⟩, by omega, fun h => ⟨(hInv (by omega)).1, r3_x (hInv (by omega)).2 (by omega) (by omega) (hi4178 hb4322).2 (by omega) (hi4357 h).2⟩, hiv4390⟩
                rw [hQ]
                exact W.vret hx hb hr (fun t ht hW => ⟨⟨(), rfl, trivial, ⟨by rw [ht]; exact hI, hN.warm hW, va_K.moved hW.alike hK⟩, by first | (rw [ht]; exact hpost) | exact hpost⟩, hS.F ht⟩) hS.2.2 dX12_readPlain_133
              · skip
                try simp only [rg, not_and, Int.not_le] at hp
                have hp4391 := hp
                obtain ⟨hc4392, hE⟩ := hp4391
                have hp4391 : True := trivial
                rw [show (162 : Int32).toInt = 162 from by decide] at hc4392
                obtain ⟨⟨hkf, hT, hz0, k4417, ⟨a4394, hf4395, hq4396, hA4397⟩, ⟨a4398, hf4399, hq4400, hA4401⟩, ⟨w4410, hg4411, k4418⟩, ⟨w4412, hg4413, k4419⟩, hg4414⟩, ⟨a4402, hf4403, hq4404, hA4405⟩, ⟨a4406, hf4407, hq4408, hA4409⟩, hPl, ⟨w4415, hg4416, k4420⟩, k4421, k4422⟩ := hE
                try rw [show (162 : Int32).toInt = 162 from by decide] at hp4391
                refine lv_if_ne (tgt := 128) hx hb dX12_readPlain_116 (by decide) (fun c => absurd c (by decide)) (fun _ => ?_)
                refine lv_aload_n hx hb dX12_readPlain_119 rfl (lv_at hl 2 rfl) ?_
                refine lv_bipush (v := 61) hx hb dX12_readPlain_120 (by decide) ?_
                refine th_cSs (As := [.int 61]) (rest := [.ref h0]) (n := 1) (d := 0) ⟨hx, hb, hml, hown, hts⟩ (c_X12_sign l H 61) wd_1495 wd_1496 wd_13 wd_1497 (by decide +kernel) ⟨by rw [hR]; show 0 + 1 ≤ 30 + 3 * k; omega, by rw [hR]; show 8 + (1 + 11) + 40 * (0) ≤ 40 * (30 + 3 * k); omega⟩ hN hS rfl hl.1 rfl (Nat.le_of_ble_eq_true rfl) dX12_readPlain_122 ⟨Nat.zero_le _, Nat.zero_le _⟩ (fun r4423 locs hp hS => ?_)
                obtain rfl : r4423 = 161 := hp.trans (by decide)
                refine mx_v (As := [.int 161]) (rest := []) (n := 1) (d := 2) ⟨hx, hb, hml, hown, hts⟩ (c_X12_must l E D G h0 hG0 161 ff cd va pl TT pn4175 Ln4177 bn4176 (by first | decide | omega)) wd_1611 wd_1613 wp_72 wd_13 wd_1614 (by decide +kernel) ⟨by rw [hR]; show 2 + 1 ≤ 30 + 3 * k; omega, by rw [hR]; show 8 + (2 + 11) + 40 * (2) ≤ 40 * (30 + 3 * k); omega⟩ hI hN hK hS hG0 (⟨⟨hkf, hT, hz0, by omega, ⟨a4394, hf4395, hq4396, hA4397⟩, ⟨a4398, hf4399, hq4400, hA4401⟩, ⟨w4410, hg4411, by first | omega | decide⟩, ⟨w4412, hg4413, by first | omega | decide⟩, hg4414⟩, ⟨a4402, hf4403, hq4404, hA4405⟩, ⟨a4406, hf4407, hq4408, hA4409⟩, hPl, ⟨w4415, hg4416, by first | omega | decide⟩, by omega, by first | omega | (intro; omega)⟩) rfl hl.1 rfl (Nat.le_of_ble_eq_true rfl) dX12_readPlain_125 ⟨Nat.zero_le _, Nat.zero_le _⟩ (fun H locs hI hp hS => ?_)
                obtain ⟨pn4425, bn4426, hE, k4428, hm4427⟩ := hp
                rw [show (161 : Int32).toInt = 161 from by decide] at hm4427
                have hi4429 := hm4427.i
                obtain ⟨⟨hkf, hT, hz0, k4453, ⟨a4430, hf4431, hq4432, hA4433⟩, ⟨a4434, hf4435, hq4436, hA4437⟩, ⟨w4446, hg4447, k4454⟩, ⟨w4448, hg4449, k4455⟩, hg4450⟩, ⟨a4438, hf4439, hq4440, hA4441⟩, ⟨a4442, hf4443, hq4444, hA4445⟩, hPl, ⟨w4451, hg4452, k4456⟩, k4457, k4458⟩ := hE
                have hiv4459 : IV cd va pl TT XX (1, 2 :: fl, nk, Ln4177) pn4425 bn4426 := IV.must hiv4179 hm4427 (fun hb9 hc9 => pd_A_cm (rC_lt (cd := cd) (by omega)) (by omega)) (fun hb9 hc9 => pd_A_cmno (fun _ => ⟨hno4180 hb9, by omega⟩))
                refine lv_aload_n hx hb dX12_readPlain_128 rfl (lv_at hl 2 rfl) ?_
                refine lv_iload_n hx hb dX12_readPlain_129 rfl (lv_at hl 3 rfl) ?_
                refine mx_v (As := [.int x1]) (rest := []) (n := 1) (d := 29) ⟨hx, hb, hml, hown, hts⟩ (c_X12_readSum l E D G 8 h0 hG0 x1 ff cd va pl TT pn4425 Ln4177 bn4426 dd (by first | decide | omega) (by omega) (by omega) (2 :: fl) nk XX (by rw [pd_dp2, hdp]) hiv4459 (c_X12_readPart l E D G 8)) wd_1595 wd_1597 wp_68 wd_13 wd_1598 (by decide +kernel) ⟨by rw [hR]; show 29 + 1 ≤ 30 + 3 * k; omega, by rw [hR]; show 8 + (2 + 11) + 40 * (29) ≤ 40 * (30 + 3 * k); omega⟩ hI hN hK hS hG0 (⟨⟨hkf, hT, hz0, by omega, ⟨a4430, hf4431, hq4432, hA4433⟩, ⟨a4434, hf4435, hq4436, hA4437⟩, ⟨w4446, hg4447, by first | omega | decide⟩, ⟨w4448, hg4449, by first | omega | decide⟩, hg4450⟩, ⟨a4438, hf4439, hq4440, hA4441⟩, ⟨a4442, hf4443, hq4444, hA4445⟩, hPl, ⟨w4451, hg4452, by first | omega | decide⟩, by omega, by first | omega | (intro; omega)⟩) rfl hl.1 rfl (Nat.le_of_ble_eq_true rfl) dX12_readPlain_130 ⟨Nat.zero_le _, Nat.zero_le _⟩ (fun H locs hI hp hS => ?_)
                obtain ⟨pn4461, bn4462, Ln4463, hE, k4467, hi4464, hiv4465, hno4466⟩ := hp
                obtain ⟨⟨hkf, hT, hz0, k4491, ⟨a4468, hf4469, hq4470, hA4471⟩, ⟨a4472, hf4473, hq4474, hA4475⟩, ⟨w4484, hg4485, k4492⟩, ⟨w4486, hg4487, k4493⟩, hg4488⟩, ⟨a4476, hf4477, hq4478, hA4479⟩, ⟨a4480, hf4481, hq4482, hA4483⟩, hPl, ⟨w4489, hg4490, k4494⟩, k4495, k4496⟩ := hE
                have hiv4497 : IV cd va pl TT XX (4, fl, nk, Ln4463) pn4461 bn4462 := hiv4465.go (fun hb9 => pd_A_rt (fun _ => hno4466 hb9))
                have hpost : ∃ (p2 : Nat) (b2 : Int32) (L2 : Nat), RX E D G h0 ff cd va pl TT p2 b2 L2 H ∧ pp ≤ p2 ∧ (b2.toInt = -1 → bb.toInt = -1 ∧ Gr (rC cd TT) 3 dd pp p2) ∧ IV cd va pl TT XX (4, fl, nk, L2) p2 b2 := by
                    refine ⟨pn4461, bn4462, Ln4463, ⟨⟨hkf, hT, hz0, by omega, ⟨a4468, hf4469, hq4470, hA4471⟩, ⟨a4472, hf4473, hq4474, hA4475⟩, ⟨w4484, hg4485, by first | omega | decide⟩, ⟨w4486, hg4487, by first | omega | decide⟩, hg4488⟩, ⟨a4476, hf4477, hq4478, hA4479⟩, ⟨a4480, hf4481, hq4482, hA4483⟩, hPl, ⟨w4489, hg4490, by first | omega | decide⟩, by omega, by first | omega | (intro; omega)⟩, by omega, ?_, hiv4497⟩
                    intro h
                    obtain ⟨hz1, hz2⟩ := hi4464 h
                    obtain ⟨hm1, hm2, hm3⟩ := hi4429 hz1
                    obtain ⟨ha1, ha2⟩ := hi4178 hm1
                    rw [hm3] at hz2
                    exact ⟨(hInv ha1).1, r3_x (hInv ha1).2 (by omega) (by omega) ha2 (by omega) hz2⟩
                rw [hQ]
                exact W.vret hx hb hr (fun t ht hW => ⟨⟨(), rfl, trivial, ⟨by rw [ht]; exact hI, hN.warm hW, va_K.moved hW.alike hK⟩, by first | (rw [ht]; exact hpost) | exact hpost⟩, hS.F ht⟩) hS.2.2 dX12_readPlain_133
          · skip
            have k4498 := iv_eq (X := v4166.toInt) (Y := (140)) rfl (by decide) c4171
            refine lv_iload_n hx hb dX12_readPlain_43 rfl (lv_at hl 3 rfl) ?_
            refine lv_bipush (v := 8) hx hb dX12_readPlain_44 (by decide) ?_
            refine lv_icmp_ne (tgt := 53) hx hb dX12_readPlain_46 (by decide) (fun c4499 => ?_) (fun c4499 => ?_)
            · skip
              have k4500 := iv_ne (X := x1.toInt) (Y := (8)) rfl (by decide) c4499
              refine lv_aload_n hx hb dX12_readPlain_53 rfl (lv_at hl 2 rfl) ?_
              refine mr_i (As := []) (rest := []) (n := 0) (d := 0) ⟨hx, hb, hml, hown, hts⟩ (c_X12_fine l E D G H h0 hG0  ff cd TT p1 b1 ⟨hkf, hT, hz0, by omega, ⟨a4126, hf4127, hq4128, hA4129⟩, ⟨a4130, hf4131, hq4132, hA4133⟩, ⟨w4142, hg4143, by first | omega | decide⟩, ⟨w4144, hg4145, by first | omega | decide⟩, hg4146⟩) wd_1591 wd_1593 wp_67 wd_13 wd_1594 (by decide +kernel) ⟨by rw [hR]; show 0 + 1 ≤ 30 + 3 * k; omega, by rw [hR]; show 8 + (1 + 11) + 40 * (0) ≤ 40 * (30 + 3 * k); omega⟩ hI hN hK hS hG0 rfl hl.1 rfl (Nat.le_of_ble_eq_true rfl) dX12_readPlain_54 ⟨Nat.zero_le _, Nat.zero_le _⟩ (fun r4501 locs hp hS => ?_)
              rcases hp with ⟨rfl, hp⟩ | ⟨rfl, hp⟩
              · skip
                try simp only [rg, not_and, Int.not_le] at hp
                have hp4502 := hp
                refine lv_if_ne (tgt := 61) hx hb dX12_readPlain_57 (by decide) (fun _ => ?_) (fun c => absurd c (by decide))
                have hlt9 : p1 < TT := rC_lt (cd := cd) (by omega)
                refine lv_aload_n hx hb dX12_readPlain_61 rfl (lv_at hl 2 rfl) ?_
                refine lv_dup hx hb dX12_readPlain_62 rfl ?_
                refine gmI hx hb hts inT12 hown hK hI List.not_mem_nil hG0 16 (by decide) (hts _ (tb_c wd_1249)) rfl rfl dX12_readPlain_63 (fun w4503 hg4504 k4505 k4506 => ?_)
                obtain rfl := gf.uniq (by decide) hg4145 hg4504
                refine lv_iconst (v := 1) hx hb dX12_readPlain_66 (by decide) ?_
                refine lv_iadd hx hb dX12_readPlain_67 ?_
                refine lv_topi (fun v4507 e4508 => ?_)
                have tv4507 : v4507.toInt = w4144.toInt + (1) := iv_add rfl (by decide) e4508 (by omega) (by omega)
                refine pmI (ty := .int) hx hb hts inT12 hown hK hI List.not_mem_nil hG0 hS ⟨_, hG0⟩ 16 (by decide) (by decide) (hts _ (tb_c wd_1249)) rfl rfl (by decide +kernel) rfl rfl rfl (by omega) (by omega) dX12_readPlain_68 (fun H locs hI hgP hS => ?_)
                have hg4143 := hgP.2.2.1 15 _ (by decide) (by decide) hg4143
                have hg4146 := hgP.2.2.1 18 _ (by decide) (by decide) hg4146
                have hg4148 := hgP.2.2.1 17 _ (by decide) (by decide) hg4148
                have hg4509 := hgP.2.1
                have hf4127 := hgP.2.2.2 3 _ (by decide) (by decide) hf4127
                have hf4131 := hgP.2.2.2 12 _ (by decide) (by decide) hf4131
                have hf4135 := hgP.2.2.2 13 _ (by decide) (by decide) hf4135
                have hf4139 := hgP.2.2.2 14 _ (by decide) (by decide) hf4139
                have hA4129 := va_at.kept hA4129 (hgP.1 _ (m_ne hq4128 hG0 (by first | decide | (dsimp only; decide))))
                have hA4133 := va_at.kept hA4133 (hgP.1 _ (m_ne hq4132 hG0 (by first | decide | (dsimp only; decide))))
                have hA4137 := va_at.kept hA4137 (hgP.1 _ (m_ne hq4136 hG0 (by first | decide | (dsimp only; decide))))
                have hA4141 := va_at.kept hA4141 (hgP.1 _ (m_ne hq4140 hG0 (by first | decide | (dsimp only; decide))))
                have hiv4510 : IV cd va pl TT XX (3, 4 :: fl, nk, L1) (p1 + 1) b1 := hiv1.go (fun hb9 => pd_Q_br hlt9 (by omega) (by omega))
                refine lv_aload_n hx hb dX12_readPlain_71 rfl (lv_at hl 2 rfl) ?_
                refine lv_iload_n hx hb dX12_readPlain_72 rfl (lv_at hl 3 rfl) ?_
                refine lv_iconst (v := 1) hx hb dX12_readPlain_73 (by decide) ?_
                refine lv_iadd hx hb dX12_readPlain_74 ?_
                refine lv_topi (fun v4511 e4512 => ?_)
                have tv4511 : v4511.toInt = x1.toInt + (1) := iv_add rfl (by decide) e4512 (by omega) (by omega)
                refine mx_v (As := [.int v4511]) (rest := []) (n := 1) (d := (32 + 3 * (k - 1))) ⟨hx, hb, hml, hown, hts⟩ (c_X12_readTest l E D G (k - 1) h0 hG0 v4511 ff cd va pl TT (p1 + 1) L1 b1 (dd + 1) (by first | decide | omega) (by omega) (by omega) 4 fl (Or.inl rfl) nk XX (by rw [pd_dp4, hdp]) hiv4510 (ih (k - 1) (by omega))) wd_1619 wd_1621 wp_74 wd_13 wd_1622 (by decide +kernel) ⟨by rw [hR]; show (32 + 3 * (k - 1)) + 1 ≤ 30 + 3 * k; omega, by rw [hR]; show 8 + (2 + 11) + 40 * ((32 + 3 * (k - 1))) ≤ 40 * (30 + 3 * k); omega⟩ hI hN hK hS hG0 (⟨⟨hkf, hT, hz0, by omega, ⟨a4126, hf4127, hq4128, hA4129⟩, ⟨a4130, hf4131, hq4132, hA4133⟩, ⟨w4142, hg4143, by first | omega | decide⟩, ⟨v4507, hg4509, by first | omega | decide⟩, hg4146⟩, ⟨a4134, hf4135, hq4136, hA4137⟩, ⟨a4138, hf4139, hq4140, hA4141⟩, hPl, ⟨w4147, hg4148, by first | omega | decide⟩, by omega, by first | omega | (intro; omega)⟩) rfl hl.1 rfl (Nat.le_of_ble_eq_true rfl) dX12_readPlain_75 ⟨Nat.zero_le _, Nat.zero_le _⟩ (fun H locs hI hp hS => ?_)
                obtain ⟨pn4514, bn4515, Ln4516, hE, k4520, hi4517, hiv4518, hno4519⟩ := hp
                obtain ⟨⟨hkf, hT, hz0, k4544, ⟨a4521, hf4522, hq4523, hA4524⟩, ⟨a4525, hf4526, hq4527, hA4528⟩, ⟨w4537, hg4538, k4545⟩, ⟨w4539, hg4540, k4546⟩, hg4541⟩, ⟨a4529, hf4530, hq4531, hA4532⟩, ⟨a4533, hf4534, hq4535, hA4536⟩, hPl, ⟨w4542, hg4543, k4547⟩, k4548, k4549⟩ := hE
                refine lv_aload_n hx hb dX12_readPlain_78 rfl (lv_at hl 2 rfl) ?_
                refine lv_bipush (v := 41) hx hb dX12_readPlain_79 (by decide) ?_
                refine th_cSs (As := [.int 41]) (rest := [.ref h0]) (n := 1) (d := 0) ⟨hx, hb, hml, hown, hts⟩ (c_X12_sign l H 41) wd_1495 wd_1496 wd_13 wd_1497 (by decide +kernel) ⟨by rw [hR]; show 0 + 1 ≤ 30 + 3 * k; omega, by rw [hR]; show 8 + (1 + 11) + 40 * (0) ≤ 40 * (30 + 3 * k); omega⟩ hN hS rfl hl.1 rfl (Nat.le_of_ble_eq_true rfl) dX12_readPlain_81 ⟨Nat.zero_le _, Nat.zero_le _⟩ (fun r4550 locs hp hS => ?_)
                obtain rfl : r4550 = 141 := hp.trans (by decide)
                refine mx_v (As := [.int 141]) (rest := []) (n := 1) (d := 2) ⟨hx, hb, hml, hown, hts⟩ (c_X12_must l E D G h0 hG0 141 ff cd va pl TT pn4514 Ln4516 bn4515 (by first | decide | omega)) wd_1611 wd_1613 wp_72 wd_13 wd_1614 (by decide +kernel) ⟨by rw [hR]; show 2 + 1 ≤ 30 + 3 * k; omega, by rw [hR]; show 8 + (2 + 11) + 40 * (2) ≤ 40 * (30 + 3 * k); omega⟩ hI hN hK hS hG0 (⟨⟨hkf, hT, hz0, by omega, ⟨a4521, hf4522, hq4523, hA4524⟩, ⟨a4525, hf4526, hq4527, hA4528⟩, ⟨w4537, hg4538, by first | omega | decide⟩, ⟨w4539, hg4540, by first | omega | decide⟩, hg4541⟩, ⟨a4529, hf4530, hq4531, hA4532⟩, ⟨a4533, hf4534, hq4535, hA4536⟩, hPl, ⟨w4542, hg4543, by first | omega | decide⟩, by omega, by first | omega | (intro; omega)⟩) rfl hl.1 rfl (Nat.le_of_ble_eq_true rfl) dX12_readPlain_84 ⟨Nat.zero_le _, Nat.zero_le _⟩ (fun H locs hI hp hS => ?_)
                obtain ⟨pn4552, bn4553, hE, k4555, hm4554⟩ := hp
                rw [show (141 : Int32).toInt = 141 from by decide] at hm4554
                have hi4556 := hm4554.i
                obtain ⟨⟨hkf, hT, hz0, k4580, ⟨a4557, hf4558, hq4559, hA4560⟩, ⟨a4561, hf4562, hq4563, hA4564⟩, ⟨w4573, hg4574, k4581⟩, ⟨w4575, hg4576, k4582⟩, hg4577⟩, ⟨a4565, hf4566, hq4567, hA4568⟩, ⟨a4569, hf4570, hq4571, hA4572⟩, hPl, ⟨w4578, hg4579, k4583⟩, k4584, k4585⟩ := hE
                have hiv4586 : IV cd va pl TT XX (4, fl, nk, Ln4516) pn4552 bn4553 := IV.must hiv4518 hm4554 (fun hb9 hc9 => pd_D_cl (rC_lt (cd := cd) (by omega)) hc9) (fun hb9 hc9 => pd_D_clno (fun _ => ⟨(hno4519 hb9).1, (hno4519 hb9).2, hc9⟩))
                refine lv_goto (tgt := 133) hx hb dX12_readPlain_87 (by decide) ?_
                have hpost : ∃ (p2 : Nat) (b2 : Int32) (L2 : Nat), RX E D G h0 ff cd va pl TT p2 b2 L2 H ∧ pp ≤ p2 ∧ (b2.toInt = -1 → bb.toInt = -1 ∧ Gr (rC cd TT) 3 dd pp p2) ∧ IV cd va pl TT XX (4, fl, nk, L2) p2 b2 := ⟨pn4552, bn4553, Ln4516, ⟨⟨hkf, hT, hz0, by omega, ⟨a4557, hf4558, hq4559, hA4560⟩, ⟨a4561, hf4562, hq4563, hA4564⟩, ⟨w4573, hg4574, by first | omega | decide⟩, ⟨w4575, hg4576, by first | omega | decide⟩, hg4577⟩, ⟨a4565, hf4566, hq4567, hA4568⟩, ⟨a4569, hf4570, hq4571, hA4572⟩, hPl, ⟨w4578, hg4579, by first | omega | decide⟩, by omega, by first | omega | (intro; omega)⟩, by omega, fun h => ⟨(hInv (by omega)).1, r3_br (hInv (by omega)).2 (by omega) (by omega) (hi4517 (hi4556 h).1).2 (hi4556 h).2.1 (hi4556 h).2.2⟩, hiv4586⟩
                rw [hQ]
                exact W.vret hx hb hr (fun t ht hW => ⟨⟨(), rfl, trivial, ⟨by rw [ht]; exact hI, hN.warm hW, va_K.moved hW.alike hK⟩, by first | (rw [ht]; exact hpost) | exact hpost⟩, hS.F ht⟩) hS.2.2 dX12_readPlain_133
              · skip
                try simp only [rg, not_and, Int.not_le] at hp
                have hp4587 := hp
                exfalso; omega
            · skip
              have k4588 := iv_eq (X := x1.toInt) (Y := (8)) rfl (by decide) c4499
              refine lv_aload_n hx hb dX12_readPlain_49 rfl (lv_at hl 2 rfl) ?_
              refine mx_v (As := []) (rest := []) (n := 0) (d := 1) ⟨hx, hb, hml, hown, hts⟩ (c_X12_faults l E D G h0 hG0  ff cd va pl TT p1 L1 b1) wd_1607 wd_1609 wp_71 wd_13 wd_1610 (by decide +kernel) ⟨by rw [hR]; show 1 + 1 ≤ 30 + 3 * k; omega, by rw [hR]; show 8 + (1 + 11) + 40 * (1) ≤ 40 * (30 + 3 * k); omega⟩ hI hN hK hS hG0 (⟨⟨hkf, hT, hz0, by omega, ⟨a4126, hf4127, hq4128, hA4129⟩, ⟨a4130, hf4131, hq4132, hA4133⟩, ⟨w4142, hg4143, by first | omega | decide⟩, ⟨w4144, hg4145, by first | omega | decide⟩, hg4146⟩, ⟨a4134, hf4135, hq4136, hA4137⟩, ⟨a4138, hf4139, hq4140, hA4141⟩, hPl, ⟨w4147, hg4148, by first | omega | decide⟩, by omega, by first | omega | (intro; omega)⟩) rfl hl.1 rfl (Nat.le_of_ble_eq_true rfl) dX12_readPlain_50 ⟨Nat.zero_le _, Nat.zero_le _⟩ (fun H locs hI hp hS => ?_)
              obtain ⟨bn4590, hb4591, hd4592, hE⟩ := hp
              obtain ⟨⟨hkf, hT, hz0, k4616, ⟨a4593, hf4594, hq4595, hA4596⟩, ⟨a4597, hf4598, hq4599, hA4600⟩, ⟨w4609, hg4610, k4617⟩, ⟨w4611, hg4612, k4618⟩, hg4613⟩, ⟨a4601, hf4602, hq4603, hA4604⟩, ⟨a4605, hf4606, hq4607, hA4608⟩, hPl, ⟨w4614, hg4615, k4619⟩, k4620, k4621⟩ := hE
              have hiv4622 : IV cd va pl TT XX (4, fl, nk, L1) p1 bn4590 := hiv1.flt (fun _ => pd_Q_brno (fun _ => by omega) (by omega)) hb4591 hd4592
              refine lv_aload_n hx hb dX12_readPlain_53 rfl (lv_at hl 2 rfl) ?_
              refine mr_i (As := []) (rest := []) (n := 0) (d := 0) ⟨hx, hb, hml, hown, hts⟩ (c_X12_fine l E D G H h0 hG0  ff cd TT p1 bn4590 ⟨hkf, hT, hz0, by omega, ⟨a4593, hf4594, hq4595, hA4596⟩, ⟨a4597, hf4598, hq4599, hA4600⟩, ⟨w4609, hg4610, by first | omega | decide⟩, ⟨w4611, hg4612, by first | omega | decide⟩, hg4613⟩) wd_1591 wd_1593 wp_67 wd_13 wd_1594 (by decide +kernel) ⟨by rw [hR]; show 0 + 1 ≤ 30 + 3 * k; omega, by rw [hR]; show 8 + (1 + 11) + 40 * (0) ≤ 40 * (30 + 3 * k); omega⟩ hI hN hK hS hG0 rfl hl.1 rfl (Nat.le_of_ble_eq_true rfl) dX12_readPlain_54 ⟨Nat.zero_le _, Nat.zero_le _⟩ (fun r4623 locs hp hS => ?_)
              rcases hp with ⟨rfl, hp⟩ | ⟨rfl, hp⟩
              · skip
                try simp only [rg, not_and, Int.not_le] at hp
                have hp4624 := hp
                exfalso; omega
              · skip
                try simp only [rg, not_and, Int.not_le] at hp
                have hp4625 := hp
                refine lv_if_ne (tgt := 61) hx hb dX12_readPlain_57 (by decide) (fun c => absurd c (by decide)) (fun _ => ?_)
                have hpost : ∃ (p2 : Nat) (b2 : Int32) (L2 : Nat), RX E D G h0 ff cd va pl TT p2 b2 L2 H ∧ pp ≤ p2 ∧ (b2.toInt = -1 → bb.toInt = -1 ∧ Gr (rC cd TT) 3 dd pp p2) ∧ IV cd va pl TT XX (4, fl, nk, L2) p2 b2 := ⟨p1, bn4590, L1, ⟨⟨hkf, hT, hz0, by omega, ⟨a4593, hf4594, hq4595, hA4596⟩, ⟨a4597, hf4598, hq4599, hA4600⟩, ⟨w4609, hg4610, by first | omega | decide⟩, ⟨w4611, hg4612, by first | omega | decide⟩, hg4613⟩, ⟨a4601, hf4602, hq4603, hA4604⟩, ⟨a4605, hf4606, hq4607, hA4608⟩, hPl, ⟨w4614, hg4615, by first | omega | decide⟩, by omega, by first | omega | (intro; omega)⟩, by omega, fun h => absurd h (by omega), hiv4622⟩
                rw [hQ]
                exact W.vret hx hb hr (fun t ht hW => ⟨⟨(), rfl, trivial, ⟨by rw [ht]; exact hI, hN.warm hW, va_K.moved hW.alike hK⟩, by first | (rw [ht]; exact hpost) | exact hpost⟩, hS.F ht⟩) hS.2.2 dX12_readPlain_60
        · skip
          try simp only [rg, not_and, Int.not_le] at hp
          have hp4626 := hp
          refine lv_if_ne (tgt := 24) hx hb dX12_readPlain_20 (by decide) (fun c => absurd c (by decide)) (fun _ => ?_)
          have hiv4627 : IV cd va pl TT XX (4, fl, nk, L1) p1 b1 := hiv1.bad (by omega)
          have hpost : ∃ (p2 : Nat) (b2 : Int32) (L2 : Nat), RX E D G h0 ff cd va pl TT p2 b2 L2 H ∧ pp ≤ p2 ∧ (b2.toInt = -1 → bb.toInt = -1 ∧ Gr (rC cd TT) 3 dd pp p2) ∧ IV cd va pl TT XX (4, fl, nk, L2) p2 b2 := ⟨p1, b1, L1, ⟨⟨hkf, hT, hz0, by omega, ⟨a4126, hf4127, hq4128, hA4129⟩, ⟨a4130, hf4131, hq4132, hA4133⟩, ⟨w4142, hg4143, by first | omega | decide⟩, ⟨w4144, hg4145, by first | omega | decide⟩, hg4146⟩, ⟨a4134, hf4135, hq4136, hA4137⟩, ⟨a4138, hf4139, hq4140, hA4141⟩, hPl, ⟨w4147, hg4148, by first | omega | decide⟩, by omega, by first | omega | (intro; omega)⟩, by omega, fun h => absurd h (by omega), hiv4627⟩
          rw [hQ]
          exact W.vret hx hb hr (fun t ht hW => ⟨⟨(), rfl, trivial, ⟨by rw [ht]; exact hI, hN.warm hW, va_K.moved hW.alike hK⟩, by first | (rw [ht]; exact hpost) | exact hpost⟩, hS.F ht⟩) hS.2.2 dX12_readPlain_23
      · skip
        have k4628 := iv_ne (X := v4123.toInt) (Y := (0)) rfl (by decide) c4155
        refine lv_aload_n hx hb dX12_readPlain_6 rfl (lv_at hl 1 rfl) ?_
        refine lv_bipush (v := 8) hx hb dX12_readPlain_7 (by decide) ?_
        refine mx_i (As := [.int 8]) (rest := []) (n := 1) (d := 1) ⟨hx, hb, hml, hown, hts⟩ (c_X12_takes0 l E D G h0 hG0 8 ff cd va pl TT p1 L1 b1 (by first | decide | omega)) wd_1587 wd_1589 wp_66 wd_13 wd_1590 (by decide +kernel) ⟨by rw [hR]; show 1 + 1 ≤ 30 + 3 * k; omega, by rw [hR]; show 8 + (3 + 11) + 40 * (1) ≤ 40 * (30 + 3 * k); omega⟩ hI hN hK hS hG0 (⟨⟨hkf, hT, hz0, by omega, ⟨a4126, hf4127, hq4128, hA4129⟩, ⟨a4130, hf4131, hq4132, hA4133⟩, ⟨w4142, hg4143, by first | omega | decide⟩, ⟨w4144, hg4145, by first | omega | decide⟩, hg4146⟩, ⟨a4134, hf4135, hq4136, hA4137⟩, ⟨a4138, hf4139, hq4140, hA4141⟩, hPl, ⟨w4147, hg4148, by first | omega | decide⟩, by omega, by first | omega | (intro; omega)⟩) rfl hl.1 rfl (Nat.le_of_ble_eq_true rfl) dX12_readPlain_9 ⟨Nat.zero_le _, Nat.zero_le _⟩ (fun r4629 H locs hI hp hS => ?_)
        rcases hp with ⟨rfl, hp⟩ | ⟨rfl, hp⟩
        · skip
          try simp only [rg, not_and, Int.not_le] at hp
          have hp4630 := hp
          obtain ⟨hb4633, hc4631, k4632, hE⟩ := hp4630
          have hp4630 : True := trivial
          rw [show (8 : Int32).toInt = 8 from by decide] at hc4631
          obtain ⟨⟨hkf, hT, hz0, k4657, ⟨a4634, hf4635, hq4636, hA4637⟩, ⟨a4638, hf4639, hq4640, hA4641⟩, ⟨w4650, hg4651, k4658⟩, ⟨w4652, hg4653, k4659⟩, hg4654⟩, ⟨a4642, hf4643, hq4644, hA4645⟩, ⟨a4646, hf4647, hq4648, hA4649⟩, hPl, ⟨w4655, hg4656, k4660⟩, k4661, k4662⟩ := hE
          have hInv2 : b1.toInt = -1 → bb.toInt = -1 ∧ ∀ r, Gr (rC cd TT) 3 dd (p1 + 1) r → Gr (rC cd TT) 3 dd pp r := fun h => ⟨(hInv h).1, r3_m (hInv h).2 hc4631⟩
          have hiv4663 : IV cd va pl TT XX (3, fl, nk, L1) (p1 + 1) b1 := hiv1.go (fun hb9 => pd_Q_nt k4632 hc4631)
          try rw [show (8 : Int32).toInt = 8 from by decide] at hp4630
          refine lv_istore_n (lv' := [(2, .int 1), (0, .ref h0), (1, .int x1)]) hx hb dX12_readPlain_12 rfl hl (by decide) rfl (fun ls hl => ?_)
          refine lv_goto (tgt := 2) hx hb dX12_readPlain_13 (by decide) ?_
          have zl : (1 : Int32).toInt = 1 := by decide
          exact ih_2 _ (by omega) H locs ls 1 (p1 + 1) b1 L1 rfl (lv_sub hl [0, 1, 2] rfl) ⟨by decide, by decide⟩ ⟨by omega, by omega⟩ (by omega) (by first | omega | exact Or.inl (by decide)) (hInv2) (hiv4663) (⟨⟨hkf, hT, hz0, by omega, ⟨a4634, hf4635, hq4636, hA4637⟩, ⟨a4638, hf4639, hq4640, hA4641⟩, ⟨w4650, hg4651, by first | omega | decide⟩, ⟨w4652, hg4653, by first | omega | decide⟩, hg4654⟩, ⟨a4642, hf4643, hq4644, hA4645⟩, ⟨a4646, hf4647, hq4648, hA4649⟩, hPl, ⟨w4655, hg4656, by first | omega | decide⟩, by omega, by first | omega | (intro; omega)⟩) hI hS
        · skip
          try simp only [rg, not_and, Int.not_le] at hp
          have hp4664 := hp
          obtain ⟨hc4665, hE⟩ := hp4664
          have hp4664 : True := trivial
          rw [show (8 : Int32).toInt = 8 from by decide] at hc4665
          obtain ⟨⟨hkf, hT, hz0, k4690, ⟨a4667, hf4668, hq4669, hA4670⟩, ⟨a4671, hf4672, hq4673, hA4674⟩, ⟨w4683, hg4684, k4691⟩, ⟨w4685, hg4686, k4692⟩, hg4687⟩, ⟨a4675, hf4676, hq4677, hA4678⟩, ⟨a4679, hf4680, hq4681, hA4682⟩, hPl, ⟨w4688, hg4689, k4693⟩, k4694, k4695⟩ := hE
          try rw [show (8 : Int32).toInt = 8 from by decide] at hp4664
          refine lv_istore_n (lv' := [(2, .int 0), (0, .ref h0), (1, .int x1)]) hx hb dX12_readPlain_12 rfl hl (by decide) rfl (fun ls hl => ?_)
          refine lv_goto (tgt := 2) hx hb dX12_readPlain_13 (by decide) ?_
          have zl : (0 : Int32).toInt = 0 := by decide
          exact ih_2 _ (by omega) H locs ls 0 p1 b1 L1 rfl (lv_sub hl [0, 1, 2] rfl) ⟨by decide, by decide⟩ ⟨by omega, by omega⟩ (by omega) (by first | omega | exact Or.inl (by decide)) (hInv) (hiv1) (⟨⟨hkf, hT, hz0, by omega, ⟨a4667, hf4668, hq4669, hA4670⟩, ⟨a4671, hf4672, hq4673, hA4674⟩, ⟨w4683, hg4684, by first | omega | decide⟩, ⟨w4685, hg4686, by first | omega | decide⟩, hg4687⟩, ⟨a4675, hf4676, hq4677, hA4678⟩, ⟨a4679, hf4680, hq4681, hA4682⟩, hPl, ⟨w4688, hg4689, by first | omega | decide⟩, by omega, by first | omega | (intro; omega)⟩) hI hS
  refine lv_iconst (v := 1) hx hb dX12_readPlain_0 (by decide) ?_
  refine lv_istore_n (lv' := [(2, .int 1), (0, .ref h0), (1, .int x1)]) hx hb dX12_readPlain_1 rfl hl (by decide) rfl (fun ls hl => ?_)
  have zl : (1 : Int32).toInt = 1 := by decide
  exact J_2 _ s.heap [] ls 1 pp bb LL rfl (lv_sub hl [0, 1, 2] rfl) ⟨by decide, by decide⟩ ⟨by omega, by omega⟩ (by omega) (by first | omega | exact Or.inl (by decide)) (hInv0) (hiv) (⟨⟨hkf, hT, hz0, by omega, ⟨a1, hf2, hq3, hA4⟩, ⟨a5, hf6, hq7, hA8⟩, ⟨w17, hg18, by first | omega | decide⟩, ⟨w19, hg20, by first | omega | decide⟩, hg21⟩, ⟨a9, hf10, hq11, hA12⟩, ⟨a13, hf14, hq15, hA16⟩, hPl, ⟨w22, hg23, by first | omega | decide⟩, by omega, by first | omega | (intro; omega)⟩) hI hS
