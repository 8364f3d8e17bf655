theorem wp_19 : Cond.selects RX3 yX3_test yX3_test ∈ TB := tv 19 (by decide +kernel) (by decide +kernel)
theorem wp_20 : Cond.selects RX3 yX3_plain yX3_plain ∈ TB := tv 20 (by decide +kernel) (by decide +kernel)
theorem wp_22 : Cond.selects RX3 yX3_aim yX3_aim ∈ TB := tv 22 (by decide +kernel) (by decide +kernel)
theorem wd_731 : (Cond.methodLink RX3 (100 : Nat) yX3_test) ∈ TB := tw 731 (by decide +kernel) (by decide +kernel)
theorem wd_733 : (Jvm.Cond.instanceMethod yX3_test) ∈ TB := tw 733 (by decide +kernel) (by decide +kernel)
theorem wd_734 : (Cond.code yX3_test cX3_test 7 (Option.some Jvm.ClassFile.FieldType.boolean)) ∈ TB := tw 734 (by decide +kernel) (by decide +kernel)
theorem wd_735 : (Cond.methodLink RX3 (103 : Nat) yX3_plain) ∈ TB := tw 735 (by decide +kernel) (by decide +kernel)
theorem wd_737 : (Jvm.Cond.instanceMethod yX3_plain) ∈ TB := tw 737 (by decide +kernel) (by decide +kernel)
theorem wd_738 : (Cond.code yX3_plain cX3_plain 5 (Option.some Jvm.ClassFile.FieldType.boolean)) ∈ TB := tw 738 (by decide +kernel) (by decide +kernel)
theorem wd_743 : (Cond.methodLink RX3 (106 : Nat) yX3_aim) ∈ TB := tw 743 (by decide +kernel) (by decide +kernel)
theorem wd_745 : (Jvm.Cond.instanceMethod yX3_aim) ∈ TB := tw 745 (by decide +kernel) (by decide +kernel)
theorem wd_746 : (Cond.code yX3_aim cX3_aim 2 (Option.none : Option Jvm.ClassFile.FieldType)) ∈ TB := tw 746 (by decide +kernel) (by decide +kernel)
theorem dX3_test_0g : (decode cX3_test 0 = .ok (.iconst (-1), 1)) ∧ (decode cX3_test 1 = .ok (.istore_n 2, 1)) ∧ (decode cX3_test 2 = .ok (.aload_n 0, 1)) ∧ (decode cX3_test 3 = .ok (.iload_n 1, 1)) ∧ (decode cX3_test 4 = .ok (.invokevirtual 103, 3)) ∧ (decode cX3_test 7 = .ok (.istore_n 3, 1)) ∧ (decode cX3_test 8 = .ok (.iconst 0, 1)) ∧ (decode cX3_test 9 = .ok (.istore 4, 2)) ∧ (decode cX3_test 11 = .ok (.iload 4, 2)) ∧ (decode cX3_test 13 = .ok (.sipush 400, 3)) := by decide +kernel
theorem dX3_test_0 : decode cX3_test 0 = .ok (.iconst (-1), 1) := dX3_test_0g.1
theorem dX3_test_1 : decode cX3_test 1 = .ok (.istore_n 2, 1) := dX3_test_0g.2.1
theorem dX3_test_2 : decode cX3_test 2 = .ok (.aload_n 0, 1) := dX3_test_0g.2.2.1
theorem dX3_test_3 : decode cX3_test 3 = .ok (.iload_n 1, 1) := dX3_test_0g.2.2.2.1
theorem dX3_test_4 : decode cX3_test 4 = .ok (.invokevirtual 103, 3) := dX3_test_0g.2.2.2.2.1
theorem dX3_test_7 : decode cX3_test 7 = .ok (.istore_n 3, 1) := dX3_test_0g.2.2.2.2.2.1
theorem dX3_test_8 : decode cX3_test 8 = .ok (.iconst 0, 1) := dX3_test_0g.2.2.2.2.2.2.1
theorem dX3_test_9 : decode cX3_test 9 = .ok (.istore 4, 2) := dX3_test_0g.2.2.2.2.2.2.2.1
theorem dX3_test_11 : decode cX3_test 11 = .ok (.iload 4, 2) := dX3_test_0g.2.2.2.2.2.2.2.2.1
theorem dX3_test_13 : decode cX3_test 13 = .ok (.sipush 400, 3) := dX3_test_0g.2.2.2.2.2.2.2.2.2
theorem dX3_test_16g : (decode cX3_test 16 = .ok (.if_icmp .ge 112, 3)) ∧ (decode cX3_test 19 = .ok (.iload_n 3, 1)) ∧ (decode cX3_test 20 = .ok (.ifCond .eq 108, 3)) ∧ (decode cX3_test 23 = .ok (.aload_n 0, 1)) ∧ (decode cX3_test 24 = .ok (.getfield 46, 3)) ∧ (decode cX3_test 27 = .ok (.sipush 261, 3)) ∧ (decode cX3_test 30 = .ok (.if_icmp .eq 13, 3)) ∧ (decode cX3_test 33 = .ok (.aload_n 0, 1)) ∧ (decode cX3_test 34 = .ok (.getfield 46, 3)) ∧ (decode cX3_test 37 = .ok (.sipush 262, 3)) := by decide +kernel
theorem dX3_test_16 : decode cX3_test 16 = .ok (.if_icmp .ge 112, 3) := dX3_test_16g.1
theorem dX3_test_19 : decode cX3_test 19 = .ok (.iload_n 3, 1) := dX3_test_16g.2.1
theorem dX3_test_20 : decode cX3_test 20 = .ok (.ifCond .eq 108, 3) := dX3_test_16g.2.2.1
theorem dX3_test_23 : decode cX3_test 23 = .ok (.aload_n 0, 1) := dX3_test_16g.2.2.2.1
theorem dX3_test_24 : decode cX3_test 24 = .ok (.getfield 46, 3) := dX3_test_16g.2.2.2.2.1
theorem dX3_test_27 : decode cX3_test 27 = .ok (.sipush 261, 3) := dX3_test_16g.2.2.2.2.2.1
theorem dX3_test_30 : decode cX3_test 30 = .ok (.if_icmp .eq 13, 3) := dX3_test_16g.2.2.2.2.2.2.1
theorem dX3_test_33 : decode cX3_test 33 = .ok (.aload_n 0, 1) := dX3_test_16g.2.2.2.2.2.2.2.1
theorem dX3_test_34 : decode cX3_test 34 = .ok (.getfield 46, 3) := dX3_test_16g.2.2.2.2.2.2.2.2.1
theorem dX3_test_37 : decode cX3_test 37 = .ok (.sipush 262, 3) := dX3_test_16g.2.2.2.2.2.2.2.2.2
theorem dX3_test_40g : (decode cX3_test 40 = .ok (.if_icmp .ne 88, 3)) ∧ (decode cX3_test 43 = .ok (.aload_n 0, 1)) ∧ (decode cX3_test 44 = .ok (.getfield 46, 3)) ∧ (decode cX3_test 47 = .ok (.sipush 261, 3)) ∧ (decode cX3_test 50 = .ok (.if_icmp .ne 7, 3)) ∧ (decode cX3_test 53 = .ok (.iconst 1, 1)) ∧ (decode cX3_test 54 = .ok (.goto 4, 3)) ∧ (decode cX3_test 57 = .ok (.iconst 0, 1)) ∧ (decode cX3_test 58 = .ok (.istore 5, 2)) ∧ (decode cX3_test 60 = .ok (.iload 5, 2)) := by decide +kernel
theorem dX3_test_40 : decode cX3_test 40 = .ok (.if_icmp .ne 88, 3) := dX3_test_40g.1
theorem dX3_test_43 : decode cX3_test 43 = .ok (.aload_n 0, 1) := dX3_test_40g.2.1
theorem dX3_test_44 : decode cX3_test 44 = .ok (.getfield 46, 3) := dX3_test_40g.2.2.1
theorem dX3_test_47 : decode cX3_test 47 = .ok (.sipush 261, 3) := dX3_test_40g.2.2.2.1
theorem dX3_test_50 : decode cX3_test 50 = .ok (.if_icmp .ne 7, 3) := dX3_test_40g.2.2.2.2.1
theorem dX3_test_53 : decode cX3_test 53 = .ok (.iconst 1, 1) := dX3_test_40g.2.2.2.2.2.1
theorem dX3_test_54 : decode cX3_test 54 = .ok (.goto 4, 3) := dX3_test_40g.2.2.2.2.2.2.1
theorem dX3_test_57 : decode cX3_test 57 = .ok (.iconst 0, 1) := dX3_test_40g.2.2.2.2.2.2.2.1
theorem dX3_test_58 : decode cX3_test 58 = .ok (.istore 5, 2) := dX3_test_40g.2.2.2.2.2.2.2.2.1
theorem dX3_test_60 : decode cX3_test 60 = .ok (.iload 5, 2) := dX3_test_40g.2.2.2.2.2.2.2.2.2
theorem dX3_test_62g : (decode cX3_test 62 = .ok (.ifCond .eq 8, 3)) ∧ (decode cX3_test 65 = .ok (.aload_n 0, 1)) ∧ (decode cX3_test 66 = .ok (.iload_n 2, 1)) ∧ (decode cX3_test 67 = .ok (.invokevirtual 106, 3)) ∧ (decode cX3_test 70 = .ok (.aload_n 0, 1)) ∧ (decode cX3_test 71 = .ok (.iload 5, 2)) ∧ (decode cX3_test 73 = .ok (.ifCond .eq 8, 3)) ∧ (decode cX3_test 76 = .ok (.bipush 11, 2)) ∧ (decode cX3_test 78 = .ok (.goto 5, 3)) ∧ (decode cX3_test 81 = .ok (.bipush 12, 2)) := by decide +kernel
theorem dX3_test_62 : decode cX3_test 62 = .ok (.ifCond .eq 8, 3) := dX3_test_62g.1
theorem dX3_test_65 : decode cX3_test 65 = .ok (.aload_n 0, 1) := dX3_test_62g.2.1
theorem dX3_test_66 : decode cX3_test 66 = .ok (.iload_n 2, 1) := dX3_test_62g.2.2.1
theorem dX3_test_67 : decode cX3_test 67 = .ok (.invokevirtual 106, 3) := dX3_test_62g.2.2.2.1
theorem dX3_test_70 : decode cX3_test 70 = .ok (.aload_n 0, 1) := dX3_test_62g.2.2.2.2.1
theorem dX3_test_71 : decode cX3_test 71 = .ok (.iload 5, 2) := dX3_test_62g.2.2.2.2.2.1
theorem dX3_test_73 : decode cX3_test 73 = .ok (.ifCond .eq 8, 3) := dX3_test_62g.2.2.2.2.2.2.1
theorem dX3_test_76 : decode cX3_test 76 = .ok (.bipush 11, 2) := dX3_test_62g.2.2.2.2.2.2.2.1
theorem dX3_test_78 : decode cX3_test 78 = .ok (.goto 5, 3) := dX3_test_62g.2.2.2.2.2.2.2.2.1
theorem dX3_test_81 : decode cX3_test 81 = .ok (.bipush 12, 2) := dX3_test_62g.2.2.2.2.2.2.2.2.2
theorem dX3_test_83g : (decode cX3_test 83 = .ok (.iconst 0, 1)) ∧ (decode cX3_test 84 = .ok (.invokevirtual 109, 3)) ∧ (decode cX3_test 87 = .ok (.istore 6, 2)) ∧ (decode cX3_test 89 = .ok (.aload_n 0, 1)) ∧ (decode cX3_test 90 = .ok (.aload_n 0, 1)) ∧ (decode cX3_test 91 = .ok (.getfield 43, 3)) ∧ (decode cX3_test 94 = .ok (.iconst 1, 1)) ∧ (decode cX3_test 95 = .ok (.iadd, 1)) ∧ (decode cX3_test 96 = .ok (.invokevirtual 66, 3)) ∧ (decode cX3_test 99 = .ok (.aload_n 0, 1)) := by decide +kernel
theorem dX3_test_83 : decode cX3_test 83 = .ok (.iconst 0, 1) := dX3_test_83g.1
theorem dX3_test_84 : decode cX3_test 84 = .ok (.invokevirtual 109, 3) := dX3_test_83g.2.1
theorem dX3_test_87 : decode cX3_test 87 = .ok (.istore 6, 2) := dX3_test_83g.2.2.1
theorem dX3_test_89 : decode cX3_test 89 = .ok (.aload_n 0, 1) := dX3_test_83g.2.2.2.1
theorem dX3_test_90 : decode cX3_test 90 = .ok (.aload_n 0, 1) := dX3_test_83g.2.2.2.2.1
theorem dX3_test_91 : decode cX3_test 91 = .ok (.getfield 43, 3) := dX3_test_83g.2.2.2.2.2.1
theorem dX3_test_94 : decode cX3_test 94 = .ok (.iconst 1, 1) := dX3_test_83g.2.2.2.2.2.2.1
theorem dX3_test_95 : decode cX3_test 95 = .ok (.iadd, 1) := dX3_test_83g.2.2.2.2.2.2.2.1
theorem dX3_test_96 : decode cX3_test 96 = .ok (.invokevirtual 66, 3) := dX3_test_83g.2.2.2.2.2.2.2.2.1
theorem dX3_test_99 : decode cX3_test 99 = .ok (.aload_n 0, 1) := dX3_test_83g.2.2.2.2.2.2.2.2.2
theorem dX3_test_100g : (decode cX3_test 100 = .ok (.iload_n 1, 1)) ∧ (decode cX3_test 101 = .ok (.invokevirtual 103, 3)) ∧ (decode cX3_test 104 = .ok (.istore_n 3, 1)) ∧ (decode cX3_test 105 = .ok (.iload 5, 2)) ∧ (decode cX3_test 107 = .ok (.ifCond .eq 9, 3)) ∧ (decode cX3_test 110 = .ok (.iload 6, 2)) ∧ (decode cX3_test 112 = .ok (.istore_n 2, 1)) ∧ (decode cX3_test 113 = .ok (.goto 9, 3)) ∧ (decode cX3_test 116 = .ok (.aload_n 0, 1)) ∧ (decode cX3_test 117 = .ok (.iload 6, 2)) := by decide +kernel
theorem dX3_test_100 : decode cX3_test 100 = .ok (.iload_n 1, 1) := dX3_test_100g.1
theorem dX3_test_101 : decode cX3_test 101 = .ok (.invokevirtual 103, 3) := dX3_test_100g.2.1
theorem dX3_test_104 : decode cX3_test 104 = .ok (.istore_n 3, 1) := dX3_test_100g.2.2.1
theorem dX3_test_105 : decode cX3_test 105 = .ok (.iload 5, 2) := dX3_test_100g.2.2.2.1
theorem dX3_test_107 : decode cX3_test 107 = .ok (.ifCond .eq 9, 3) := dX3_test_100g.2.2.2.2.1
theorem dX3_test_110 : decode cX3_test 110 = .ok (.iload 6, 2) := dX3_test_100g.2.2.2.2.2.1
theorem dX3_test_112 : decode cX3_test 112 = .ok (.istore_n 2, 1) := dX3_test_100g.2.2.2.2.2.2.1
theorem dX3_test_113 : decode cX3_test 113 = .ok (.goto 9, 3) := dX3_test_100g.2.2.2.2.2.2.2.1
theorem dX3_test_116 : decode cX3_test 116 = .ok (.aload_n 0, 1) := dX3_test_100g.2.2.2.2.2.2.2.2.1
theorem dX3_test_117 : decode cX3_test 117 = .ok (.iload 6, 2) := dX3_test_100g.2.2.2.2.2.2.2.2.2
theorem dX3_test_119g : (decode cX3_test 119 = .ok (.invokevirtual 106, 3)) ∧ (decode cX3_test 122 = .ok (.iinc 4 1, 3)) ∧ (decode cX3_test 125 = .ok (.goto (-114), 3)) ∧ (decode cX3_test 128 = .ok (.aload_n 0, 1)) ∧ (decode cX3_test 129 = .ok (.iload_n 2, 1)) ∧ (decode cX3_test 130 = .ok (.invokevirtual 106, 3)) ∧ (decode cX3_test 133 = .ok (.iload_n 3, 1)) ∧ (decode cX3_test 134 = .ok (.ireturn, 1)) := by decide +kernel
theorem dX3_test_119 : decode cX3_test 119 = .ok (.invokevirtual 106, 3) := dX3_test_119g.1
theorem dX3_test_122 : decode cX3_test 122 = .ok (.iinc 4 1, 3) := dX3_test_119g.2.1
theorem dX3_test_125 : decode cX3_test 125 = .ok (.goto (-114), 3) := dX3_test_119g.2.2.1
theorem dX3_test_128 : decode cX3_test 128 = .ok (.aload_n 0, 1) := dX3_test_119g.2.2.2.1
theorem dX3_test_129 : decode cX3_test 129 = .ok (.iload_n 2, 1) := dX3_test_119g.2.2.2.2.1
theorem dX3_test_130 : decode cX3_test 130 = .ok (.invokevirtual 106, 3) := dX3_test_119g.2.2.2.2.2.1
theorem dX3_test_133 : decode cX3_test 133 = .ok (.iload_n 3, 1) := dX3_test_119g.2.2.2.2.2.2.1
theorem dX3_test_134 : decode cX3_test 134 = .ok (.ireturn, 1) := dX3_test_119g.2.2.2.2.2.2.2
set_option maxHeartbeats 4000000 in
set_option maxRecDepth 100000 in
theorem c_X3_test (l : Launch) (E : Nat → Nat) (D : va_G) (G : th_G) (k : Nat) (h0 : Nat) (hG0 : G h0 = some (7, 12)) (x1 : Int32) (ft fp fn : Nat → Int32) (TT pp nc LL : Nat) (ZZ : Nat → Int) (YY : Nat → Bool) (nk : Nat) (XX : Nat × Bool) (hTK : TK ft fn TT ZZ YY) (dd : Nat) (hdd : x1.toInt = (dd : Int)) (hd8 : dd ≤ 8) (hk : 8 ≤ dd + k) (tl : Nat) (fl : List Nat) (ht45 : tl = 4 ∨ tl = 5) (hdp : pd_dp (tl :: fl) = dd) (hpd : pd_R ZZ YY TT (3, tl :: fl, nk, LL) pp = XX) (hplain : ∀ (h0 : Nat) (hG0 : G h0 = some (7, 12)) (x1 : Int32) (ft fp fn : Nat → Int32) (TT pp nc LL : Nat) (ZZ : Nat → Int) (YY : Nat → Bool) (nk : Nat) (XX : Nat × Bool) (hTK : TK ft fn TT ZZ YY) (dd : Nat) (hdd : x1.toInt = (dd : Int)) (hd8 : dd ≤ 8) (hk : 8 ≤ dd + k) (fl : List Nat) (hdp : pd_dp (fl) = dd) (hpd : pd_R ZZ YY TT (3, fl, nk, LL) pp = XX), Met l yX3_plain (tb (.code yX3_plain cX3_plain 5 (some .boolean))) (rm (21 + 3 * k)) (va_Pc [.ref h0, .int x1] (PCx E D G (fun H => RC E D G h0 ft fp fn TT pp nc LL H))) (QCi E D G (fun r H => ((r : Int32) = 1 ∧ ∃ p2 L2 : Nat, RC E D G h0 ft fp fn TT p2 nc L2 H ∧ pp + 1 ≤ p2 ∧ pd_R ZZ YY TT (4, fl, nk, L2) p2 = XX) ∨ ((r : Int32) = 0 ∧ ∃ p2 L2 : Nat, RC E D G h0 ft fp fn TT p2 nc L2 H ∧ pp ≤ p2 ∧ XX = (p2, false)))) 0 0 (th_A G)) : Met l yX3_test (tb (.code yX3_test cX3_test 7 (some .boolean))) (rm (22 + 3 * k)) (va_Pc [.ref h0, .int x1] (PCx E D G (fun H => RC E D G h0 ft fp fn TT pp nc LL H))) (QCi E D G (fun r H => ((r : Int32) = 1 ∧ ∃ p2 L2 : Nat, RC E D G h0 ft fp fn TT p2 nc L2 H ∧ pp + 1 ≤ p2 ∧ pd_R ZZ YY TT (4, tl :: fl, nk, L2) p2 = XX ∧ ((ft p2).toInt ≠ 261 ∧ (ft p2).toInt ≠ 262)) ∨ ((r : Int32) = 0 ∧ ∃ p2 L2 : Nat, RC E D G h0 ft fp fn TT p2 nc L2 H ∧ pp ≤ p2 ∧ XX = (p2, false)))) 0 0 (th_A G) := by
  refine Met.ofW (cc := cX3_test) (maxL := 7) (ret := (some .boolean)) (by decide) rfl ?_
  intro p e s m args below meth c s₁ B hml hv
  obtain ⟨hav, ⟨hI, hN, hK⟩, hX⟩ := hv
  have hx := B.exec
  have hb := B.bytes
  have hr := B.returns
  have hts := atoms_spec (ws := tb (.code yX3_test cX3_test 7 (some .boolean))) B.pre
  have hown : s.vm.findClass RX3 = some m.cls := findClass_of_methodNamed B.named
  have hlocks := B.notSynchronized
  have hS : va_S (th_A G) s.heap s.heap [] := va_S.rf
  have hl := lv_entry ([.ref h0, .int x1]) (n := 7) (Nat.le_of_ble_eq_true rfl)
  rw [show entryFrame m args 7 = entryFrame m ([.ref h0, .int x1] : List Value).toArray 7 from by rw [hav], lg_entry_eq]
  generalize (lg_sl ([.ref h0, .int x1]) ++ List.replicate (7 - (lg_sl ([.ref h0, .int x1])).length) Slot.unset).toArray = ls at hl ⊢
  have hl : lv_has ls 7 [(0, .ref h0), (1, .int x1)] := hl
  generalize hR : (headSpec (tb (.code yX3_test cX3_test 7 (some .boolean))) (rm (22 + 3 * k))).room = R
  have hR := hR.symm
  generalize hQ : MQ below (QCi E D G (fun r H => ((r : Int32) = 1 ∧ ∃ p2 L2 : Nat, RC E D G h0 ft fp fn TT p2 nc L2 H ∧ pp + 1 ≤ p2 ∧ pd_R ZZ YY TT (4, tl :: fl, nk, L2) p2 = XX ∧ ((ft p2).toInt ≠ 261 ∧ (ft p2).toInt ≠ 262)) ∨ ((r : Int32) = 0 ∧ ∃ p2 L2 : Nat, RC E D G h0 ft fp fn TT p2 nc L2 H ∧ pp ≤ p2 ∧ XX = (p2, false)))) args s 0 0 (th_A G) = QF
  have hQ := hQ.symm
  have hRC1 := hX
  obtain ⟨hT4, hpT, ⟨w2, hg3, k4⟩, ⟨w5, hg6, k7⟩⟩ := RC.tk hRC1
  have k8 := TK.at hTK hpT
  have J_11 : ∀ (nn : Nat) (H : Heap) (locs : List Loc) (ls : Array Slot) (v1955 : Int32) (v1956 : Int32) (v1957 : Int32) (p1 : Nat) (L1 : Nat), (Int.toNat (400 - v1955.toInt) = nn) → lv_has ls 7 [(4, .int v1955), (3, .int v1956), (2, .int v1957), (0, .ref h0), (1, .int x1)] → ((0 : Int) ≤ v1955.toInt ∧ v1955.toInt ≤ 400) → ((0 : Int) ≤ v1956.toInt ∧ v1956.toInt ≤ 1) → ((0 : Int) ≤ x1.toInt ∧ x1.toInt ≤ 8) → (pp ≤ p1) → (v1955.toInt ≤ (p1 : Int)) → (SJ (v1956.toInt) (pd_R ZZ YY TT (4, tl :: fl, nk, L1) p1 = XX ∧ pp + 1 ≤ p1) (XX = (p1, false))) → (RC E D G h0 ft fp fn TT p1 nc L1 H) → th_I (okC E) D G [] H → va_S (th_A G) s.heap H locs → W p l e R s m args below meth c H locs 0 0 QF (F0 m 11 ls []) := by
    intro nn
    induction nn using Nat.strongRecOn with
    | ind nn ih_11 =>
      intro H locs ls v1955 v1956 v1957 p1 L1 hm hl k1958 k1959 k1960 hle1 hi1 hSJ hE hI hS
      have hRC1961 := hE
      obtain ⟨hT4, hpT, ⟨w1962, hg1963, k1964⟩, ⟨w1965, hg1966, k1967⟩⟩ := RC.tk hRC1961
      clear hRC1 hg3 hg6 k8
      have k1968 := TK.at hTK hpT
      refine lv_iload hx hb dX3_test_11 (lv_at hl 0 rfl) ?_
      refine lv_sipush (v := 400) hx hb dX3_test_13 (by decide) ?_
      refine lv_icmp_ge (tgt := 128) hx hb dX3_test_16 (by decide) (fun c1969 => ?_) (fun c1969 => ?_)
      · skip
        have k1970 := iv_le (X := (400)) (Y := v1955.toInt) (by decide) rfl c1969
        refine lv_aload_n hx hb dX3_test_128 rfl (lv_at hl 3 rfl) ?_
        refine lv_iload_n hx hb dX3_test_129 rfl (lv_at hl 2 rfl) ?_
        refine nx_v (As := [.int v1957]) (rest := []) (n := 1) (d := 0) ⟨hx, hb, hml, hown, hts⟩ (c_X3_aim l E D G h0 hG0 v1957 ft fp fn TT p1 nc L1) wd_743 wd_745 wp_22 wd_5 wd_746 (by decide +kernel) ⟨by rw [hR]; show 0 + 1 ≤ 22 + 3 * k; omega, by rw [hR]; show 8 + (2 + 11) + 40 * (0) ≤ 40 * (22 + 3 * k); omega⟩ hI hN hK hS hG0 (hRC1961) rfl hl.1 rfl (Nat.le_of_ble_eq_true rfl) dX3_test_130 ⟨Nat.zero_le _, Nat.zero_le _⟩ (fun H locs hI hp hS => ?_)
        have hRC1972 := hp
        obtain ⟨hT4, hpT, ⟨w1973, hg1974, k1975⟩, ⟨w1976, hg1977, k1978⟩⟩ := RC.tk hRC1972
        clear hRC1961 hg1963 hg1966 k1968
        have k1979 := TK.at hTK hpT
        refine lv_iload_n hx hb dX3_test_133 rfl (lv_at hl 1 rfl) ?_
        have hpost : ((v1956 : Int32) = 1 ∧ ∃ p2 L2 : Nat, RC E D G h0 ft fp fn TT p2 nc L2 H ∧ pp + 1 ≤ p2 ∧ pd_R ZZ YY TT (4, tl :: fl, nk, L2) p2 = XX ∧ ((ft p2).toInt ≠ 261 ∧ (ft p2).toInt ≠ 262)) ∨ ((v1956 : Int32) = 0 ∧ ∃ p2 L2 : Nat, RC E D G h0 ft fp fn TT p2 nc L2 H ∧ pp ≤ p2 ∧ XX = (p2, false)) := (SJ_out (C := (ft p1).toInt ≠ 261 ∧ (ft p1).toInt ≠ 262) hSJ (by first | exact Or.inl (by omega) | exact Or.inr ⟨by omega, by omega⟩)).elim (fun h => Or.inl ⟨i32_1 h.1, p1, L1, hRC1972, h.2.1.2, h.2.1.1, h.2.2⟩) (fun h => Or.inr ⟨i32_0 h.1, p1, L1, hRC1972, by omega, h.2⟩)
        rw [hQ]
        exact W.zret (v := v1956) hx hb hr (th_zn (by omega)) (fun t ht hW => ⟨⟨v1956, v1956, rfl, rfl, ⟨by rw [ht]; exact hI, hN.warm hW, va_K.moved hW.alike hK⟩, by first | (rw [ht]; exact hpost) | exact hpost⟩, hS.F ht⟩) hS.2.2 dX3_test_134
      · skip
        have k1980 := iv_nle (X := (400)) (Y := v1955.toInt) (by decide) rfl c1969
        refine lv_iload_n hx hb dX3_test_19 rfl (lv_at hl 1 rfl) ?_
        refine lv_if_eq (tgt := 128) hx hb dX3_test_20 (by decide) (fun c1981 => ?_) (fun c1981 => ?_)
        · skip
          have k1982 := iv_eq (X := v1956.toInt) (Y := (0)) rfl (by decide) c1981
          refine lv_aload_n hx hb dX3_test_128 rfl (lv_at hl 3 rfl) ?_
          refine lv_iload_n hx hb dX3_test_129 rfl (lv_at hl 2 rfl) ?_
          refine nx_v (As := [.int v1957]) (rest := []) (n := 1) (d := 0) ⟨hx, hb, hml, hown, hts⟩ (c_X3_aim l E D G h0 hG0 v1957 ft fp fn TT p1 nc L1) wd_743 wd_745 wp_22 wd_5 wd_746 (by decide +kernel) ⟨by rw [hR]; show 0 + 1 ≤ 22 + 3 * k; omega, by rw [hR]; show 8 + (2 + 11) + 40 * (0) ≤ 40 * (22 + 3 * k); omega⟩ hI hN hK hS hG0 (hRC1961) rfl hl.1 rfl (Nat.le_of_ble_eq_true rfl) dX3_test_130 ⟨Nat.zero_le _, Nat.zero_le _⟩ (fun H locs hI hp hS => ?_)
          have hRC1984 := hp
          obtain ⟨hT4, hpT, ⟨w1985, hg1986, k1987⟩, ⟨w1988, hg1989, k1990⟩⟩ := RC.tk hRC1984
          clear hRC1961 hg1963 hg1966 k1968
          have k1991 := TK.at hTK hpT
          refine lv_iload_n hx hb dX3_test_133 rfl (lv_at hl 1 rfl) ?_
          have hpost : ((v1956 : Int32) = 1 ∧ ∃ p2 L2 : Nat, RC E D G h0 ft fp fn TT p2 nc L2 H ∧ pp + 1 ≤ p2 ∧ pd_R ZZ YY TT (4, tl :: fl, nk, L2) p2 = XX ∧ ((ft p2).toInt ≠ 261 ∧ (ft p2).toInt ≠ 262)) ∨ ((v1956 : Int32) = 0 ∧ ∃ p2 L2 : Nat, RC E D G h0 ft fp fn TT p2 nc L2 H ∧ pp ≤ p2 ∧ XX = (p2, false)) := (SJ_out (C := (ft p1).toInt ≠ 261 ∧ (ft p1).toInt ≠ 262) hSJ (by first | exact Or.inl (by omega) | exact Or.inr ⟨by omega, by omega⟩)).elim (fun h => Or.inl ⟨i32_1 h.1, p1, L1, hRC1984, h.2.1.2, h.2.1.1, h.2.2⟩) (fun h => Or.inr ⟨i32_0 h.1, p1, L1, hRC1984, by omega, h.2⟩)
          rw [hQ]
          exact W.zret (v := v1956) hx hb hr (th_zn (by omega)) (fun t ht hW => ⟨⟨v1956, v1956, rfl, rfl, ⟨by rw [ht]; exact hI, hN.warm hW, va_K.moved hW.alike hK⟩, by first | (rw [ht]; exact hpost) | exact hpost⟩, hS.F ht⟩) hS.2.2 dX3_test_134
        · skip
          have k1992 := iv_ne (X := v1956.toInt) (Y := (0)) rfl (by decide) c1981
          refine lv_aload_n hx hb dX3_test_23 rfl (lv_at hl 3 rfl) ?_
          refine gmIC hx hb hts inT3 hown hK hI List.not_mem_nil hG0 11 (by decide) (hts _ (tb_c wd_140)) rfl rfl dX3_test_24 (fun w1993 hg1994 k1995 k1996 => ?_)
          obtain rfl := gfC.uniq (by decide) hg1966 hg1994
          refine lv_sipush (v := 261) hx hb dX3_test_27 (by decide) ?_
          have k1997 := iv_lo w1965
          have k1998 := iv_hi w1965
          refine lv_icmp_eq (tgt := 43) hx hb dX3_test_30 (by decide) (fun c1999 => ?_) (fun c1999 => ?_)
          · skip
            have k2000 := iv_eq (X := w1965.toInt) (Y := (261)) rfl (by decide) c1999
            refine lv_aload_n hx hb dX3_test_43 rfl (lv_at hl 3 rfl) ?_
            refine gmIC hx hb hts inT3 hown hK hI List.not_mem_nil hG0 11 (by decide) (hts _ (tb_c wd_140)) rfl rfl dX3_test_44 (fun w2001 hg2002 k2003 k2004 => ?_)
            obtain rfl := gfC.uniq (by decide) hg1966 hg2002
            refine lv_sipush (v := 261) hx hb dX3_test_47 (by decide) ?_
            refine lv_icmp_ne (tgt := 57) hx hb dX3_test_50 (by decide) (fun c2005 => ?_) (fun c2005 => ?_)
            · skip
              have k2006 := iv_ne (X := w1965.toInt) (Y := (261)) rfl (by decide) c2005
              exfalso; omega
            · skip
              have k2007 := iv_eq (X := w1965.toInt) (Y := (261)) rfl (by decide) c2005
              refine lv_iconst (v := 1) hx hb dX3_test_53 (by decide) ?_
              refine lv_goto (tgt := 58) hx hb dX3_test_54 (by decide) ?_
              refine lv_istore (lv' := [(5, .int 1), (4, .int v1955), (3, .int v1956), (2, .int v1957), (0, .ref h0), (1, .int x1)]) hx hb dX3_test_58 hl (by decide) rfl (fun ls hl => ?_)
              refine lv_iload hx hb dX3_test_60 (lv_at hl 0 rfl) ?_
              refine lv_if_eq (tgt := 70) hx hb dX3_test_62 (by decide) (fun c => absurd c (by decide)) (fun _ => ?_)
              refine lv_aload_n hx hb dX3_test_65 rfl (lv_at hl 4 rfl) ?_
              refine lv_iload_n hx hb dX3_test_66 rfl (lv_at hl 3 rfl) ?_
              refine nx_v (As := [.int v1957]) (rest := []) (n := 1) (d := 0) ⟨hx, hb, hml, hown, hts⟩ (c_X3_aim l E D G h0 hG0 v1957 ft fp fn TT p1 nc L1) wd_743 wd_745 wp_22 wd_5 wd_746 (by decide +kernel) ⟨by rw [hR]; show 0 + 1 ≤ 22 + 3 * k; omega, by rw [hR]; show 8 + (2 + 11) + 40 * (0) ≤ 40 * (22 + 3 * k); omega⟩ hI hN hK hS hG0 (hRC1961) rfl hl.1 rfl (Nat.le_of_ble_eq_true rfl) dX3_test_67 ⟨Nat.zero_le _, Nat.zero_le _⟩ (fun H locs hI hp hS => ?_)
              have hRC2009 := hp
              obtain ⟨hT4, hpT, ⟨w2010, hg2011, k2012⟩, ⟨w2013, hg2014, k2015⟩⟩ := RC.tk hRC2009
              clear hRC1961 hg1963 hg1966 k1968
              have k2016 := TK.at hTK hpT
              refine lv_aload_n hx hb dX3_test_70 rfl (lv_at hl 4 rfl) ?_
              refine lv_iload hx hb dX3_test_71 (lv_at hl 0 rfl) ?_
              refine lv_if_eq (tgt := 81) hx hb dX3_test_73 (by decide) (fun c => absurd c (by decide)) (fun _ => ?_)
              refine lv_bipush (v := 11) hx hb dX3_test_76 (by decide) ?_
              refine lv_goto (tgt := 83) hx hb dX3_test_78 (by decide) ?_
              refine lv_iconst (v := 0) hx hb dX3_test_83 (by decide) ?_
              refine nx_i (As := [.int 11, .int 0]) (rest := []) (n := 2) (d := 0) ⟨hx, hb, hml, hown, hts⟩ (c_X3_emit l E D G h0 hG0 11 0 ft fp fn TT p1 nc L1) wd_723 wd_725 wp_17 wd_5 wd_726 (by decide +kernel) ⟨by rw [hR]; show 0 + 1 ≤ 22 + 3 * k; omega, by rw [hR]; show 8 + (3 + 11) + 40 * (0) ≤ 40 * (22 + 3 * k); omega⟩ hI hN hK hS hG0 (hRC2009) rfl hl.1 rfl (Nat.le_of_ble_eq_true rfl) dX3_test_84 ⟨Nat.zero_le _, Nat.zero_le _⟩ (fun r2017 H locs hI hp hS => ?_)
              have hRC2018 := hp
              obtain ⟨hT4, hpT, ⟨w2019, hg2020, k2021⟩, ⟨w2022, hg2023, k2024⟩⟩ := RC.tk hRC2018
              clear hRC2009 hg2011 hg2014 k2016
              have k2025 := TK.at hTK hpT
              refine lv_istore (lv' := [(6, .int r2017), (5, .int 1), (4, .int v1955), (3, .int v1956), (2, .int v1957), (0, .ref h0), (1, .int x1)]) hx hb dX3_test_87 hl (by decide) rfl (fun ls hl => ?_)
              refine lv_aload_n hx hb dX3_test_89 rfl (lv_at hl 5 rfl) ?_
              refine lv_aload_n hx hb dX3_test_90 rfl (lv_at hl 5 rfl) ?_
              refine gmIC hx hb hts inT3 hown hK hI List.not_mem_nil hG0 10 (by decide) (hts _ (tb_c wd_139)) rfl rfl dX3_test_91 (fun w2026 hg2027 k2028 k2029 => ?_)
              obtain rfl := gfC.uniq (by decide) hg2020 hg2027
              refine lv_iconst (v := 1) hx hb dX3_test_94 (by decide) ?_
              refine lv_iadd hx hb dX3_test_95 ?_
              refine lv_topi (fun v2030 e2031 => ?_)
              have tv2030 : v2030.toInt = w2019.toInt + (1) := iv_add rfl (by decide) e2031 (by omega) (by omega)
              obtain ⟨hpi, hlp⟩ := SJ_in hSJ (by omega)
              have hpd2032 : pd_R ZZ YY TT (3, tl :: fl, nk, L1) (p1 + 1) = XX := (pd_D_an (by omega) ht45 (by omega)).symm.trans hpi
              refine nx_v (As := [.int v2030]) (rest := []) (n := 1) (d := 0) ⟨hx, hb, hml, hown, hts⟩ (c_X3_moveTo l E D G h0 hG0 v2030 ft fp fn TT (p1 + 1) nc L1 (by first | omega | decide) (by omega)) wd_707 wd_709 wp_13 wd_5 wd_710 (by decide +kernel) ⟨by rw [hR]; show 0 + 1 ≤ 22 + 3 * k; omega, by rw [hR]; show 8 + (2 + 11) + 40 * (0) ≤ 40 * (22 + 3 * k); omega⟩ hI hN hK hS hG0 ((RC.to0 hRC2018)) rfl hl.1 rfl (Nat.le_of_ble_eq_true rfl) dX3_test_96 ⟨Nat.zero_le _, Nat.zero_le _⟩ (fun H locs hI hp hS => ?_)
              have hRC2034 := hp
              obtain ⟨hT4, hpT, ⟨w2035, hg2036, k2037⟩, ⟨w2038, hg2039, k2040⟩⟩ := RC.tk hRC2034
              clear hRC2018 hg2020 hg2023 k2025
              have k2041 := TK.at hTK hpT
              refine lv_aload_n hx hb dX3_test_99 rfl (lv_at hl 5 rfl) ?_
              refine lv_iload_n hx hb dX3_test_100 rfl (lv_at hl 6 rfl) ?_
              refine nx_i (As := [.int x1]) (rest := []) (n := 1) (d := (21 + 3 * k)) ⟨hx, hb, hml, hown, hts⟩ (hplain h0 hG0 x1 ft fp fn TT (p1 + 1) nc L1 ZZ YY nk XX hTK dd (by first | decide | omega) (by omega) (by omega) (tl :: fl) hdp hpd2032) wd_735 wd_737 wp_20 wd_5 wd_738 (by decide +kernel) ⟨by rw [hR]; show (21 + 3 * k) + 1 ≤ 22 + 3 * k; omega, by rw [hR]; show 8 + (5 + 11) + 40 * ((21 + 3 * k)) ≤ 40 * (22 + 3 * k); omega⟩ hI hN hK hS hG0 (hRC2034) rfl hl.1 rfl (Nat.le_of_ble_eq_true rfl) dX3_test_101 ⟨Nat.zero_le _, Nat.zero_le _⟩ (fun r2042 H locs hI hp hS => ?_)
              rcases hp with ⟨rfl, hp⟩ | ⟨rfl, hp⟩
              · skip
                try simp only [rg, not_and, Int.not_le] at hp
                have hp2043 := hp
                obtain ⟨pn2044, Ln2045, hE, k2046, hpd2047⟩ := hp2043
                have hp2043 : True := trivial
                have hRC2048 := hE
                obtain ⟨hT4, hpT, ⟨w2049, hg2050, k2051⟩, ⟨w2052, hg2053, k2054⟩⟩ := RC.tk hRC2048
                clear hRC2034 hg2036 hg2039 k2041
                have k2055 := TK.at hTK hpT
                refine lv_istore_n (lv' := [(3, .int 1), (6, .int r2017), (5, .int 1), (4, .int v1955), (2, .int v1957), (0, .ref h0), (1, .int x1)]) hx hb dX3_test_104 rfl hl (by decide) rfl (fun ls hl => ?_)
                refine lv_iload hx hb dX3_test_105 (lv_at hl 2 rfl) ?_
                refine lv_if_eq (tgt := 116) hx hb dX3_test_107 (by decide) (fun c => absurd c (by decide)) (fun _ => ?_)
                refine lv_iload hx hb dX3_test_110 (lv_at hl 1 rfl) ?_
                refine lv_istore_n (lv' := [(2, .int r2017), (3, .int 1), (6, .int r2017), (5, .int 1), (4, .int v1955), (0, .ref h0), (1, .int x1)]) hx hb dX3_test_112 rfl hl (by decide) rfl (fun ls hl => ?_)
                refine lv_goto (tgt := 122) hx hb dX3_test_113 (by decide) ?_
                obtain ⟨v2056, e2057⟩ : ∃ y : Int32, y = v1955 + (1) := ⟨_, rfl⟩
                have tv2056 : v2056.toInt = v1955.toInt + (1) := iv_add rfl (by decide) e2057 (by omega) (by omega)
                refine lv_iinc (v := v2056) (lv' := [(4, .int v2056), (2, .int r2017), (3, .int 1), (6, .int r2017), (5, .int 1), (0, .ref h0), (1, .int x1)]) hx hb dX3_test_122 hl (k := 4) rfl (by rw [e2057]; rfl) (by decide) rfl (fun ls hl => ?_)
                refine lv_goto (tgt := 11) hx hb dX3_test_125 (by decide) ?_
                exact ih_11 _ (by omega) H locs ls v2056 1 r2017 pn2044 Ln2045 rfl (lv_sub hl [0, 2, 1, 5, 6] rfl) ⟨by omega, by omega⟩ ⟨by decide, by decide⟩ ⟨by omega, by omega⟩ (by omega) (by first | omega | (rw [show (0 : Int32).toInt = 0 from by decide]; omega)) (Or.inl ⟨by first | decide | omega, hpd2047, by omega⟩) (hRC2048) hI hS
              · skip
                try simp only [rg, not_and, Int.not_le] at hp
                have hp2058 := hp
                obtain ⟨pn2059, Ln2060, hE, k2061, hfl2062⟩ := hp2058
                have hp2058 : True := trivial
                have hRC2063 := hE
                obtain ⟨hT4, hpT, ⟨w2064, hg2065, k2066⟩, ⟨w2067, hg2068, k2069⟩⟩ := RC.tk hRC2063
                clear hRC2034 hg2036 hg2039 k2041
                have k2070 := TK.at hTK hpT
                refine lv_istore_n (lv' := [(3, .int 0), (6, .int r2017), (5, .int 1), (4, .int v1955), (2, .int v1957), (0, .ref h0), (1, .int x1)]) hx hb dX3_test_104 rfl hl (by decide) rfl (fun ls hl => ?_)
                refine lv_iload hx hb dX3_test_105 (lv_at hl 2 rfl) ?_
                refine lv_if_eq (tgt := 116) hx hb dX3_test_107 (by decide) (fun c => absurd c (by decide)) (fun _ => ?_)
                refine lv_iload hx hb dX3_test_110 (lv_at hl 1 rfl) ?_
                refine lv_istore_n (lv' := [(2, .int r2017), (3, .int 0), (6, .int r2017), (5, .int 1), (4, .int v1955), (0, .ref h0), (1, .int x1)]) hx hb dX3_test_112 rfl hl (by decide) rfl (fun ls hl => ?_)
                refine lv_goto (tgt := 122) hx hb dX3_test_113 (by decide) ?_
                obtain ⟨v2071, e2072⟩ : ∃ y : Int32, y = v1955 + (1) := ⟨_, rfl⟩
                have tv2071 : v2071.toInt = v1955.toInt + (1) := iv_add rfl (by decide) e2072 (by omega) (by omega)
                refine lv_iinc (v := v2071) (lv' := [(4, .int v2071), (2, .int r2017), (3, .int 0), (6, .int r2017), (5, .int 1), (0, .ref h0), (1, .int x1)]) hx hb dX3_test_122 hl (k := 4) rfl (by rw [e2072]; rfl) (by decide) rfl (fun ls hl => ?_)
                refine lv_goto (tgt := 11) hx hb dX3_test_125 (by decide) ?_
                exact ih_11 _ (by omega) H locs ls v2071 0 r2017 pn2059 Ln2060 rfl (lv_sub hl [0, 2, 1, 5, 6] rfl) ⟨by omega, by omega⟩ ⟨by decide, by decide⟩ ⟨by omega, by omega⟩ (by omega) (by first | omega | (rw [show (0 : Int32).toInt = 0 from by decide]; omega)) (Or.inr ⟨by first | decide | omega, hfl2062⟩) (hRC2063) hI hS
          · skip
            have k2073 := iv_ne (X := w1965.toInt) (Y := (261)) rfl (by decide) c1999
            refine lv_aload_n hx hb dX3_test_33 rfl (lv_at hl 3 rfl) ?_
            refine gmIC hx hb hts inT3 hown hK hI List.not_mem_nil hG0 11 (by decide) (hts _ (tb_c wd_140)) rfl rfl dX3_test_34 (fun w2074 hg2075 k2076 k2077 => ?_)
            obtain rfl := gfC.uniq (by decide) hg1966 hg2075
            refine lv_sipush (v := 262) hx hb dX3_test_37 (by decide) ?_
            refine lv_icmp_ne (tgt := 128) hx hb dX3_test_40 (by decide) (fun c2078 => ?_) (fun c2078 => ?_)
            · skip
              have k2079 := iv_ne (X := w1965.toInt) (Y := (262)) rfl (by decide) c2078
              refine lv_aload_n hx hb dX3_test_128 rfl (lv_at hl 3 rfl) ?_
              refine lv_iload_n hx hb dX3_test_129 rfl (lv_at hl 2 rfl) ?_
              refine nx_v (As := [.int v1957]) (rest := []) (n := 1) (d := 0) ⟨hx, hb, hml, hown, hts⟩ (c_X3_aim l E D G h0 hG0 v1957 ft fp fn TT p1 nc L1) wd_743 wd_745 wp_22 wd_5 wd_746 (by decide +kernel) ⟨by rw [hR]; show 0 + 1 ≤ 22 + 3 * k; omega, by rw [hR]; show 8 + (2 + 11) + 40 * (0) ≤ 40 * (22 + 3 * k); omega⟩ hI hN hK hS hG0 (hRC1961) rfl hl.1 rfl (Nat.le_of_ble_eq_true rfl) dX3_test_130 ⟨Nat.zero_le _, Nat.zero_le _⟩ (fun H locs hI hp hS => ?_)
              have hRC2081 := hp
              obtain ⟨hT4, hpT, ⟨w2082, hg2083, k2084⟩, ⟨w2085, hg2086, k2087⟩⟩ := RC.tk hRC2081
              clear hRC1961 hg1963 hg1966 k1968
              have k2088 := TK.at hTK hpT
              refine lv_iload_n hx hb dX3_test_133 rfl (lv_at hl 1 rfl) ?_
              have hpost : ((v1956 : Int32) = 1 ∧ ∃ p2 L2 : Nat, RC E D G h0 ft fp fn TT p2 nc L2 H ∧ pp + 1 ≤ p2 ∧ pd_R ZZ YY TT (4, tl :: fl, nk, L2) p2 = XX ∧ ((ft p2).toInt ≠ 261 ∧ (ft p2).toInt ≠ 262)) ∨ ((v1956 : Int32) = 0 ∧ ∃ p2 L2 : Nat, RC E D G h0 ft fp fn TT p2 nc L2 H ∧ pp ≤ p2 ∧ XX = (p2, false)) := (SJ_out (C := (ft p1).toInt ≠ 261 ∧ (ft p1).toInt ≠ 262) hSJ (by first | exact Or.inl (by omega) | exact Or.inr ⟨by omega, by omega⟩)).elim (fun h => Or.inl ⟨i32_1 h.1, p1, L1, hRC2081, h.2.1.2, h.2.1.1, h.2.2⟩) (fun h => Or.inr ⟨i32_0 h.1, p1, L1, hRC2081, by omega, h.2⟩)
              rw [hQ]
              exact W.zret (v := v1956) hx hb hr (th_zn (by omega)) (fun t ht hW => ⟨⟨v1956, v1956, rfl, rfl, ⟨by rw [ht]; exact hI, hN.warm hW, va_K.moved hW.alike hK⟩, by first | (rw [ht]; exact hpost) | exact hpost⟩, hS.F ht⟩) hS.2.2 dX3_test_134
            · skip
              have k2089 := iv_eq (X := w1965.toInt) (Y := (262)) rfl (by decide) c2078
              refine lv_aload_n hx hb dX3_test_43 rfl (lv_at hl 3 rfl) ?_
              refine gmIC hx hb hts inT3 hown hK hI List.not_mem_nil hG0 11 (by decide) (hts _ (tb_c wd_140)) rfl rfl dX3_test_44 (fun w2090 hg2091 k2092 k2093 => ?_)
              obtain rfl := gfC.uniq (by decide) hg1966 hg2091
              refine lv_sipush (v := 261) hx hb dX3_test_47 (by decide) ?_
              refine lv_icmp_ne (tgt := 57) hx hb dX3_test_50 (by decide) (fun c2094 => ?_) (fun c2094 => ?_)
              · skip
                have k2095 := iv_ne (X := w1965.toInt) (Y := (261)) rfl (by decide) c2094
                refine lv_iconst (v := 0) hx hb dX3_test_57 (by decide) ?_
                refine lv_istore (lv' := [(5, .int 0), (4, .int v1955), (3, .int v1956), (2, .int v1957), (0, .ref h0), (1, .int x1)]) hx hb dX3_test_58 hl (by decide) rfl (fun ls hl => ?_)
                refine lv_iload hx hb dX3_test_60 (lv_at hl 0 rfl) ?_
                refine lv_if_eq (tgt := 70) hx hb dX3_test_62 (by decide) (fun _ => ?_) (fun c => absurd c (by decide))
                refine lv_aload_n hx hb dX3_test_70 rfl (lv_at hl 4 rfl) ?_
                refine lv_iload hx hb dX3_test_71 (lv_at hl 0 rfl) ?_
                refine lv_if_eq (tgt := 81) hx hb dX3_test_73 (by decide) (fun _ => ?_) (fun c => absurd c (by decide))
                refine lv_bipush (v := 12) hx hb dX3_test_81 (by decide) ?_
                refine lv_iconst (v := 0) hx hb dX3_test_83 (by decide) ?_
                refine nx_i (As := [.int 12, .int 0]) (rest := []) (n := 2) (d := 0) ⟨hx, hb, hml, hown, hts⟩ (c_X3_emit l E D G h0 hG0 12 0 ft fp fn TT p1 nc L1) wd_723 wd_725 wp_17 wd_5 wd_726 (by decide +kernel) ⟨by rw [hR]; show 0 + 1 ≤ 22 + 3 * k; omega, by rw [hR]; show 8 + (3 + 11) + 40 * (0) ≤ 40 * (22 + 3 * k); omega⟩ hI hN hK hS hG0 (hRC1961) rfl hl.1 rfl (Nat.le_of_ble_eq_true rfl) dX3_test_84 ⟨Nat.zero_le _, Nat.zero_le _⟩ (fun r2096 H locs hI hp hS => ?_)
                have hRC2097 := hp
                obtain ⟨hT4, hpT, ⟨w2098, hg2099, k2100⟩, ⟨w2101, hg2102, k2103⟩⟩ := RC.tk hRC2097
                clear hRC1961 hg1963 hg1966 k1968
                have k2104 := TK.at hTK hpT
                refine lv_istore (lv' := [(6, .int r2096), (5, .int 0), (4, .int v1955), (3, .int v1956), (2, .int v1957), (0, .ref h0), (1, .int x1)]) hx hb dX3_test_87 hl (by decide) rfl (fun ls hl => ?_)
                refine lv_aload_n hx hb dX3_test_89 rfl (lv_at hl 5 rfl) ?_
                refine lv_aload_n hx hb dX3_test_90 rfl (lv_at hl 5 rfl) ?_
                refine gmIC hx hb hts inT3 hown hK hI List.not_mem_nil hG0 10 (by decide) (hts _ (tb_c wd_139)) rfl rfl dX3_test_91 (fun w2105 hg2106 k2107 k2108 => ?_)
                obtain rfl := gfC.uniq (by decide) hg2099 hg2106
                refine lv_iconst (v := 1) hx hb dX3_test_94 (by decide) ?_
                refine lv_iadd hx hb dX3_test_95 ?_
                refine lv_topi (fun v2109 e2110 => ?_)
                have tv2109 : v2109.toInt = w2098.toInt + (1) := iv_add rfl (by decide) e2110 (by omega) (by omega)
                obtain ⟨hpi, hlp⟩ := SJ_in hSJ (by omega)
                have hpd2111 : pd_R ZZ YY TT (3, tl :: fl, nk, L1) (p1 + 1) = XX := (pd_D_an (by omega) ht45 (by omega)).symm.trans hpi
                refine nx_v (As := [.int v2109]) (rest := []) (n := 1) (d := 0) ⟨hx, hb, hml, hown, hts⟩ (c_X3_moveTo l E D G h0 hG0 v2109 ft fp fn TT (p1 + 1) nc L1 (by first | omega | decide) (by omega)) wd_707 wd_709 wp_13 wd_5 wd_710 (by decide +kernel) ⟨by rw [hR]; show 0 + 1 ≤ 22 + 3 * k; omega, by rw [hR]; show 8 + (2 + 11) + 40 * (0) ≤ 40 * (22 + 3 * k); omega⟩ hI hN hK hS hG0 ((RC.to0 hRC2097)) rfl hl.1 rfl (Nat.le_of_ble_eq_true rfl) dX3_test_96 ⟨Nat.zero_le _, Nat.zero_le _⟩ (fun H locs hI hp hS => ?_)
                have hRC2113 := hp
                obtain ⟨hT4, hpT, ⟨w2114, hg2115, k2116⟩, ⟨w2117, hg2118, k2119⟩⟩ := RC.tk hRC2113
                clear hRC2097 hg2099 hg2102 k2104
                have k2120 := TK.at hTK hpT
                refine lv_aload_n hx hb dX3_test_99 rfl (lv_at hl 5 rfl) ?_
                refine lv_iload_n hx hb dX3_test_100 rfl (lv_at hl 6 rfl) ?_
                refine nx_i (As := [.int x1]) (rest := []) (n := 1) (d := (21 + 3 * k)) ⟨hx, hb, hml, hown, hts⟩ (hplain h0 hG0 x1 ft fp fn TT (p1 + 1) nc L1 ZZ YY nk XX hTK dd (by first | decide | omega) (by omega) (by omega) (tl :: fl) hdp hpd2111) wd_735 wd_737 wp_20 wd_5 wd_738 (by decide +kernel) ⟨by rw [hR]; show (21 + 3 * k) + 1 ≤ 22 + 3 * k; omega, by rw [hR]; show 8 + (5 + 11) + 40 * ((21 + 3 * k)) ≤ 40 * (22 + 3 * k); omega⟩ hI hN hK hS hG0 (hRC2113) rfl hl.1 rfl (Nat.le_of_ble_eq_true rfl) dX3_test_101 ⟨Nat.zero_le _, Nat.zero_le _⟩ (fun r2121 H locs hI hp hS => ?_)
                rcases hp with ⟨rfl, hp⟩ | ⟨rfl, hp⟩
                · skip
                  try simp only [rg, not_and, Int.not_le] at hp
                  have hp2122 := hp
                  obtain ⟨pn2123, Ln2124, hE, k2125, hpd2126⟩ := hp2122
                  have hp2122 : True := trivial
                  have hRC2127 := hE
                  obtain ⟨hT4, hpT, ⟨w2128, hg2129, k2130⟩, ⟨w2131, hg2132, k2133⟩⟩ := RC.tk hRC2127
                  clear hRC2113 hg2115 hg2118 k2120
                  have k2134 := TK.at hTK hpT
                  refine lv_istore_n (lv' := [(3, .int 1), (6, .int r2096), (5, .int 0), (4, .int v1955), (2, .int v1957), (0, .ref h0), (1, .int x1)]) hx hb dX3_test_104 rfl hl (by decide) rfl (fun ls hl => ?_)
                  refine lv_iload hx hb dX3_test_105 (lv_at hl 2 rfl) ?_
                  refine lv_if_eq (tgt := 116) hx hb dX3_test_107 (by decide) (fun _ => ?_) (fun c => absurd c (by decide))
                  refine lv_aload_n hx hb dX3_test_116 rfl (lv_at hl 5 rfl) ?_
                  refine lv_iload hx hb dX3_test_117 (lv_at hl 1 rfl) ?_
                  refine nx_v (As := [.int r2096]) (rest := []) (n := 1) (d := 0) ⟨hx, hb, hml, hown, hts⟩ (c_X3_aim l E D G h0 hG0 r2096 ft fp fn TT pn2123 nc Ln2124) wd_743 wd_745 wp_22 wd_5 wd_746 (by decide +kernel) ⟨by rw [hR]; show 0 + 1 ≤ 22 + 3 * k; omega, by rw [hR]; show 8 + (2 + 11) + 40 * (0) ≤ 40 * (22 + 3 * k); omega⟩ hI hN hK hS hG0 (hRC2127) rfl hl.1 rfl (Nat.le_of_ble_eq_true rfl) dX3_test_119 ⟨Nat.zero_le _, Nat.zero_le _⟩ (fun H locs hI hp hS => ?_)
                  have hRC2136 := hp
                  obtain ⟨hT4, hpT, ⟨w2137, hg2138, k2139⟩, ⟨w2140, hg2141, k2142⟩⟩ := RC.tk hRC2136
                  clear hRC2127 hg2129 hg2132 k2134
                  have k2143 := TK.at hTK hpT
                  obtain ⟨v2144, e2145⟩ : ∃ y : Int32, y = v1955 + (1) := ⟨_, rfl⟩
                  have tv2144 : v2144.toInt = v1955.toInt + (1) := iv_add rfl (by decide) e2145 (by omega) (by omega)
                  refine lv_iinc (v := v2144) (lv' := [(4, .int v2144), (3, .int 1), (6, .int r2096), (5, .int 0), (2, .int v1957), (0, .ref h0), (1, .int x1)]) hx hb dX3_test_122 hl (k := 3) rfl (by rw [e2145]; rfl) (by decide) rfl (fun ls hl => ?_)
                  refine lv_goto (tgt := 11) hx hb dX3_test_125 (by decide) ?_
                  exact ih_11 _ (by omega) H locs ls v2144 1 v1957 pn2123 Ln2124 rfl (lv_sub hl [0, 1, 4, 5, 6] rfl) ⟨by omega, by omega⟩ ⟨by decide, by decide⟩ ⟨by omega, by omega⟩ (by omega) (by first | omega | (rw [show (0 : Int32).toInt = 0 from by decide]; omega)) (Or.inl ⟨by first | decide | omega, hpd2126, by omega⟩) (hRC2136) hI hS
                · skip
                  try simp only [rg, not_and, Int.not_le] at hp
                  have hp2146 := hp
                  obtain ⟨pn2147, Ln2148, hE, k2149, hfl2150⟩ := hp2146
                  have hp2146 : True := trivial
                  have hRC2151 := hE
                  obtain ⟨hT4, hpT, ⟨w2152, hg2153, k2154⟩, ⟨w2155, hg2156, k2157⟩⟩ := RC.tk hRC2151
                  clear hRC2113 hg2115 hg2118 k2120
                  have k2158 := TK.at hTK hpT
                  refine lv_istore_n (lv' := [(3, .int 0), (6, .int r2096), (5, .int 0), (4, .int v1955), (2, .int v1957), (0, .ref h0), (1, .int x1)]) hx hb dX3_test_104 rfl hl (by decide) rfl (fun ls hl => ?_)
                  refine lv_iload hx hb dX3_test_105 (lv_at hl 2 rfl) ?_
                  refine lv_if_eq (tgt := 116) hx hb dX3_test_107 (by decide) (fun _ => ?_) (fun c => absurd c (by decide))
                  refine lv_aload_n hx hb dX3_test_116 rfl (lv_at hl 5 rfl) ?_
                  refine lv_iload hx hb dX3_test_117 (lv_at hl 1 rfl) ?_
                  refine nx_v (As := [.int r2096]) (rest := []) (n := 1) (d := 0) ⟨hx, hb, hml, hown, hts⟩ (c_X3_aim l E D G h0 hG0 r2096 ft fp fn TT pn2147 nc Ln2148) wd_743 wd_745 wp_22 wd_5 wd_746 (by decide +kernel) ⟨by rw [hR]; show 0 + 1 ≤ 22 + 3 * k; omega, by rw [hR]; show 8 + (2 + 11) + 40 * (0) ≤ 40 * (22 + 3 * k); omega⟩ hI hN hK hS hG0 (hRC2151) rfl hl.1 rfl (Nat.le_of_ble_eq_true rfl) dX3_test_119 ⟨Nat.zero_le _, Nat.zero_le _⟩ (fun H locs hI hp hS => ?_)
                  have hRC2160 := hp
                  obtain ⟨hT4, hpT, ⟨w2161, hg2162, k2163⟩, ⟨w2164, hg2165, k2166⟩⟩ := RC.tk hRC2160
                  clear hRC2151 hg2153 hg2156 k2158
                  have k2167 := TK.at hTK hpT
                  obtain ⟨v2168, e2169⟩ : ∃ y : Int32, y = v1955 + (1) := ⟨_, rfl⟩
                  have tv2168 : v2168.toInt = v1955.toInt + (1) := iv_add rfl (by decide) e2169 (by omega) (by omega)
                  refine lv_iinc (v := v2168) (lv' := [(4, .int v2168), (3, .int 0), (6, .int r2096), (5, .int 0), (2, .int v1957), (0, .ref h0), (1, .int x1)]) hx hb dX3_test_122 hl (k := 3) rfl (by rw [e2169]; rfl) (by decide) rfl (fun ls hl => ?_)
                  refine lv_goto (tgt := 11) hx hb dX3_test_125 (by decide) ?_
                  exact ih_11 _ (by omega) H locs ls v2168 0 v1957 pn2147 Ln2148 rfl (lv_sub hl [0, 1, 4, 5, 6] rfl) ⟨by omega, by omega⟩ ⟨by decide, by decide⟩ ⟨by omega, by omega⟩ (by omega) (by first | omega | (rw [show (0 : Int32).toInt = 0 from by decide]; omega)) (Or.inr ⟨by first | decide | omega, hfl2150⟩) (hRC2160) hI hS
              · skip
                have k2170 := iv_eq (X := w1965.toInt) (Y := (261)) rfl (by decide) c2094
                exfalso; omega
  refine lv_iconst (v := (-1)) hx hb dX3_test_0 (by decide) ?_
  refine lv_istore_n (lv' := [(2, .int (-1)), (0, .ref h0), (1, .int x1)]) hx hb dX3_test_1 rfl hl (by decide) rfl (fun ls hl => ?_)
  refine lv_aload_n hx hb dX3_test_2 rfl (lv_at hl 1 rfl) ?_
  refine lv_iload_n hx hb dX3_test_3 rfl (lv_at hl 2 rfl) ?_
  refine nx_i (As := [.int x1]) (rest := []) (n := 1) (d := (21 + 3 * k)) ⟨hx, hb, hml, hown, hts⟩ (hplain h0 hG0 x1 ft fp fn TT pp nc LL ZZ YY nk XX hTK dd (by first | decide | omega) (by omega) (by omega) (tl :: fl) hdp hpd) wd_735 wd_737 wp_20 wd_5 wd_738 (by decide +kernel) ⟨by rw [hR]; show (21 + 3 * k) + 1 ≤ 22 + 3 * k; omega, by rw [hR]; show 8 + (5 + 11) + 40 * ((21 + 3 * k)) ≤ 40 * (22 + 3 * k); omega⟩ hI hN hK hS hG0 (hRC1) rfl hl.1 rfl (Nat.le_of_ble_eq_true rfl) dX3_test_4 ⟨Nat.zero_le _, Nat.zero_le _⟩ (fun r2171 H locs hI hp hS => ?_)
  rcases hp with ⟨rfl, hp⟩ | ⟨rfl, hp⟩
  · skip
    try simp only [rg, not_and, Int.not_le] at hp
    have hp2172 := hp
    obtain ⟨pn2173, Ln2174, hE, k2175, hpd2176⟩ := hp2172
    have hp2172 : True := trivial
    have hRC2177 := hE
    obtain ⟨hT4, hpT, ⟨w2178, hg2179, k2180⟩, ⟨w2181, hg2182, k2183⟩⟩ := RC.tk hRC2177
    clear hRC1 hg3 hg6 k8
    have k2184 := TK.at hTK hpT
    refine lv_istore_n (lv' := [(3, .int 1), (2, .int (-1)), (0, .ref h0), (1, .int x1)]) hx hb dX3_test_7 rfl hl (by decide) rfl (fun ls hl => ?_)
    refine lv_iconst (v := 0) hx hb dX3_test_8 (by decide) ?_
    refine lv_istore (lv' := [(4, .int 0), (3, .int 1), (2, .int (-1)), (0, .ref h0), (1, .int x1)]) hx hb dX3_test_9 hl (by decide) rfl (fun ls hl => ?_)
    have zl : (0 : Int32).toInt = 0 := by decide
    exact J_11 _ H locs ls 0 1 (-1) pn2173 Ln2174 rfl (lv_sub hl [0, 1, 2, 3, 4] rfl) ⟨by decide, by decide⟩ ⟨by decide, by decide⟩ ⟨by omega, by omega⟩ (by omega) (by first | omega | (rw [show (0 : Int32).toInt = 0 from by decide]; omega)) (Or.inl ⟨by first | decide | omega, hpd2176, by omega⟩) (hRC2177) hI hS
  · skip
    try simp only [rg, not_and, Int.not_le] at hp
    have hp2185 := hp
    obtain ⟨pn2186, Ln2187, hE, k2188, hfl2189⟩ := hp2185
    have hp2185 : True := trivial
    have hRC2190 := hE
    obtain ⟨hT4, hpT, ⟨w2191, hg2192, k2193⟩, ⟨w2194, hg2195, k2196⟩⟩ := RC.tk hRC2190
    clear hRC1 hg3 hg6 k8
    have k2197 := TK.at hTK hpT
    refine lv_istore_n (lv' := [(3, .int 0), (2, .int (-1)), (0, .ref h0), (1, .int x1)]) hx hb dX3_test_7 rfl hl (by decide) rfl (fun ls hl => ?_)
    refine lv_iconst (v := 0) hx hb dX3_test_8 (by decide) ?_
    refine lv_istore (lv' := [(4, .int 0), (3, .int 0), (2, .int (-1)), (0, .ref h0), (1, .int x1)]) hx hb dX3_test_9 hl (by decide) rfl (fun ls hl => ?_)
    have zl : (0 : Int32).toInt = 0 := by decide
    exact J_11 _ H locs ls 0 0 (-1) pn2186 Ln2187 rfl (lv_sub hl [0, 1, 2, 3, 4] rfl) ⟨by decide, by decide⟩ ⟨by decide, by decide⟩ ⟨by omega, by omega⟩ (by omega) (by first | omega | (rw [show (0 : Int32).toInt = 0 from by decide]; omega)) (Or.inr ⟨by first | decide | omega, hfl2189⟩) (hRC2190) hI hS
theorem dX3_enclosed_0g : (decode cX3_enclosed 0 = .ok (.iload_n 1, 1)) ∧ (decode cX3_enclosed 1 = .ok (.bipush 8, 2)) ∧ (decode cX3_enclosed 3 = .ok (.if_icmp .lt 5, 3)) ∧ (decode cX3_enclosed 6 = .ok (.iconst 0, 1)) ∧ (decode cX3_enclosed 7 = .ok (.ireturn, 1)) ∧ (decode cX3_enclosed 8 = .ok (.aload_n 0, 1)) ∧ (decode cX3_enclosed 9 = .ok (.aload_n 0, 1)) ∧ (decode cX3_enclosed 10 = .ok (.getfield 43, 3)) ∧ (decode cX3_enclosed 13 = .ok (.iconst 1, 1)) ∧ (decode cX3_enclosed 14 = .ok (.iadd, 1)) := by decide +kernel
theorem dX3_enclosed_0 : decode cX3_enclosed 0 = .ok (.iload_n 1, 1) := dX3_enclosed_0g.1
theorem dX3_enclosed_1 : decode cX3_enclosed 1 = .ok (.bipush 8, 2) := dX3_enclosed_0g.2.1
theorem dX3_enclosed_3 : decode cX3_enclosed 3 = .ok (.if_icmp .lt 5, 3) := dX3_enclosed_0g.2.2.1
theorem dX3_enclosed_6 : decode cX3_enclosed 6 = .ok (.iconst 0, 1) := dX3_enclosed_0g.2.2.2.1
theorem dX3_enclosed_7 : decode cX3_enclosed 7 = .ok (.ireturn, 1) := dX3_enclosed_0g.2.2.2.2.1
theorem dX3_enclosed_8 : decode cX3_enclosed 8 = .ok (.aload_n 0, 1) := dX3_enclosed_0g.2.2.2.2.2.1
theorem dX3_enclosed_9 : decode cX3_enclosed 9 = .ok (.aload_n 0, 1) := dX3_enclosed_0g.2.2.2.2.2.2.1
theorem dX3_enclosed_10 : decode cX3_enclosed 10 = .ok (.getfield 43, 3) := dX3_enclosed_0g.2.2.2.2.2.2.2.1
theorem dX3_enclosed_13 : decode cX3_enclosed 13 = .ok (.iconst 1, 1) := dX3_enclosed_0g.2.2.2.2.2.2.2.2.1
theorem dX3_enclosed_14 : decode cX3_enclosed 14 = .ok (.iadd, 1) := dX3_enclosed_0g.2.2.2.2.2.2.2.2.2
theorem dX3_enclosed_15g : (decode cX3_enclosed 15 = .ok (.invokevirtual 66, 3)) ∧ (decode cX3_enclosed 18 = .ok (.aload_n 0, 1)) ∧ (decode cX3_enclosed 19 = .ok (.iload_n 1, 1)) ∧ (decode cX3_enclosed 20 = .ok (.iconst 1, 1)) ∧ (decode cX3_enclosed 21 = .ok (.iadd, 1)) ∧ (decode cX3_enclosed 22 = .ok (.invokevirtual 100, 3)) ∧ (decode cX3_enclosed 25 = .ok (.ifCond .eq 16, 3)) ∧ (decode cX3_enclosed 28 = .ok (.aload_n 0, 1)) ∧ (decode cX3_enclosed 29 = .ok (.getfield 46, 3)) ∧ (decode cX3_enclosed 32 = .ok (.bipush 41, 2)) := by decide +kernel
theorem dX3_enclosed_15 : decode cX3_enclosed 15 = .ok (.invokevirtual 66, 3) := dX3_enclosed_15g.1
theorem dX3_enclosed_18 : decode cX3_enclosed 18 = .ok (.aload_n 0, 1) := dX3_enclosed_15g.2.1
theorem dX3_enclosed_19 : decode cX3_enclosed 19 = .ok (.iload_n 1, 1) := dX3_enclosed_15g.2.2.1
theorem dX3_enclosed_20 : decode cX3_enclosed 20 = .ok (.iconst 1, 1) := dX3_enclosed_15g.2.2.2.1
theorem dX3_enclosed_21 : decode cX3_enclosed 21 = .ok (.iadd, 1) := dX3_enclosed_15g.2.2.2.2.1
theorem dX3_enclosed_22 : decode cX3_enclosed 22 = .ok (.invokevirtual 100, 3) := dX3_enclosed_15g.2.2.2.2.2.1
theorem dX3_enclosed_25 : decode cX3_enclosed 25 = .ok (.ifCond .eq 16, 3) := dX3_enclosed_15g.2.2.2.2.2.2.1
theorem dX3_enclosed_28 : decode cX3_enclosed 28 = .ok (.aload_n 0, 1) := dX3_enclosed_15g.2.2.2.2.2.2.2.1
theorem dX3_enclosed_29 : decode cX3_enclosed 29 = .ok (.getfield 46, 3) := dX3_enclosed_15g.2.2.2.2.2.2.2.2.1
theorem dX3_enclosed_32 : decode cX3_enclosed 32 = .ok (.bipush 41, 2) := dX3_enclosed_15g.2.2.2.2.2.2.2.2.2
theorem dX3_enclosed_34g : (decode cX3_enclosed 34 = .ok (.if_icmp .ne 7, 3)) ∧ (decode cX3_enclosed 37 = .ok (.iconst 1, 1)) ∧ (decode cX3_enclosed 38 = .ok (.goto 4, 3)) ∧ (decode cX3_enclosed 41 = .ok (.iconst 0, 1)) ∧ (decode cX3_enclosed 42 = .ok (.istore_n 2, 1)) ∧ (decode cX3_enclosed 43 = .ok (.aload_n 0, 1)) ∧ (decode cX3_enclosed 44 = .ok (.iload_n 2, 1)) ∧ (decode cX3_enclosed 45 = .ok (.ifCond .eq 12, 3)) ∧ (decode cX3_enclosed 48 = .ok (.aload_n 0, 1)) ∧ (decode cX3_enclosed 49 = .ok (.getfield 43, 3)) := by decide +kernel
theorem dX3_enclosed_34 : decode cX3_enclosed 34 = .ok (.if_icmp .ne 7, 3) := dX3_enclosed_34g.1
theorem dX3_enclosed_37 : decode cX3_enclosed 37 = .ok (.iconst 1, 1) := dX3_enclosed_34g.2.1
theorem dX3_enclosed_38 : decode cX3_enclosed 38 = .ok (.goto 4, 3) := dX3_enclosed_34g.2.2.1
theorem dX3_enclosed_41 : decode cX3_enclosed 41 = .ok (.iconst 0, 1) := dX3_enclosed_34g.2.2.2.1
theorem dX3_enclosed_42 : decode cX3_enclosed 42 = .ok (.istore_n 2, 1) := dX3_enclosed_34g.2.2.2.2.1
theorem dX3_enclosed_43 : decode cX3_enclosed 43 = .ok (.aload_n 0, 1) := dX3_enclosed_34g.2.2.2.2.2.1
theorem dX3_enclosed_44 : decode cX3_enclosed 44 = .ok (.iload_n 2, 1) := dX3_enclosed_34g.2.2.2.2.2.2.1
theorem dX3_enclosed_45 : decode cX3_enclosed 45 = .ok (.ifCond .eq 12, 3) := dX3_enclosed_34g.2.2.2.2.2.2.2.1
theorem dX3_enclosed_48 : decode cX3_enclosed 48 = .ok (.aload_n 0, 1) := dX3_enclosed_34g.2.2.2.2.2.2.2.2.1
theorem dX3_enclosed_49 : decode cX3_enclosed 49 = .ok (.getfield 43, 3) := dX3_enclosed_34g.2.2.2.2.2.2.2.2.2
theorem dX3_enclosed_52g : (decode cX3_enclosed 52 = .ok (.iconst 1, 1)) ∧ (decode cX3_enclosed 53 = .ok (.iadd, 1)) ∧ (decode cX3_enclosed 54 = .ok (.goto 7, 3)) ∧ (decode cX3_enclosed 57 = .ok (.aload_n 0, 1)) ∧ (decode cX3_enclosed 58 = .ok (.getfield 43, 3)) ∧ (decode cX3_enclosed 61 = .ok (.invokevirtual 66, 3)) ∧ (decode cX3_enclosed 64 = .ok (.iload_n 2, 1)) ∧ (decode cX3_enclosed 65 = .ok (.ireturn, 1)) := by decide +kernel
theorem dX3_enclosed_52 : decode cX3_enclosed 52 = .ok (.iconst 1, 1) := dX3_enclosed_52g.1
theorem dX3_enclosed_53 : decode cX3_enclosed 53 = .ok (.iadd, 1) := dX3_enclosed_52g.2.1
theorem dX3_enclosed_54 : decode cX3_enclosed 54 = .ok (.goto 7, 3) := dX3_enclosed_52g.2.2.1
theorem dX3_enclosed_57 : decode cX3_enclosed 57 = .ok (.aload_n 0, 1) := dX3_enclosed_52g.2.2.2.1
theorem dX3_enclosed_58 : decode cX3_enclosed 58 = .ok (.getfield 43, 3) := dX3_enclosed_52g.2.2.2.2.1
theorem dX3_enclosed_61 : decode cX3_enclosed 61 = .ok (.invokevirtual 66, 3) := dX3_enclosed_52g.2.2.2.2.2.1
theorem dX3_enclosed_64 : decode cX3_enclosed 64 = .ok (.iload_n 2, 1) := dX3_enclosed_52g.2.2.2.2.2.2.1
theorem dX3_enclosed_65 : decode cX3_enclosed 65 = .ok (.ireturn, 1) := dX3_enclosed_52g.2.2.2.2.2.2.2
set_option maxHeartbeats 4000000 in
set_option maxRecDepth 100000 in
theorem c_X3_enclosed (l : Launch) (E : Nat → Nat) (D : va_G) (G : th_G) (k : Nat) : ∀ (h0 : Nat) (hG0 : G h0 = some (7, 12)) (x1 : Int32) (ft fp fn : Nat → Int32) (TT pp nc LL : Nat) (ZZ : Nat → Int) (YY : Nat → Bool) (nk : Nat) (XX : Nat × Bool) (hTK : TK ft fn TT ZZ YY) (dd : Nat) (hdd : x1.toInt = (dd : Int)) (hd8 : dd ≤ 8) (hk : 8 ≤ dd + k) (fl : List Nat) (hdp : pd_dp (fl) = dd) (hpd : pd_R ZZ YY TT (3, fl, nk, LL) pp = XX) (hc40 : (ft pp).toInt = 40), Met l yX3_enclosed (tb (.code yX3_enclosed cX3_enclosed 3 (some .boolean))) (rm (20 + 3 * k)) (va_Pc [.ref h0, .int x1] (PCx E D G (fun H => RC E D G h0 ft fp fn TT pp nc LL H))) (QCi E D G (fun r H => ((r : Int32) = 1 ∧ ∃ p2 L2 : Nat, RC E D G h0 ft fp fn TT p2 nc L2 H ∧ pp + 1 ≤ p2 ∧ pd_R ZZ YY TT (4, fl, nk, L2) p2 = XX) ∨ ((r : Int32) = 0 ∧ ∃ p2 L2 : Nat, RC E D G h0 ft fp fn TT p2 nc L2 H ∧ pp ≤ p2 ∧ XX = (p2, false)))) 0 0 (th_A G) := by
  induction k using Nat.strongRecOn with
  | ind k ih =>
  intro h0 hG0 x1 ft fp fn TT pp nc LL ZZ YY nk XX hTK dd hdd hd8 hk fl hdp hpd hc40
  refine Met.ofW (cc := cX3_enclosed) (maxL := 3) (ret := (some .boolean)) (by decide) rfl ?_
  intro p e s m args below meth c s₁ B hml hv
  obtain ⟨hav, ⟨hI, hN, hK⟩, hX⟩ := hv
  have hx := B.exec
  have hb := B.bytes
  have hr := B.returns
  have hts := atoms_spec (ws := tb (.code yX3_enclosed cX3_enclosed 3 (some .boolean))) B.pre
  have hown : s.vm.findClass RX3 = some m.cls := findClass_of_methodNamed B.named
  have hlocks := B.notSynchronized
  have hS : va_S (th_A G) s.heap s.heap [] := va_S.rf
  have hl := lv_entry ([.ref h0, .int x1]) (n := 3) (Nat.le_of_ble_eq_true rfl)
  rw [show entryFrame m args 3 = entryFrame m ([.ref h0, .int x1] : List Value).toArray 3 from by rw [hav], lg_entry_eq]
  generalize (lg_sl ([.ref h0, .int x1]) ++ List.replicate (3 - (lg_sl ([.ref h0, .int x1])).length) Slot.unset).toArray = ls at hl ⊢
  have hl : lv_has ls 3 [(0, .ref h0), (1, .int x1)] := hl
  generalize hR : (headSpec (tb (.code yX3_enclosed cX3_enclosed 3 (some .boolean))) (rm (20 + 3 * k))).room = R
  have hR := hR.symm
  generalize hQ : MQ below (QCi E D G (fun r H => ((r : Int32) = 1 ∧ ∃ p2 L2 : Nat, RC E D G h0 ft fp fn TT p2 nc L2 H ∧ pp + 1 ≤ p2 ∧ pd_R ZZ YY TT (4, fl, nk, L2) p2 = XX) ∨ ((r : Int32) = 0 ∧ ∃ p2 L2 : Nat, RC E D G h0 ft fp fn TT p2 nc L2 H ∧ pp ≤ p2 ∧ XX = (p2, false)))) args s 0 0 (th_A G) = QF
  have hQ := hQ.symm
  have hRC1 := hX
  obtain ⟨hT4, hpT, ⟨w2, hg3, k4⟩, ⟨w5, hg6, k7⟩⟩ := RC.tk hRC1
  have k8 := TK.at hTK hpT
  refine lv_iload_n hx hb dX3_enclosed_0 rfl (lv_at hl 1 rfl) ?_
  refine lv_bipush (v := 8) hx hb dX3_enclosed_1 (by decide) ?_
  refine lv_icmp_lt (tgt := 8) hx hb dX3_enclosed_3 (by decide) (fun c9 => ?_) (fun c9 => ?_)
  · skip
    have k10 := iv_lt (X := x1.toInt) (Y := (8)) rfl (by decide) c9
    refine lv_aload_n hx hb dX3_enclosed_8 rfl (lv_at hl 0 rfl) ?_
    refine lv_aload_n hx hb dX3_enclosed_9 rfl (lv_at hl 0 rfl) ?_
    refine gmIC hx hb hts inT3 hown hK hI List.not_mem_nil hG0 10 (by decide) (hts _ (tb_c wd_139)) rfl rfl dX3_enclosed_10 (fun w11 hg12 k13 k14 => ?_)
    obtain rfl := gfC.uniq (by decide) hg3 hg12
    refine lv_iconst (v := 1) hx hb dX3_enclosed_13 (by decide) ?_
    refine lv_iadd hx hb dX3_enclosed_14 ?_
    refine lv_topi (fun v15 e16 => ?_)
    have tv15 : v15.toInt = w2.toInt + (1) := iv_add rfl (by decide) e16 (by omega) (by omega)
    have hpd17 : pd_R ZZ YY TT (3, 4 :: fl, nk, LL) (pp + 1) = XX := (pd_Q_br (by omega) (by omega) (by omega)).symm.trans hpd
    refine nx_v (As := [.int v15]) (rest := []) (n := 1) (d := 0) ⟨hx, hb, hml, hown, hts⟩ (c_X3_moveTo l E D G h0 hG0 v15 ft fp fn TT (pp + 1) nc LL (by first | omega | decide) (by omega)) wd_707 wd_709 wp_13 wd_5 wd_710 (by decide +kernel) ⟨by rw [hR]; show 0 + 1 ≤ 20 + 3 * k; omega, by rw [hR]; show 8 + (2 + 11) + 40 * (0) ≤ 40 * (20 + 3 * k); omega⟩ hI hN hK hS hG0 ((RC.to0 hRC1)) rfl hl.1 rfl (Nat.le_of_ble_eq_true rfl) dX3_enclosed_15 ⟨Nat.zero_le _, Nat.zero_le _⟩ (fun H locs hI hp hS => ?_)
    have hRC19 := hp
    obtain ⟨hT4, hpT, ⟨w20, hg21, k22⟩, ⟨w23, hg24, k25⟩⟩ := RC.tk hRC19
    clear hRC1 hg3 hg6 k8
    have k26 := TK.at hTK hpT
    refine lv_aload_n hx hb dX3_enclosed_18 rfl (lv_at hl 0 rfl) ?_
    refine lv_iload_n hx hb dX3_enclosed_19 rfl (lv_at hl 1 rfl) ?_
    refine lv_iconst (v := 1) hx hb dX3_enclosed_20 (by decide) ?_
    refine lv_iadd hx hb dX3_enclosed_21 ?_
    refine lv_topi (fun v27 e28 => ?_)
    have tv27 : v27.toInt = x1.toInt + (1) := iv_add rfl (by decide) e28 (by omega) (by omega)
    refine nx_i (As := [.int v27]) (rest := []) (n := 1) (d := (22 + 3 * (k - 1))) ⟨hx, hb, hml, hown, hts⟩ (c_X3_test l E D G (k - 1) h0 hG0 v27 ft fp fn TT (pp + 1) nc LL ZZ YY nk XX hTK (dd + 1) (by first | decide | omega) (by omega) (by omega) 4 fl (Or.inl rfl) (by rw [pd_dp4, hdp]) hpd17 (fun h9 g9 x9 f1 f2 f3 T9 p9 c9 L9 Z9 Y9 n9 X9 t9 d9 e1 e2 e3 l9 e4 e5 => c_X3_plain l E D G (k - 1) h9 g9 x9 f1 f2 f3 T9 p9 c9 L9 Z9 Y9 n9 X9 t9 d9 e1 e2 e3 l9 e4 e5 (ih (k - 1) (by omega)))) wd_731 wd_733 wp_19 wd_5 wd_734 (by decide +kernel) ⟨by rw [hR]; show (22 + 3 * (k - 1)) + 1 ≤ 20 + 3 * k; omega, by rw [hR]; show 8 + (7 + 11) + 40 * ((22 + 3 * (k - 1))) ≤ 40 * (20 + 3 * k); omega⟩ hI hN hK hS hG0 (hRC19) rfl hl.1 rfl (Nat.le_of_ble_eq_true rfl) dX3_enclosed_22 ⟨Nat.zero_le _, Nat.zero_le _⟩ (fun r29 H locs hI hp hS => ?_)
    rcases hp with ⟨rfl, hp⟩ | ⟨rfl, hp⟩
    · skip
      try simp only [rg, not_and, Int.not_le] at hp
      have hp30 := hp
      obtain ⟨pn31, Ln32, hE, k33, hpd34, hno35⟩ := hp30
      have hp30 : True := trivial
      have hRC36 := hE
      obtain ⟨hT4, hpT, ⟨w37, hg38, k39⟩, ⟨w40, hg41, k42⟩⟩ := RC.tk hRC36
      clear hRC19 hg21 hg24 k26
      have k43 := TK.at hTK hpT
      refine lv_if_eq (tgt := 41) hx hb dX3_enclosed_25 (by decide) (fun c => absurd c (by decide)) (fun _ => ?_)
      refine lv_aload_n hx hb dX3_enclosed_28 rfl (lv_at hl 0 rfl) ?_
      refine gmIC hx hb hts inT3 hown hK hI List.not_mem_nil hG0 11 (by decide) (hts _ (tb_c wd_140)) rfl rfl dX3_enclosed_29 (fun w44 hg45 k46 k47 => ?_)
      obtain rfl := gfC.uniq (by decide) hg41 hg45
      refine lv_bipush (v := 41) hx hb dX3_enclosed_32 (by decide) ?_
      have k48 := iv_lo w40
      have k49 := iv_hi w40
      refine lv_icmp_ne (tgt := 41) hx hb dX3_enclosed_34 (by decide) (fun c50 => ?_) (fun c50 => ?_)
      · skip
        have k51 := iv_ne (X := w40.toInt) (Y := (41)) rfl (by decide) c50
        refine lv_iconst (v := 0) hx hb dX3_enclosed_41 (by decide) ?_
        refine lv_istore_n (lv' := [(2, .int 0), (0, .ref h0), (1, .int x1)]) hx hb dX3_enclosed_42 rfl hl (by decide) rfl (fun ls hl => ?_)
        refine lv_aload_n hx hb dX3_enclosed_43 rfl (lv_at hl 1 rfl) ?_
        refine lv_iload_n hx hb dX3_enclosed_44 rfl (lv_at hl 0 rfl) ?_
        refine lv_if_eq (tgt := 57) hx hb dX3_enclosed_45 (by decide) (fun _ => ?_) (fun c => absurd c (by decide))
        refine lv_aload_n hx hb dX3_enclosed_57 rfl (lv_at hl 1 rfl) ?_
        refine gmIC hx hb hts inT3 hown hK hI List.not_mem_nil hG0 10 (by decide) (hts _ (tb_c wd_139)) rfl rfl dX3_enclosed_58 (fun w52 hg53 k54 k55 => ?_)
        obtain rfl := gfC.uniq (by decide) hg38 hg53
        refine nx_v (As := [.int w37]) (rest := []) (n := 1) (d := 0) ⟨hx, hb, hml, hown, hts⟩ (c_X3_moveTo l E D G h0 hG0 w37 ft fp fn TT pn31 nc Ln32 (by first | omega | decide) (by omega)) wd_707 wd_709 wp_13 wd_5 wd_710 (by decide +kernel) ⟨by rw [hR]; show 0 + 1 ≤ 20 + 3 * k; omega, by rw [hR]; show 8 + (2 + 11) + 40 * (0) ≤ 40 * (20 + 3 * k); omega⟩ hI hN hK hS hG0 ((RC.to0 hRC36)) rfl hl.1 rfl (Nat.le_of_ble_eq_true rfl) dX3_enclosed_61 ⟨Nat.zero_le _, Nat.zero_le _⟩ (fun H locs hI hp hS => ?_)
        have hRC57 := hp
        obtain ⟨hT4, hpT, ⟨w58, hg59, k60⟩, ⟨w61, hg62, k63⟩⟩ := RC.tk hRC57
        clear hRC36 hg38 hg41 k43
        have k64 := TK.at hTK hpT
        refine lv_iload_n hx hb dX3_enclosed_64 rfl (lv_at hl 0 rfl) ?_
        have hpost : ((0 : Int32) = 1 ∧ ∃ p2 L2 : Nat, RC E D G h0 ft fp fn TT p2 nc L2 H ∧ pp + 1 ≤ p2 ∧ pd_R ZZ YY TT (4, fl, nk, L2) p2 = XX) ∨ ((0 : Int32) = 0 ∧ ∃ p2 L2 : Nat, RC E D G h0 ft fp fn TT p2 nc L2 H ∧ pp ≤ p2 ∧ XX = (p2, false)) := Or.inr ⟨rfl, pn31, Ln32, hRC57, by omega, (hpd34.symm.trans (pd_D_clno (fun h9 => ⟨by omega, by omega, by omega⟩)))⟩
        rw [hQ]
        exact W.zret (v := 0) hx hb hr (by decide) (fun t ht hW => ⟨⟨0, 0, rfl, rfl, ⟨by rw [ht]; exact hI, hN.warm hW, va_K.moved hW.alike hK⟩, by first | (rw [ht]; exact hpost) | exact hpost⟩, hS.F ht⟩) hS.2.2 dX3_enclosed_65
      · skip
        have k65 := iv_eq (X := w40.toInt) (Y := (41)) rfl (by decide) c50
        refine lv_iconst (v := 1) hx hb dX3_enclosed_37 (by decide) ?_
        refine lv_goto (tgt := 42) hx hb dX3_enclosed_38 (by decide) ?_
        refine lv_istore_n (lv' := [(2, .int 1), (0, .ref h0), (1, .int x1)]) hx hb dX3_enclosed_42 rfl hl (by decide) rfl (fun ls hl => ?_)
        refine lv_aload_n hx hb dX3_enclosed_43 rfl (lv_at hl 1 rfl) ?_
        refine lv_iload_n hx hb dX3_enclosed_44 rfl (lv_at hl 0 rfl) ?_
        refine lv_if_eq (tgt := 57) hx hb dX3_enclosed_45 (by decide) (fun c => absurd c (by decide)) (fun _ => ?_)
        refine lv_aload_n hx hb dX3_enclosed_48 rfl (lv_at hl 1 rfl) ?_
        refine gmIC hx hb hts inT3 hown hK hI List.not_mem_nil hG0 10 (by decide) (hts _ (tb_c wd_139)) rfl rfl dX3_enclosed_49 (fun w66 hg67 k68 k69 => ?_)
        obtain rfl := gfC.uniq (by decide) hg38 hg67
        refine lv_iconst (v := 1) hx hb dX3_enclosed_52 (by decide) ?_
        refine lv_iadd hx hb dX3_enclosed_53 ?_
        refine lv_topi (fun v70 e71 => ?_)
        have tv70 : v70.toInt = w37.toInt + (1) := iv_add rfl (by decide) e71 (by omega) (by omega)
        refine lv_goto (tgt := 61) hx hb dX3_enclosed_54 (by decide) ?_
        have hpd72 : pd_R ZZ YY TT (4, fl, nk, Ln32) (pn31 + 1) = XX := (pd_D_cl (by omega) (by omega)).symm.trans hpd34
        refine nx_v (As := [.int v70]) (rest := []) (n := 1) (d := 0) ⟨hx, hb, hml, hown, hts⟩ (c_X3_moveTo l E D G h0 hG0 v70 ft fp fn TT (pn31 + 1) nc Ln32 (by first | omega | decide) (by omega)) wd_707 wd_709 wp_13 wd_5 wd_710 (by decide +kernel) ⟨by rw [hR]; show 0 + 1 ≤ 20 + 3 * k; omega, by rw [hR]; show 8 + (2 + 11) + 40 * (0) ≤ 40 * (20 + 3 * k); omega⟩ hI hN hK hS hG0 ((RC.to0 hRC36)) rfl hl.1 rfl (Nat.le_of_ble_eq_true rfl) dX3_enclosed_61 ⟨Nat.zero_le _, Nat.zero_le _⟩ (fun H locs hI hp hS => ?_)
        have hRC74 := hp
        obtain ⟨hT4, hpT, ⟨w75, hg76, k77⟩, ⟨w78, hg79, k80⟩⟩ := RC.tk hRC74
        clear hRC36 hg38 hg41 k43
        have k81 := TK.at hTK hpT
        refine lv_iload_n hx hb dX3_enclosed_64 rfl (lv_at hl 0 rfl) ?_
        have hpost : ((1 : Int32) = 1 ∧ ∃ p2 L2 : Nat, RC E D G h0 ft fp fn TT p2 nc L2 H ∧ pp + 1 ≤ p2 ∧ pd_R ZZ YY TT (4, fl, nk, L2) p2 = XX) ∨ ((1 : Int32) = 0 ∧ ∃ p2 L2 : Nat, RC E D G h0 ft fp fn TT p2 nc L2 H ∧ pp ≤ p2 ∧ XX = (p2, false)) := Or.inl ⟨rfl, (pn31 + 1), Ln32, hRC74, by omega, hpd72⟩
        rw [hQ]
        exact W.zret (v := 1) hx hb hr (by decide) (fun t ht hW => ⟨⟨1, 1, rfl, rfl, ⟨by rw [ht]; exact hI, hN.warm hW, va_K.moved hW.alike hK⟩, by first | (rw [ht]; exact hpost) | exact hpost⟩, hS.F ht⟩) hS.2.2 dX3_enclosed_65
    · skip
      try simp only [rg, not_and, Int.not_le] at hp
      have hp82 := hp
      obtain ⟨pn83, Ln84, hE, k85, hfl86⟩ := hp82
      have hp82 : True := trivial
      have hRC87 := hE
      obtain ⟨hT4, hpT, ⟨w88, hg89, k90⟩, ⟨w91, hg92, k93⟩⟩ := RC.tk hRC87
      clear hRC19 hg21 hg24 k26
      have k94 := TK.at hTK hpT
      refine lv_if_eq (tgt := 41) hx hb dX3_enclosed_25 (by decide) (fun _ => ?_) (fun c => absurd c (by decide))
      refine lv_iconst (v := 0) hx hb dX3_enclosed_41 (by decide) ?_
      refine lv_istore_n (lv' := [(2, .int 0), (0, .ref h0), (1, .int x1)]) hx hb dX3_enclosed_42 rfl hl (by decide) rfl (fun ls hl => ?_)
      refine lv_aload_n hx hb dX3_enclosed_43 rfl (lv_at hl 1 rfl) ?_
      refine lv_iload_n hx hb dX3_enclosed_44 rfl (lv_at hl 0 rfl) ?_
      refine lv_if_eq (tgt := 57) hx hb dX3_enclosed_45 (by decide) (fun _ => ?_) (fun c => absurd c (by decide))
      refine lv_aload_n hx hb dX3_enclosed_57 rfl (lv_at hl 1 rfl) ?_
      refine gmIC hx hb hts inT3 hown hK hI List.not_mem_nil hG0 10 (by decide) (hts _ (tb_c wd_139)) rfl rfl dX3_enclosed_58 (fun w95 hg96 k97 k98 => ?_)
      obtain rfl := gfC.uniq (by decide) hg89 hg96
      refine nx_v (As := [.int w88]) (rest := []) (n := 1) (d := 0) ⟨hx, hb, hml, hown, hts⟩ (c_X3_moveTo l E D G h0 hG0 w88 ft fp fn TT pn83 nc Ln84 (by first | omega | decide) (by omega)) wd_707 wd_709 wp_13 wd_5 wd_710 (by decide +kernel) ⟨by rw [hR]; show 0 + 1 ≤ 20 + 3 * k; omega, by rw [hR]; show 8 + (2 + 11) + 40 * (0) ≤ 40 * (20 + 3 * k); omega⟩ hI hN hK hS hG0 ((RC.to0 hRC87)) rfl hl.1 rfl (Nat.le_of_ble_eq_true rfl) dX3_enclosed_61 ⟨Nat.zero_le _, Nat.zero_le _⟩ (fun H locs hI hp hS => ?_)
      have hRC100 := hp
      obtain ⟨hT4, hpT, ⟨w101, hg102, k103⟩, ⟨w104, hg105, k106⟩⟩ := RC.tk hRC100
      clear hRC87 hg89 hg92 k94
      have k107 := TK.at hTK hpT
      refine lv_iload_n hx hb dX3_enclosed_64 rfl (lv_at hl 0 rfl) ?_
      have hpost : ((0 : Int32) = 1 ∧ ∃ p2 L2 : Nat, RC E D G h0 ft fp fn TT p2 nc L2 H ∧ pp + 1 ≤ p2 ∧ pd_R ZZ YY TT (4, fl, nk, L2) p2 = XX) ∨ ((0 : Int32) = 0 ∧ ∃ p2 L2 : Nat, RC E D G h0 ft fp fn TT p2 nc L2 H ∧ pp ≤ p2 ∧ XX = (p2, false)) := Or.inr ⟨rfl, pn83, Ln84, hRC100, by omega, hfl86⟩
      rw [hQ]
      exact W.zret (v := 0) hx hb hr (by decide) (fun t ht hW => ⟨⟨0, 0, rfl, rfl, ⟨by rw [ht]; exact hI, hN.warm hW, va_K.moved hW.alike hK⟩, by first | (rw [ht]; exact hpost) | exact hpost⟩, hS.F ht⟩) hS.2.2 dX3_enclosed_65
  · skip
    have k108 := iv_nlt (X := x1.toInt) (Y := (8)) rfl (by decide) c9
    refine lv_iconst (v := 0) hx hb dX3_enclosed_6 (by decide) ?_
    have hpost : ((0 : Int32) = 1 ∧ ∃ p2 L2 : Nat, RC E D G h0 ft fp fn TT p2 nc L2 s.heap ∧ pp + 1 ≤ p2 ∧ pd_R ZZ YY TT (4, fl, nk, L2) p2 = XX) ∨ ((0 : Int32) = 0 ∧ ∃ p2 L2 : Nat, RC E D G h0 ft fp fn TT p2 nc L2 s.heap ∧ pp ≤ p2 ∧ XX = (p2, false)) := Or.inr ⟨rfl, pp, LL, hRC1, by omega, (hpd.symm.trans (pd_Q_brno (fun h9 => by omega) (by omega)))⟩
    rw [hQ]
    exact W.zret (v := 0) hx hb hr (by decide) (fun t ht hW => ⟨⟨0, 0, rfl, rfl, ⟨by rw [ht]; exact hI, hN.warm hW, va_K.moved hW.alike hK⟩, by first | (rw [ht]; exact hpost) | exact hpost⟩, hS.F ht⟩) hS.2.2 dX3_enclosed_7
