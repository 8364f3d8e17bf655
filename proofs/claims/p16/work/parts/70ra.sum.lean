theorem wp_13 : Cond.selects RX3 yX3_moveTo yX3_moveTo ∈ TB := tv 13 (by decide +kernel) (by decide +kernel)
theorem wp_16 : Cond.selects RX3 yX3_part yX3_part ∈ TB := tv 16 (by decide +kernel) (by decide +kernel)
theorem wp_17 : Cond.selects RX3 yX3_emit yX3_emit ∈ TB := tv 17 (by decide +kernel) (by decide +kernel)
theorem wp_18 : Cond.selects RX3 yX3_arithmetic yX3_arithmetic ∈ TB := tv 18 (by decide +kernel) (by decide +kernel)
theorem wd_707 : (Cond.methodLink RX3 (66 : Nat) yX3_moveTo) ∈ TB := tw 707 (by decide +kernel) (by decide +kernel)
theorem wd_709 : (Jvm.Cond.instanceMethod yX3_moveTo) ∈ TB := tw 709 (by decide +kernel) (by decide +kernel)
theorem wd_710 : (Cond.code yX3_moveTo cX3_moveTo 2 (Option.none : Option Jvm.ClassFile.FieldType)) ∈ TB := tw 710 (by decide +kernel) (by decide +kernel)
theorem wd_719 : (Cond.methodLink RX3 (115 : Nat) yX3_part) ∈ TB := tw 719 (by decide +kernel) (by decide +kernel)
theorem wd_721 : (Jvm.Cond.instanceMethod yX3_part) ∈ TB := tw 721 (by decide +kernel) (by decide +kernel)
theorem wd_722 : (Cond.code yX3_part cX3_part 4 (Option.some Jvm.ClassFile.FieldType.boolean)) ∈ TB := tw 722 (by decide +kernel) (by decide +kernel)
theorem wd_723 : (Cond.methodLink RX3 (109 : Nat) yX3_emit) ∈ TB := tw 723 (by decide +kernel) (by decide +kernel)
theorem wd_725 : (Jvm.Cond.instanceMethod yX3_emit) ∈ TB := tw 725 (by decide +kernel) (by decide +kernel)
theorem wd_726 : (Cond.code yX3_emit cX3_emit 3 (Option.some Jvm.ClassFile.FieldType.int)) ∈ TB := tw 726 (by decide +kernel) (by decide +kernel)
theorem wd_727 : (Cond.methodLink RX3 (118 : Nat) yX3_arithmetic) ∈ TB := tw 727 (by decide +kernel) (by decide +kernel)
theorem wd_729 : (Jvm.Cond.instanceMethod yX3_arithmetic) ∈ TB := tw 729 (by decide +kernel) (by decide +kernel)
theorem wd_730 : (Cond.code yX3_arithmetic cX3_arithmetic 1 (Option.some Jvm.ClassFile.FieldType.int)) ∈ TB := tw 730 (by decide +kernel) (by decide +kernel)
theorem dX3_sum_0g : (decode cX3_sum 0 = .ok (.iconst (-1), 1)) ∧ (decode cX3_sum 1 = .ok (.istore_n 2, 1)) ∧ (decode cX3_sum 2 = .ok (.aload_n 0, 1)) ∧ (decode cX3_sum 3 = .ok (.iload_n 1, 1)) ∧ (decode cX3_sum 4 = .ok (.invokevirtual 115, 3)) ∧ (decode cX3_sum 7 = .ok (.istore_n 3, 1)) ∧ (decode cX3_sum 8 = .ok (.aload_n 0, 1)) ∧ (decode cX3_sum 9 = .ok (.invokevirtual 118, 3)) ∧ (decode cX3_sum 12 = .ok (.istore 4, 2)) ∧ (decode cX3_sum 14 = .ok (.iconst 0, 1)) := by decide +kernel
theorem dX3_sum_0 : decode cX3_sum 0 = .ok (.iconst (-1), 1) := dX3_sum_0g.1
theorem dX3_sum_1 : decode cX3_sum 1 = .ok (.istore_n 2, 1) := dX3_sum_0g.2.1
theorem dX3_sum_2 : decode cX3_sum 2 = .ok (.aload_n 0, 1) := dX3_sum_0g.2.2.1
theorem dX3_sum_3 : decode cX3_sum 3 = .ok (.iload_n 1, 1) := dX3_sum_0g.2.2.2.1
theorem dX3_sum_4 : decode cX3_sum 4 = .ok (.invokevirtual 115, 3) := dX3_sum_0g.2.2.2.2.1
theorem dX3_sum_7 : decode cX3_sum 7 = .ok (.istore_n 3, 1) := dX3_sum_0g.2.2.2.2.2.1
theorem dX3_sum_8 : decode cX3_sum 8 = .ok (.aload_n 0, 1) := dX3_sum_0g.2.2.2.2.2.2.1
theorem dX3_sum_9 : decode cX3_sum 9 = .ok (.invokevirtual 118, 3) := dX3_sum_0g.2.2.2.2.2.2.2.1
theorem dX3_sum_12 : decode cX3_sum 12 = .ok (.istore 4, 2) := dX3_sum_0g.2.2.2.2.2.2.2.2.1
theorem dX3_sum_14 : decode cX3_sum 14 = .ok (.iconst 0, 1) := dX3_sum_0g.2.2.2.2.2.2.2.2.2
theorem dX3_sum_15g : (decode cX3_sum 15 = .ok (.istore 5, 2)) ∧ (decode cX3_sum 17 = .ok (.iload 5, 2)) ∧ (decode cX3_sum 19 = .ok (.sipush 400, 3)) ∧ (decode cX3_sum 22 = .ok (.if_icmp .ge 96, 3)) ∧ (decode cX3_sum 25 = .ok (.iload_n 3, 1)) ∧ (decode cX3_sum 26 = .ok (.ifCond .eq 92, 3)) ∧ (decode cX3_sum 29 = .ok (.iload 4, 2)) ∧ (decode cX3_sum 31 = .ok (.iconst (-1), 1)) ∧ (decode cX3_sum 32 = .ok (.if_icmp .eq 86, 3)) ∧ (decode cX3_sum 35 = .ok (.iload 4, 2)) := by decide +kernel
theorem dX3_sum_15 : decode cX3_sum 15 = .ok (.istore 5, 2) := dX3_sum_15g.1
theorem dX3_sum_17 : decode cX3_sum 17 = .ok (.iload 5, 2) := dX3_sum_15g.2.1
theorem dX3_sum_19 : decode cX3_sum 19 = .ok (.sipush 400, 3) := dX3_sum_15g.2.2.1
theorem dX3_sum_22 : decode cX3_sum 22 = .ok (.if_icmp .ge 96, 3) := dX3_sum_15g.2.2.2.1
theorem dX3_sum_25 : decode cX3_sum 25 = .ok (.iload_n 3, 1) := dX3_sum_15g.2.2.2.2.1
theorem dX3_sum_26 : decode cX3_sum 26 = .ok (.ifCond .eq 92, 3) := dX3_sum_15g.2.2.2.2.2.1
theorem dX3_sum_29 : decode cX3_sum 29 = .ok (.iload 4, 2) := dX3_sum_15g.2.2.2.2.2.2.1
theorem dX3_sum_31 : decode cX3_sum 31 = .ok (.iconst (-1), 1) := dX3_sum_15g.2.2.2.2.2.2.2.1
theorem dX3_sum_32 : decode cX3_sum 32 = .ok (.if_icmp .eq 86, 3) := dX3_sum_15g.2.2.2.2.2.2.2.2.1
theorem dX3_sum_35 : decode cX3_sum 35 = .ok (.iload 4, 2) := dX3_sum_15g.2.2.2.2.2.2.2.2.2
theorem dX3_sum_37g : (decode cX3_sum 37 = .ok (.iconst 2, 1)) ∧ (decode cX3_sum 38 = .ok (.if_icmp .eq 9, 3)) ∧ (decode cX3_sum 41 = .ok (.iload 4, 2)) ∧ (decode cX3_sum 43 = .ok (.iconst 3, 1)) ∧ (decode cX3_sum 44 = .ok (.if_icmp .ne 7, 3)) ∧ (decode cX3_sum 47 = .ok (.iconst 1, 1)) ∧ (decode cX3_sum 48 = .ok (.goto 4, 3)) ∧ (decode cX3_sum 51 = .ok (.iconst 0, 1)) ∧ (decode cX3_sum 52 = .ok (.istore 6, 2)) ∧ (decode cX3_sum 54 = .ok (.iload 6, 2)) := by decide +kernel
theorem dX3_sum_37 : decode cX3_sum 37 = .ok (.iconst 2, 1) := dX3_sum_37g.1
theorem dX3_sum_38 : decode cX3_sum 38 = .ok (.if_icmp .eq 9, 3) := dX3_sum_37g.2.1
theorem dX3_sum_41 : decode cX3_sum 41 = .ok (.iload 4, 2) := dX3_sum_37g.2.2.1
theorem dX3_sum_43 : decode cX3_sum 43 = .ok (.iconst 3, 1) := dX3_sum_37g.2.2.2.1
theorem dX3_sum_44 : decode cX3_sum 44 = .ok (.if_icmp .ne 7, 3) := dX3_sum_37g.2.2.2.2.1
theorem dX3_sum_47 : decode cX3_sum 47 = .ok (.iconst 1, 1) := dX3_sum_37g.2.2.2.2.2.1
theorem dX3_sum_48 : decode cX3_sum 48 = .ok (.goto 4, 3) := dX3_sum_37g.2.2.2.2.2.2.1
theorem dX3_sum_51 : decode cX3_sum 51 = .ok (.iconst 0, 1) := dX3_sum_37g.2.2.2.2.2.2.2.1
theorem dX3_sum_52 : decode cX3_sum 52 = .ok (.istore 6, 2) := dX3_sum_37g.2.2.2.2.2.2.2.2.1
theorem dX3_sum_54 : decode cX3_sum 54 = .ok (.iload 6, 2) := dX3_sum_37g.2.2.2.2.2.2.2.2.2
theorem dX3_sum_56g : (decode cX3_sum 56 = .ok (.ifCond .eq 15, 3)) ∧ (decode cX3_sum 59 = .ok (.iload_n 2, 1)) ∧ (decode cX3_sum 60 = .ok (.iconst (-1), 1)) ∧ (decode cX3_sum 61 = .ok (.if_icmp .eq 10, 3)) ∧ (decode cX3_sum 64 = .ok (.aload_n 0, 1)) ∧ (decode cX3_sum 65 = .ok (.iload_n 2, 1)) ∧ (decode cX3_sum 66 = .ok (.iconst 0, 1)) ∧ (decode cX3_sum 67 = .ok (.invokevirtual 109, 3)) ∧ (decode cX3_sum 70 = .ok (.pop, 1)) ∧ (decode cX3_sum 71 = .ok (.aload_n 0, 1)) := by decide +kernel
theorem dX3_sum_56 : decode cX3_sum 56 = .ok (.ifCond .eq 15, 3) := dX3_sum_56g.1
theorem dX3_sum_59 : decode cX3_sum 59 = .ok (.iload_n 2, 1) := dX3_sum_56g.2.1
theorem dX3_sum_60 : decode cX3_sum 60 = .ok (.iconst (-1), 1) := dX3_sum_56g.2.2.1
theorem dX3_sum_61 : decode cX3_sum 61 = .ok (.if_icmp .eq 10, 3) := dX3_sum_56g.2.2.2.1
theorem dX3_sum_64 : decode cX3_sum 64 = .ok (.aload_n 0, 1) := dX3_sum_56g.2.2.2.2.1
theorem dX3_sum_65 : decode cX3_sum 65 = .ok (.iload_n 2, 1) := dX3_sum_56g.2.2.2.2.2.1
theorem dX3_sum_66 : decode cX3_sum 66 = .ok (.iconst 0, 1) := dX3_sum_56g.2.2.2.2.2.2.1
theorem dX3_sum_67 : decode cX3_sum 67 = .ok (.invokevirtual 109, 3) := dX3_sum_56g.2.2.2.2.2.2.2.1
theorem dX3_sum_70 : decode cX3_sum 70 = .ok (.pop, 1) := dX3_sum_56g.2.2.2.2.2.2.2.2.1
theorem dX3_sum_71 : decode cX3_sum 71 = .ok (.aload_n 0, 1) := dX3_sum_56g.2.2.2.2.2.2.2.2.2
theorem dX3_sum_72g : (decode cX3_sum 72 = .ok (.aload_n 0, 1)) ∧ (decode cX3_sum 73 = .ok (.getfield 43, 3)) ∧ (decode cX3_sum 76 = .ok (.iconst 1, 1)) ∧ (decode cX3_sum 77 = .ok (.iadd, 1)) ∧ (decode cX3_sum 78 = .ok (.invokevirtual 66, 3)) ∧ (decode cX3_sum 81 = .ok (.aload_n 0, 1)) ∧ (decode cX3_sum 82 = .ok (.iload_n 1, 1)) ∧ (decode cX3_sum 83 = .ok (.invokevirtual 115, 3)) ∧ (decode cX3_sum 86 = .ok (.istore_n 3, 1)) ∧ (decode cX3_sum 87 = .ok (.iload 6, 2)) := by decide +kernel
theorem dX3_sum_72 : decode cX3_sum 72 = .ok (.aload_n 0, 1) := dX3_sum_72g.1
theorem dX3_sum_73 : decode cX3_sum 73 = .ok (.getfield 43, 3) := dX3_sum_72g.2.1
theorem dX3_sum_76 : decode cX3_sum 76 = .ok (.iconst 1, 1) := dX3_sum_72g.2.2.1
theorem dX3_sum_77 : decode cX3_sum 77 = .ok (.iadd, 1) := dX3_sum_72g.2.2.2.1
theorem dX3_sum_78 : decode cX3_sum 78 = .ok (.invokevirtual 66, 3) := dX3_sum_72g.2.2.2.2.1
theorem dX3_sum_81 : decode cX3_sum 81 = .ok (.aload_n 0, 1) := dX3_sum_72g.2.2.2.2.2.1
theorem dX3_sum_82 : decode cX3_sum 82 = .ok (.iload_n 1, 1) := dX3_sum_72g.2.2.2.2.2.2.1
theorem dX3_sum_83 : decode cX3_sum 83 = .ok (.invokevirtual 115, 3) := dX3_sum_72g.2.2.2.2.2.2.2.1
theorem dX3_sum_86 : decode cX3_sum 86 = .ok (.istore_n 3, 1) := dX3_sum_72g.2.2.2.2.2.2.2.2.1
theorem dX3_sum_87 : decode cX3_sum 87 = .ok (.iload 6, 2) := dX3_sum_72g.2.2.2.2.2.2.2.2.2
theorem dX3_sum_89g : (decode cX3_sum 89 = .ok (.ifCond .eq 9, 3)) ∧ (decode cX3_sum 92 = .ok (.iload 4, 2)) ∧ (decode cX3_sum 94 = .ok (.istore_n 2, 1)) ∧ (decode cX3_sum 95 = .ok (.goto 11, 3)) ∧ (decode cX3_sum 98 = .ok (.aload_n 0, 1)) ∧ (decode cX3_sum 99 = .ok (.iload 4, 2)) ∧ (decode cX3_sum 101 = .ok (.iconst 0, 1)) ∧ (decode cX3_sum 102 = .ok (.invokevirtual 109, 3)) ∧ (decode cX3_sum 105 = .ok (.pop, 1)) ∧ (decode cX3_sum 106 = .ok (.aload_n 0, 1)) := by decide +kernel
theorem dX3_sum_89 : decode cX3_sum 89 = .ok (.ifCond .eq 9, 3) := dX3_sum_89g.1
theorem dX3_sum_92 : decode cX3_sum 92 = .ok (.iload 4, 2) := dX3_sum_89g.2.1
theorem dX3_sum_94 : decode cX3_sum 94 = .ok (.istore_n 2, 1) := dX3_sum_89g.2.2.1
theorem dX3_sum_95 : decode cX3_sum 95 = .ok (.goto 11, 3) := dX3_sum_89g.2.2.2.1
theorem dX3_sum_98 : decode cX3_sum 98 = .ok (.aload_n 0, 1) := dX3_sum_89g.2.2.2.2.1
theorem dX3_sum_99 : decode cX3_sum 99 = .ok (.iload 4, 2) := dX3_sum_89g.2.2.2.2.2.1
theorem dX3_sum_101 : decode cX3_sum 101 = .ok (.iconst 0, 1) := dX3_sum_89g.2.2.2.2.2.2.1
theorem dX3_sum_102 : decode cX3_sum 102 = .ok (.invokevirtual 109, 3) := dX3_sum_89g.2.2.2.2.2.2.2.1
theorem dX3_sum_105 : decode cX3_sum 105 = .ok (.pop, 1) := dX3_sum_89g.2.2.2.2.2.2.2.2.1
theorem dX3_sum_106 : decode cX3_sum 106 = .ok (.aload_n 0, 1) := dX3_sum_89g.2.2.2.2.2.2.2.2.2
theorem dX3_sum_107g : (decode cX3_sum 107 = .ok (.invokevirtual 118, 3)) ∧ (decode cX3_sum 110 = .ok (.istore 4, 2)) ∧ (decode cX3_sum 112 = .ok (.iinc 5 1, 3)) ∧ (decode cX3_sum 115 = .ok (.goto (-98), 3)) ∧ (decode cX3_sum 118 = .ok (.iload_n 2, 1)) ∧ (decode cX3_sum 119 = .ok (.iconst (-1), 1)) ∧ (decode cX3_sum 120 = .ok (.if_icmp .eq 10, 3)) ∧ (decode cX3_sum 123 = .ok (.aload_n 0, 1)) ∧ (decode cX3_sum 124 = .ok (.iload_n 2, 1)) ∧ (decode cX3_sum 125 = .ok (.iconst 0, 1)) := by decide +kernel
theorem dX3_sum_107 : decode cX3_sum 107 = .ok (.invokevirtual 118, 3) := dX3_sum_107g.1
theorem dX3_sum_110 : decode cX3_sum 110 = .ok (.istore 4, 2) := dX3_sum_107g.2.1
theorem dX3_sum_112 : decode cX3_sum 112 = .ok (.iinc 5 1, 3) := dX3_sum_107g.2.2.1
theorem dX3_sum_115 : decode cX3_sum 115 = .ok (.goto (-98), 3) := dX3_sum_107g.2.2.2.1
theorem dX3_sum_118 : decode cX3_sum 118 = .ok (.iload_n 2, 1) := dX3_sum_107g.2.2.2.2.1
theorem dX3_sum_119 : decode cX3_sum 119 = .ok (.iconst (-1), 1) := dX3_sum_107g.2.2.2.2.2.1
theorem dX3_sum_120 : decode cX3_sum 120 = .ok (.if_icmp .eq 10, 3) := dX3_sum_107g.2.2.2.2.2.2.1
theorem dX3_sum_123 : decode cX3_sum 123 = .ok (.aload_n 0, 1) := dX3_sum_107g.2.2.2.2.2.2.2.1
theorem dX3_sum_124 : decode cX3_sum 124 = .ok (.iload_n 2, 1) := dX3_sum_107g.2.2.2.2.2.2.2.2.1
theorem dX3_sum_125 : decode cX3_sum 125 = .ok (.iconst 0, 1) := dX3_sum_107g.2.2.2.2.2.2.2.2.2
theorem dX3_sum_126g : (decode cX3_sum 126 = .ok (.invokevirtual 109, 3)) ∧ (decode cX3_sum 129 = .ok (.pop, 1)) ∧ (decode cX3_sum 130 = .ok (.iload_n 3, 1)) ∧ (decode cX3_sum 131 = .ok (.ireturn, 1)) := by decide +kernel
theorem dX3_sum_126 : decode cX3_sum 126 = .ok (.invokevirtual 109, 3) := dX3_sum_126g.1
theorem dX3_sum_129 : decode cX3_sum 129 = .ok (.pop, 1) := dX3_sum_126g.2.1
theorem dX3_sum_130 : decode cX3_sum 130 = .ok (.iload_n 3, 1) := dX3_sum_126g.2.2.1
theorem dX3_sum_131 : decode cX3_sum 131 = .ok (.ireturn, 1) := dX3_sum_126g.2.2.2
set_option maxHeartbeats 4000000 in
set_option maxRecDepth 100000 in
theorem c_X3_sum (l : Launch) (E : Nat → Nat) (D : va_G) (G : th_G) (k : Nat) (h0 : Nat) (hG0 : G h0 = some (7, 12)) (x1 : Int32) (ft fp fn : Nat → Int32) (TT pp nc LL : Nat) (ZZ : Nat → Int) (YY : Nat → Bool) (nk : Nat) (XX : Nat × Bool) (hTK : TK ft fn TT ZZ YY) (dd : Nat) (hdd : x1.toInt = (dd : Int)) (hd8 : dd ≤ 8) (hk : 8 ≤ dd + k) (fl : List Nat) (hdp : pd_dp (fl) = dd) (hpd : pd_R ZZ YY TT (1, fl, nk, LL) pp = XX) (hpart : ∀ (h0 : Nat) (hG0 : G h0 = some (7, 12)) (x1 : Int32) (ft fp fn : Nat → Int32) (TT pp nc LL : Nat) (ZZ : Nat → Int) (YY : Nat → Bool) (nk : Nat) (XX : Nat × Bool) (hTK : TK ft fn TT ZZ YY) (dd : Nat) (hdd : x1.toInt = (dd : Int)) (hd8 : dd ≤ 8) (hk : 8 ≤ dd + k) (fl : List Nat) (hdp : pd_dp (fl) = dd) (hpd : pd_R ZZ YY TT (1, fl, nk, LL) pp = XX), Met l yX3_part (tb (.code yX3_part cX3_part 4 (some .boolean))) (rm (2 + 2 * k)) (va_Pc [.ref h0, .int x1] (PCx E D G (fun H => RC E D G h0 ft fp fn TT pp nc LL H))) (QCi E D G (fun r H => ((r : Int32) = 1 ∧ ∃ p2 L2 : Nat, RC E D G h0 ft fp fn TT p2 nc L2 H ∧ pp + 1 ≤ p2 ∧ pd_R ZZ YY TT (2, fl, nk, L2) p2 = XX) ∨ ((r : Int32) = 0 ∧ ∃ p2 L2 : Nat, RC E D G h0 ft fp fn TT p2 nc L2 H ∧ pp ≤ p2 ∧ XX = (p2, false)))) 0 0 (th_A G)) : Met l yX3_sum (tb (.code yX3_sum cX3_sum 7 (some .boolean))) (rm (3 + 2 * k)) (va_Pc [.ref h0, .int x1] (PCx E D G (fun H => RC E D G h0 ft fp fn TT pp nc LL H))) (QCi E D G (fun r H => ((r : Int32) = 1 ∧ ∃ p2 L2 : Nat, RC E D G h0 ft fp fn TT p2 nc L2 H ∧ pp + 1 ≤ p2 ∧ pd_R ZZ YY TT (2, fl, nk, L2) p2 = XX ∧ ¬ oc (ft p2).toInt) ∨ ((r : Int32) = 0 ∧ ∃ p2 L2 : Nat, RC E D G h0 ft fp fn TT p2 nc L2 H ∧ pp ≤ p2 ∧ XX = (p2, false)))) 0 0 (th_A G) := by
  refine Met.ofW (cc := cX3_sum) (maxL := 7) (ret := (some .boolean)) (by decide) rfl ?_
  intro p e s m args below meth c s₁ B hml hv
  obtain ⟨hav, ⟨hI, hN, hK⟩, hX⟩ := hv
  have hx := B.exec
  have hb := B.bytes
  have hr := B.returns
  have hts := atoms_spec (ws := tb (.code yX3_sum cX3_sum 7 (some .boolean))) B.pre
  have hown : s.vm.findClass RX3 = some m.cls := findClass_of_methodNamed B.named
  have hlocks := B.notSynchronized
  have hS : va_S (th_A G) s.heap s.heap [] := va_S.rf
  have hl := lv_entry ([.ref h0, .int x1]) (n := 7) (Nat.le_of_ble_eq_true rfl)
  rw [show entryFrame m args 7 = entryFrame m ([.ref h0, .int x1] : List Value).toArray 7 from by rw [hav], lg_entry_eq]
  generalize (lg_sl ([.ref h0, .int x1]) ++ List.replicate (7 - (lg_sl ([.ref h0, .int x1])).length) Slot.unset).toArray = ls at hl ⊢
  have hl : lv_has ls 7 [(0, .ref h0), (1, .int x1)] := hl
  generalize hR : (headSpec (tb (.code yX3_sum cX3_sum 7 (some .boolean))) (rm (3 + 2 * k))).room = R
  have hR := hR.symm
  generalize hQ : MQ below (QCi E D G (fun r H => ((r : Int32) = 1 ∧ ∃ p2 L2 : Nat, RC E D G h0 ft fp fn TT p2 nc L2 H ∧ pp + 1 ≤ p2 ∧ pd_R ZZ YY TT (2, fl, nk, L2) p2 = XX ∧ ¬ oc (ft p2).toInt) ∨ ((r : Int32) = 0 ∧ ∃ p2 L2 : Nat, RC E D G h0 ft fp fn TT p2 nc L2 H ∧ pp ≤ p2 ∧ XX = (p2, false)))) args s 0 0 (th_A G) = QF
  have hQ := hQ.symm
  have hRC1 := hX
  obtain ⟨hT4, hpT, ⟨w2, hg3, k4⟩, ⟨w5, hg6, k7⟩⟩ := RC.tk hRC1
  have k8 := TK.at hTK hpT
  have J_17 : ∀ (nn : Nat) (H : Heap) (locs : List Loc) (ls : Array Slot) (v3114 : Int32) (v3115 : Int32) (v3116 : Int32) (v3117 : Int32) (p1 : Nat) (L1 : Nat), (Int.toNat (400 - v3114.toInt) = nn) → lv_has ls 7 [(5, .int v3114), (4, .int v3115), (3, .int v3116), (2, .int v3117), (0, .ref h0), (1, .int x1)] → ((0 : Int) ≤ v3114.toInt ∧ v3114.toInt ≤ 400) → ((-1 : Int) ≤ v3115.toInt ∧ v3115.toInt ≤ 6) → ((0 : Int) ≤ v3116.toInt ∧ v3116.toInt ≤ 1) → ((-1 : Int) ≤ v3117.toInt ∧ v3117.toInt ≤ 3) → ((0 : Int) ≤ x1.toInt ∧ x1.toInt ≤ 8) → (pp ≤ p1) → (v3114.toInt ≤ (p1 : Int)) → (SI (v3116.toInt) (v3115.toInt) (ft p1).toInt (pd_R ZZ YY TT (2, fl, nk, L1) p1 = XX ∧ pp + 1 ≤ p1) (XX = (p1, false))) → (RC E D G h0 ft fp fn TT p1 nc L1 H) → th_I (okC E) D G [] H → va_S (th_A G) s.heap H locs → W p l e R s m args below meth c H locs 0 0 QF (F0 m 17 ls []) := by
    intro nn
    induction nn using Nat.strongRecOn with
    | ind nn ih_17 =>
      intro H locs ls v3114 v3115 v3116 v3117 p1 L1 hm hl k3118 k3119 k3120 k3121 k3122 hle1 hi1 hSI hE hI hS
      have hRC3123 := hE
      obtain ⟨hT4, hpT, ⟨w3124, hg3125, k3126⟩, ⟨w3127, hg3128, k3129⟩⟩ := RC.tk hRC3123
      clear hRC1 hg3 hg6 k8
      have k3130 := TK.at hTK hpT
      refine lv_iload hx hb dX3_sum_17 (lv_at hl 0 rfl) ?_
      refine lv_sipush (v := 400) hx hb dX3_sum_19 (by decide) ?_
      refine lv_icmp_ge (tgt := 118) hx hb dX3_sum_22 (by decide) (fun c3131 => ?_) (fun c3131 => ?_)
      · skip
        have k3132 := iv_le (X := (400)) (Y := v3114.toInt) (by decide) rfl c3131
        refine lv_iload_n hx hb dX3_sum_118 rfl (lv_at hl 3 rfl) ?_
        refine lv_iconst (v := (-1)) hx hb dX3_sum_119 (by decide) ?_
        refine lv_icmp_eq (tgt := 130) hx hb dX3_sum_120 (by decide) (fun c3133 => ?_) (fun c3133 => ?_)
        · skip
          have k3134 := iv_eq (X := v3117.toInt) (Y := (-1)) rfl (by decide) c3133
          refine lv_iload_n hx hb dX3_sum_130 rfl (lv_at hl 2 rfl) ?_
          have hpost : ((v3116 : Int32) = 1 ∧ ∃ p2 L2 : Nat, RC E D G h0 ft fp fn TT p2 nc L2 H ∧ pp + 1 ≤ p2 ∧ pd_R ZZ YY TT (2, fl, nk, L2) p2 = XX ∧ ¬ oc (ft p2).toInt) ∨ ((v3116 : Int32) = 0 ∧ ∃ p2 L2 : Nat, RC E D G h0 ft fp fn TT p2 nc L2 H ∧ pp ≤ p2 ∧ XX = (p2, false)) := (SI_out hSI (by first | exact Or.inl (by omega) | exact Or.inr (Or.inl (by omega)) | exact Or.inr (Or.inr (by unfold oc; omega)))).elim (fun h => Or.inl ⟨i32_1 h.1, p1, L1, hRC3123, h.2.1.2, h.2.1.1, h.2.2⟩) (fun h => Or.inr ⟨i32_0 h.1, p1, L1, hRC3123, by omega, h.2⟩)
          rw [hQ]
          exact W.zret (v := v3116) hx hb hr (th_zn (by omega)) (fun t ht hW => ⟨⟨v3116, v3116, rfl, rfl, ⟨by rw [ht]; exact hI, hN.warm hW, va_K.moved hW.alike hK⟩, by first | (rw [ht]; exact hpost) | exact hpost⟩, hS.F ht⟩) hS.2.2 dX3_sum_131
        · skip
          have k3135 := iv_ne (X := v3117.toInt) (Y := (-1)) rfl (by decide) c3133
          refine lv_aload_n hx hb dX3_sum_123 rfl (lv_at hl 4 rfl) ?_
          refine lv_iload_n hx hb dX3_sum_124 rfl (lv_at hl 3 rfl) ?_
          refine lv_iconst (v := 0) hx hb dX3_sum_125 (by decide) ?_
          refine nx_i (As := [.int v3117, .int 0]) (rest := []) (n := 2) (d := 0) ⟨hx, hb, hml, hown, hts⟩ (c_X3_emit l E D G h0 hG0 v3117 0 ft fp fn TT p1 nc L1) wd_723 wd_725 wp_17 wd_5 wd_726 (by decide +kernel) ⟨by rw [hR]; show 0 + 1 ≤ 3 + 2 * k; omega, by rw [hR]; show 8 + (3 + 11) + 40 * (0) ≤ 40 * (3 + 2 * k); omega⟩ hI hN hK hS hG0 (hRC3123) rfl hl.1 rfl (Nat.le_of_ble_eq_true rfl) dX3_sum_126 ⟨Nat.zero_le _, Nat.zero_le _⟩ (fun r3136 H locs hI hp hS => ?_)
          have hRC3137 := hp
          obtain ⟨hT4, hpT, ⟨w3138, hg3139, k3140⟩, ⟨w3141, hg3142, k3143⟩⟩ := RC.tk hRC3137
          clear hRC3123 hg3125 hg3128 k3130
          have k3144 := TK.at hTK hpT
          refine lv_pop hx hb dX3_sum_129 rfl ?_
          refine lv_iload_n hx hb dX3_sum_130 rfl (lv_at hl 2 rfl) ?_
          have hpost : ((v3116 : Int32) = 1 ∧ ∃ p2 L2 : Nat, RC E D G h0 ft fp fn TT p2 nc L2 H ∧ pp + 1 ≤ p2 ∧ pd_R ZZ YY TT (2, fl, nk, L2) p2 = XX ∧ ¬ oc (ft p2).toInt) ∨ ((v3116 : Int32) = 0 ∧ ∃ p2 L2 : Nat, RC E D G h0 ft fp fn TT p2 nc L2 H ∧ pp ≤ p2 ∧ XX = (p2, false)) := (SI_out hSI (by first | exact Or.inl (by omega) | exact Or.inr (Or.inl (by omega)) | exact Or.inr (Or.inr (by unfold oc; omega)))).elim (fun h => Or.inl ⟨i32_1 h.1, p1, L1, hRC3137, h.2.1.2, h.2.1.1, h.2.2⟩) (fun h => Or.inr ⟨i32_0 h.1, p1, L1, hRC3137, by omega, h.2⟩)
          rw [hQ]
          exact W.zret (v := v3116) hx hb hr (th_zn (by omega)) (fun t ht hW => ⟨⟨v3116, v3116, rfl, rfl, ⟨by rw [ht]; exact hI, hN.warm hW, va_K.moved hW.alike hK⟩, by first | (rw [ht]; exact hpost) | exact hpost⟩, hS.F ht⟩) hS.2.2 dX3_sum_131
      · skip
        have k3145 := iv_nle (X := (400)) (Y := v3114.toInt) (by decide) rfl c3131
        refine lv_iload_n hx hb dX3_sum_25 rfl (lv_at hl 2 rfl) ?_
        refine lv_if_eq (tgt := 118) hx hb dX3_sum_26 (by decide) (fun c3146 => ?_) (fun c3146 => ?_)
        · skip
          have k3147 := iv_eq (X := v3116.toInt) (Y := (0)) rfl (by decide) c3146
          refine lv_iload_n hx hb dX3_sum_118 rfl (lv_at hl 3 rfl) ?_
          refine lv_iconst (v := (-1)) hx hb dX3_sum_119 (by decide) ?_
          refine lv_icmp_eq (tgt := 130) hx hb dX3_sum_120 (by decide) (fun c3148 => ?_) (fun c3148 => ?_)
          · skip
            have k3149 := iv_eq (X := v3117.toInt) (Y := (-1)) rfl (by decide) c3148
            refine lv_iload_n hx hb dX3_sum_130 rfl (lv_at hl 2 rfl) ?_
            have hpost : ((v3116 : Int32) = 1 ∧ ∃ p2 L2 : Nat, RC E D G h0 ft fp fn TT p2 nc L2 H ∧ pp + 1 ≤ p2 ∧ pd_R ZZ YY TT (2, fl, nk, L2) p2 = XX ∧ ¬ oc (ft p2).toInt) ∨ ((v3116 : Int32) = 0 ∧ ∃ p2 L2 : Nat, RC E D G h0 ft fp fn TT p2 nc L2 H ∧ pp ≤ p2 ∧ XX = (p2, false)) := (SI_out hSI (by first | exact Or.inl (by omega) | exact Or.inr (Or.inl (by omega)) | exact Or.inr (Or.inr (by unfold oc; omega)))).elim (fun h => Or.inl ⟨i32_1 h.1, p1, L1, hRC3123, h.2.1.2, h.2.1.1, h.2.2⟩) (fun h => Or.inr ⟨i32_0 h.1, p1, L1, hRC3123, by omega, h.2⟩)
            rw [hQ]
            exact W.zret (v := v3116) hx hb hr (th_zn (by omega)) (fun t ht hW => ⟨⟨v3116, v3116, rfl, rfl, ⟨by rw [ht]; exact hI, hN.warm hW, va_K.moved hW.alike hK⟩, by first | (rw [ht]; exact hpost) | exact hpost⟩, hS.F ht⟩) hS.2.2 dX3_sum_131
          · skip
            have k3150 := iv_ne (X := v3117.toInt) (Y := (-1)) rfl (by decide) c3148
            refine lv_aload_n hx hb dX3_sum_123 rfl (lv_at hl 4 rfl) ?_
            refine lv_iload_n hx hb dX3_sum_124 rfl (lv_at hl 3 rfl) ?_
            refine lv_iconst (v := 0) hx hb dX3_sum_125 (by decide) ?_
            refine nx_i (As := [.int v3117, .int 0]) (rest := []) (n := 2) (d := 0) ⟨hx, hb, hml, hown, hts⟩ (c_X3_emit l E D G h0 hG0 v3117 0 ft fp fn TT p1 nc L1) wd_723 wd_725 wp_17 wd_5 wd_726 (by decide +kernel) ⟨by rw [hR]; show 0 + 1 ≤ 3 + 2 * k; omega, by rw [hR]; show 8 + (3 + 11) + 40 * (0) ≤ 40 * (3 + 2 * k); omega⟩ hI hN hK hS hG0 (hRC3123) rfl hl.1 rfl (Nat.le_of_ble_eq_true rfl) dX3_sum_126 ⟨Nat.zero_le _, Nat.zero_le _⟩ (fun r3151 H locs hI hp hS => ?_)
            have hRC3152 := hp
            obtain ⟨hT4, hpT, ⟨w3153, hg3154, k3155⟩, ⟨w3156, hg3157, k3158⟩⟩ := RC.tk hRC3152
            clear hRC3123 hg3125 hg3128 k3130
            have k3159 := TK.at hTK hpT
            refine lv_pop hx hb dX3_sum_129 rfl ?_
            refine lv_iload_n hx hb dX3_sum_130 rfl (lv_at hl 2 rfl) ?_
            have hpost : ((v3116 : Int32) = 1 ∧ ∃ p2 L2 : Nat, RC E D G h0 ft fp fn TT p2 nc L2 H ∧ pp + 1 ≤ p2 ∧ pd_R ZZ YY TT (2, fl, nk, L2) p2 = XX ∧ ¬ oc (ft p2).toInt) ∨ ((v3116 : Int32) = 0 ∧ ∃ p2 L2 : Nat, RC E D G h0 ft fp fn TT p2 nc L2 H ∧ pp ≤ p2 ∧ XX = (p2, false)) := (SI_out hSI (by first | exact Or.inl (by omega) | exact Or.inr (Or.inl (by omega)) | exact Or.inr (Or.inr (by unfold oc; omega)))).elim (fun h => Or.inl ⟨i32_1 h.1, p1, L1, hRC3152, h.2.1.2, h.2.1.1, h.2.2⟩) (fun h => Or.inr ⟨i32_0 h.1, p1, L1, hRC3152, by omega, h.2⟩)
            rw [hQ]
            exact W.zret (v := v3116) hx hb hr (th_zn (by omega)) (fun t ht hW => ⟨⟨v3116, v3116, rfl, rfl, ⟨by rw [ht]; exact hI, hN.warm hW, va_K.moved hW.alike hK⟩, by first | (rw [ht]; exact hpost) | exact hpost⟩, hS.F ht⟩) hS.2.2 dX3_sum_131
        · skip
          have k3160 := iv_ne (X := v3116.toInt) (Y := (0)) rfl (by decide) c3146
          refine lv_iload hx hb dX3_sum_29 (lv_at hl 1 rfl) ?_
          refine lv_iconst (v := (-1)) hx hb dX3_sum_31 (by decide) ?_
          refine lv_icmp_eq (tgt := 118) hx hb dX3_sum_32 (by decide) (fun c3161 => ?_) (fun c3161 => ?_)
          · skip
            have k3162 := iv_eq (X := v3115.toInt) (Y := (-1)) rfl (by decide) c3161
            refine lv_iload_n hx hb dX3_sum_118 rfl (lv_at hl 3 rfl) ?_
            refine lv_iconst (v := (-1)) hx hb dX3_sum_119 (by decide) ?_
            refine lv_icmp_eq (tgt := 130) hx hb dX3_sum_120 (by decide) (fun c3163 => ?_) (fun c3163 => ?_)
            · skip
              have k3164 := iv_eq (X := v3117.toInt) (Y := (-1)) rfl (by decide) c3163
              refine lv_iload_n hx hb dX3_sum_130 rfl (lv_at hl 2 rfl) ?_
              have hpost : ((v3116 : Int32) = 1 ∧ ∃ p2 L2 : Nat, RC E D G h0 ft fp fn TT p2 nc L2 H ∧ pp + 1 ≤ p2 ∧ pd_R ZZ YY TT (2, fl, nk, L2) p2 = XX ∧ ¬ oc (ft p2).toInt) ∨ ((v3116 : Int32) = 0 ∧ ∃ p2 L2 : Nat, RC E D G h0 ft fp fn TT p2 nc L2 H ∧ pp ≤ p2 ∧ XX = (p2, false)) := (SI_out hSI (by first | exact Or.inl (by omega) | exact Or.inr (Or.inl (by omega)) | exact Or.inr (Or.inr (by unfold oc; omega)))).elim (fun h => Or.inl ⟨i32_1 h.1, p1, L1, hRC3123, h.2.1.2, h.2.1.1, h.2.2⟩) (fun h => Or.inr ⟨i32_0 h.1, p1, L1, hRC3123, by omega, h.2⟩)
              rw [hQ]
              exact W.zret (v := v3116) hx hb hr (th_zn (by omega)) (fun t ht hW => ⟨⟨v3116, v3116, rfl, rfl, ⟨by rw [ht]; exact hI, hN.warm hW, va_K.moved hW.alike hK⟩, by first | (rw [ht]; exact hpost) | exact hpost⟩, hS.F ht⟩) hS.2.2 dX3_sum_131
            · skip
              have k3165 := iv_ne (X := v3117.toInt) (Y := (-1)) rfl (by decide) c3163
              refine lv_aload_n hx hb dX3_sum_123 rfl (lv_at hl 4 rfl) ?_
              refine lv_iload_n hx hb dX3_sum_124 rfl (lv_at hl 3 rfl) ?_
              refine lv_iconst (v := 0) hx hb dX3_sum_125 (by decide) ?_
              refine nx_i (As := [.int v3117, .int 0]) (rest := []) (n := 2) (d := 0) ⟨hx, hb, hml, hown, hts⟩ (c_X3_emit l E D G h0 hG0 v3117 0 ft fp fn TT p1 nc L1) wd_723 wd_725 wp_17 wd_5 wd_726 (by decide +kernel) ⟨by rw [hR]; show 0 + 1 ≤ 3 + 2 * k; omega, by rw [hR]; show 8 + (3 + 11) + 40 * (0) ≤ 40 * (3 + 2 * k); omega⟩ hI hN hK hS hG0 (hRC3123) rfl hl.1 rfl (Nat.le_of_ble_eq_true rfl) dX3_sum_126 ⟨Nat.zero_le _, Nat.zero_le _⟩ (fun r3166 H locs hI hp hS => ?_)
              have hRC3167 := hp
              obtain ⟨hT4, hpT, ⟨w3168, hg3169, k3170⟩, ⟨w3171, hg3172, k3173⟩⟩ := RC.tk hRC3167
              clear hRC3123 hg3125 hg3128 k3130
              have k3174 := TK.at hTK hpT
              refine lv_pop hx hb dX3_sum_129 rfl ?_
              refine lv_iload_n hx hb dX3_sum_130 rfl (lv_at hl 2 rfl) ?_
              have hpost : ((v3116 : Int32) = 1 ∧ ∃ p2 L2 : Nat, RC E D G h0 ft fp fn TT p2 nc L2 H ∧ pp + 1 ≤ p2 ∧ pd_R ZZ YY TT (2, fl, nk, L2) p2 = XX ∧ ¬ oc (ft p2).toInt) ∨ ((v3116 : Int32) = 0 ∧ ∃ p2 L2 : Nat, RC E D G h0 ft fp fn TT p2 nc L2 H ∧ pp ≤ p2 ∧ XX = (p2, false)) := (SI_out hSI (by first | exact Or.inl (by omega) | exact Or.inr (Or.inl (by omega)) | exact Or.inr (Or.inr (by unfold oc; omega)))).elim (fun h => Or.inl ⟨i32_1 h.1, p1, L1, hRC3167, h.2.1.2, h.2.1.1, h.2.2⟩) (fun h => Or.inr ⟨i32_0 h.1, p1, L1, hRC3167, by omega, h.2⟩)
              rw [hQ]
              exact W.zret (v := v3116) hx hb hr (th_zn (by omega)) (fun t ht hW => ⟨⟨v3116, v3116, rfl, rfl, ⟨by rw [ht]; exact hI, hN.warm hW, va_K.moved hW.alike hK⟩, by first | (rw [ht]; exact hpost) | exact hpost⟩, hS.F ht⟩) hS.2.2 dX3_sum_131
          · skip
            have k3175 := iv_ne (X := v3115.toInt) (Y := (-1)) rfl (by decide) c3161
            refine lv_iload hx hb dX3_sum_35 (lv_at hl 1 rfl) ?_
            refine lv_iconst (v := 2) hx hb dX3_sum_37 (by decide) ?_
            refine lv_icmp_eq (tgt := 47) hx hb dX3_sum_38 (by decide) (fun c3176 => ?_) (fun c3176 => ?_)
            · skip
              have k3177 := iv_eq (X := v3115.toInt) (Y := (2)) rfl (by decide) c3176
              refine lv_iconst (v := 1) hx hb dX3_sum_47 (by decide) ?_
              refine lv_goto (tgt := 52) hx hb dX3_sum_48 (by decide) ?_
              refine lv_istore (lv' := [(6, .int 1), (5, .int v3114), (4, .int v3115), (3, .int v3116), (2, .int v3117), (0, .ref h0), (1, .int x1)]) hx hb dX3_sum_52 hl (by decide) rfl (fun ls hl => ?_)
              refine lv_iload hx hb dX3_sum_54 (lv_at hl 0 rfl) ?_
              refine lv_if_eq (tgt := 71) hx hb dX3_sum_56 (by decide) (fun c => absurd c (by decide)) (fun _ => ?_)
              refine lv_iload_n hx hb dX3_sum_59 rfl (lv_at hl 4 rfl) ?_
              refine lv_iconst (v := (-1)) hx hb dX3_sum_60 (by decide) ?_
              refine lv_icmp_eq (tgt := 71) hx hb dX3_sum_61 (by decide) (fun c3178 => ?_) (fun c3178 => ?_)
              · skip
                have k3179 := iv_eq (X := v3117.toInt) (Y := (-1)) rfl (by decide) c3178
                refine lv_aload_n hx hb dX3_sum_71 rfl (lv_at hl 5 rfl) ?_
                refine lv_aload_n hx hb dX3_sum_72 rfl (lv_at hl 5 rfl) ?_
                refine gmIC hx hb hts inT3 hown hK hI List.not_mem_nil hG0 10 (by decide) (hts _ (tb_c wd_139)) rfl rfl dX3_sum_73 (fun w3180 hg3181 k3182 k3183 => ?_)
                obtain rfl := gfC.uniq (by decide) hg3125 hg3181
                refine lv_iconst (v := 1) hx hb dX3_sum_76 (by decide) ?_
                refine lv_iadd hx hb dX3_sum_77 ?_
                refine lv_topi (fun v3184 e3185 => ?_)
                have tv3184 : v3184.toInt = w3124.toInt + (1) := iv_add rfl (by decide) e3185 (by omega) (by omega)
                obtain ⟨⟨hpi, hlp⟩, hoc⟩ := SI_in hSI (by omega) (by omega)
                have hlt9 : p1 < TT := by unfold oc at hoc; omega
                have hpd3186 : pd_R ZZ YY TT (1, fl, nk, L1) (p1 + 1) = XX := (pd_A_op hlt9 (by unfold oc at hoc; unfold pd_op; omega)).symm.trans hpi
                refine nx_v (As := [.int v3184]) (rest := []) (n := 1) (d := 0) ⟨hx, hb, hml, hown, hts⟩ (c_X3_moveTo l E D G h0 hG0 v3184 ft fp fn TT (p1 + 1) nc L1 (by first | omega | decide) (by omega)) wd_707 wd_709 wp_13 wd_5 wd_710 (by decide +kernel) ⟨by rw [hR]; show 0 + 1 ≤ 3 + 2 * k; omega, by rw [hR]; show 8 + (2 + 11) + 40 * (0) ≤ 40 * (3 + 2 * k); omega⟩ hI hN hK hS hG0 ((RC.to0 hRC3123)) rfl hl.1 rfl (Nat.le_of_ble_eq_true rfl) dX3_sum_78 ⟨Nat.zero_le _, Nat.zero_le _⟩ (fun H locs hI hp hS => ?_)
                have hRC3188 := hp
                obtain ⟨hT4, hpT, ⟨w3189, hg3190, k3191⟩, ⟨w3192, hg3193, k3194⟩⟩ := RC.tk hRC3188
                clear hRC3123 hg3125 hg3128 k3130
                have k3195 := TK.at hTK hpT
                refine lv_aload_n hx hb dX3_sum_81 rfl (lv_at hl 5 rfl) ?_
                refine lv_iload_n hx hb dX3_sum_82 rfl (lv_at hl 6 rfl) ?_
                refine nx_i (As := [.int x1]) (rest := []) (n := 1) (d := (2 + 2 * k)) ⟨hx, hb, hml, hown, hts⟩ (hpart h0 hG0 x1 ft fp fn TT (p1 + 1) nc L1 ZZ YY nk XX hTK dd (by first | decide | omega) (by omega) (by omega) fl hdp hpd3186) wd_719 wd_721 wp_16 wd_5 wd_722 (by decide +kernel) ⟨by rw [hR]; show (2 + 2 * k) + 1 ≤ 3 + 2 * k; omega, by rw [hR]; show 8 + (4 + 11) + 40 * ((2 + 2 * k)) ≤ 40 * (3 + 2 * k); omega⟩ hI hN hK hS hG0 (hRC3188) rfl hl.1 rfl (Nat.le_of_ble_eq_true rfl) dX3_sum_83 ⟨Nat.zero_le _, Nat.zero_le _⟩ (fun r3196 H locs hI hp hS => ?_)
                rcases hp with ⟨rfl, hp⟩ | ⟨rfl, hp⟩
                · skip
                  try simp only [rg, not_and, Int.not_le] at hp
                  have hp3197 := hp
                  obtain ⟨pn3198, Ln3199, hE, k3200, hpd3201⟩ := hp3197
                  have hp3197 : True := trivial
                  have hRC3202 := hE
                  obtain ⟨hT4, hpT, ⟨w3203, hg3204, k3205⟩, ⟨w3206, hg3207, k3208⟩⟩ := RC.tk hRC3202
                  clear hRC3188 hg3190 hg3193 k3195
                  have k3209 := TK.at hTK hpT
                  refine lv_istore_n (lv' := [(3, .int 1), (6, .int 1), (5, .int v3114), (4, .int v3115), (2, .int v3117), (0, .ref h0), (1, .int x1)]) hx hb dX3_sum_86 rfl hl (by decide) rfl (fun ls hl => ?_)
                  refine lv_iload hx hb dX3_sum_87 (lv_at hl 1 rfl) ?_
                  refine lv_if_eq (tgt := 98) hx hb dX3_sum_89 (by decide) (fun c => absurd c (by decide)) (fun _ => ?_)
                  refine lv_iload hx hb dX3_sum_92 (lv_at hl 3 rfl) ?_
                  refine lv_istore_n (lv' := [(2, .int v3115), (3, .int 1), (6, .int 1), (5, .int v3114), (4, .int v3115), (0, .ref h0), (1, .int x1)]) hx hb dX3_sum_94 rfl hl (by decide) rfl (fun ls hl => ?_)
                  refine lv_goto (tgt := 106) hx hb dX3_sum_95 (by decide) ?_
                  refine lv_aload_n hx hb dX3_sum_106 rfl (lv_at hl 5 rfl) ?_
                  refine nr_i (As := []) (rest := []) (n := 0) (d := 0) ⟨hx, hb, hml, hown, hts⟩ (c_X3_arithmetic l E D G H h0 hG0  ft fp fn TT pn3198 nc Ln3199 hRC3202) wd_727 wd_729 wp_18 wd_5 wd_730 (by decide +kernel) ⟨by rw [hR]; show 0 + 1 ≤ 3 + 2 * k; omega, by rw [hR]; show 8 + (1 + 11) + 40 * (0) ≤ 40 * (3 + 2 * k); omega⟩ hI hN hK hS hG0 rfl hl.1 rfl (Nat.le_of_ble_eq_true rfl) dX3_sum_107 ⟨Nat.zero_le _, Nat.zero_le _⟩ (fun r3210 locs hp hS => ?_)
                  have hp3211 := hp
                  have hop3212 := hp
                  refine lv_istore (lv' := [(4, .int r3210), (2, .int v3115), (3, .int 1), (6, .int 1), (5, .int v3114), (0, .ref h0), (1, .int x1)]) hx hb dX3_sum_110 hl (by decide) rfl (fun ls hl => ?_)
                  obtain ⟨v3213, e3214⟩ : ∃ y : Int32, y = v3114 + (1) := ⟨_, rfl⟩
                  have tv3213 : v3213.toInt = v3114.toInt + (1) := iv_add rfl (by decide) e3214 (by omega) (by omega)
                  refine lv_iinc (v := v3213) (lv' := [(5, .int v3213), (4, .int r3210), (2, .int v3115), (3, .int 1), (6, .int 1), (0, .ref h0), (1, .int x1)]) hx hb dX3_sum_112 hl (k := 4) rfl (by rw [e3214]; rfl) (by decide) rfl (fun ls hl => ?_)
                  refine lv_goto (tgt := 17) hx hb dX3_sum_115 (by decide) ?_
                  exact ih_17 _ (by omega) H locs ls v3213 r3210 1 v3115 pn3198 Ln3199 rfl (lv_sub hl [0, 1, 3, 2, 5, 6] rfl) ⟨by omega, by omega⟩ ⟨by omega, by omega⟩ ⟨by decide, by decide⟩ ⟨by omega, by omega⟩ ⟨by omega, by omega⟩ (by omega) (by first | omega | (show (0 : Int32).toInt ≤ _; rw [show (0 : Int32).toInt = 0 from by decide]; omega)) (Or.inl ⟨by first | decide | omega, ⟨hpd3201, by omega⟩, SI_op hop3212⟩) (hRC3202) hI hS
                · skip
                  try simp only [rg, not_and, Int.not_le] at hp
                  have hp3215 := hp
                  obtain ⟨pn3216, Ln3217, hE, k3218, hfl3219⟩ := hp3215
                  have hp3215 : True := trivial
                  have hRC3220 := hE
                  obtain ⟨hT4, hpT, ⟨w3221, hg3222, k3223⟩, ⟨w3224, hg3225, k3226⟩⟩ := RC.tk hRC3220
                  clear hRC3188 hg3190 hg3193 k3195
                  have k3227 := TK.at hTK hpT
                  refine lv_istore_n (lv' := [(3, .int 0), (6, .int 1), (5, .int v3114), (4, .int v3115), (2, .int v3117), (0, .ref h0), (1, .int x1)]) hx hb dX3_sum_86 rfl hl (by decide) rfl (fun ls hl => ?_)
                  refine lv_iload hx hb dX3_sum_87 (lv_at hl 1 rfl) ?_
                  refine lv_if_eq (tgt := 98) hx hb dX3_sum_89 (by decide) (fun c => absurd c (by decide)) (fun _ => ?_)
                  refine lv_iload hx hb dX3_sum_92 (lv_at hl 3 rfl) ?_
                  refine lv_istore_n (lv' := [(2, .int v3115), (3, .int 0), (6, .int 1), (5, .int v3114), (4, .int v3115), (0, .ref h0), (1, .int x1)]) hx hb dX3_sum_94 rfl hl (by decide) rfl (fun ls hl => ?_)
                  refine lv_goto (tgt := 106) hx hb dX3_sum_95 (by decide) ?_
                  refine lv_aload_n hx hb dX3_sum_106 rfl (lv_at hl 5 rfl) ?_
                  refine nr_i (As := []) (rest := []) (n := 0) (d := 0) ⟨hx, hb, hml, hown, hts⟩ (c_X3_arithmetic l E D G H h0 hG0  ft fp fn TT pn3216 nc Ln3217 hRC3220) wd_727 wd_729 wp_18 wd_5 wd_730 (by decide +kernel) ⟨by rw [hR]; show 0 + 1 ≤ 3 + 2 * k; omega, by rw [hR]; show 8 + (1 + 11) + 40 * (0) ≤ 40 * (3 + 2 * k); omega⟩ hI hN hK hS hG0 rfl hl.1 rfl (Nat.le_of_ble_eq_true rfl) dX3_sum_107 ⟨Nat.zero_le _, Nat.zero_le _⟩ (fun r3228 locs hp hS => ?_)
                  have hp3229 := hp
                  have hop3230 := hp
                  refine lv_istore (lv' := [(4, .int r3228), (2, .int v3115), (3, .int 0), (6, .int 1), (5, .int v3114), (0, .ref h0), (1, .int x1)]) hx hb dX3_sum_110 hl (by decide) rfl (fun ls hl => ?_)
                  obtain ⟨v3231, e3232⟩ : ∃ y : Int32, y = v3114 + (1) := ⟨_, rfl⟩
                  have tv3231 : v3231.toInt = v3114.toInt + (1) := iv_add rfl (by decide) e3232 (by omega) (by omega)
                  refine lv_iinc (v := v3231) (lv' := [(5, .int v3231), (4, .int r3228), (2, .int v3115), (3, .int 0), (6, .int 1), (0, .ref h0), (1, .int x1)]) hx hb dX3_sum_112 hl (k := 4) rfl (by rw [e3232]; rfl) (by decide) rfl (fun ls hl => ?_)
                  refine lv_goto (tgt := 17) hx hb dX3_sum_115 (by decide) ?_
                  exact ih_17 _ (by omega) H locs ls v3231 r3228 0 v3115 pn3216 Ln3217 rfl (lv_sub hl [0, 1, 3, 2, 5, 6] rfl) ⟨by omega, by omega⟩ ⟨by omega, by omega⟩ ⟨by decide, by decide⟩ ⟨by omega, by omega⟩ ⟨by omega, by omega⟩ (by omega) (by first | omega | (show (0 : Int32).toInt ≤ _; rw [show (0 : Int32).toInt = 0 from by decide]; omega)) (Or.inr ⟨by first | decide | omega, hfl3219⟩) (hRC3220) hI hS
              · skip
                have k3233 := iv_ne (X := v3117.toInt) (Y := (-1)) rfl (by decide) c3178
                refine lv_aload_n hx hb dX3_sum_64 rfl (lv_at hl 5 rfl) ?_
                refine lv_iload_n hx hb dX3_sum_65 rfl (lv_at hl 4 rfl) ?_
                refine lv_iconst (v := 0) hx hb dX3_sum_66 (by decide) ?_
                refine nx_i (As := [.int v3117, .int 0]) (rest := []) (n := 2) (d := 0) ⟨hx, hb, hml, hown, hts⟩ (c_X3_emit l E D G h0 hG0 v3117 0 ft fp fn TT p1 nc L1) wd_723 wd_725 wp_17 wd_5 wd_726 (by decide +kernel) ⟨by rw [hR]; show 0 + 1 ≤ 3 + 2 * k; omega, by rw [hR]; show 8 + (3 + 11) + 40 * (0) ≤ 40 * (3 + 2 * k); omega⟩ hI hN hK hS hG0 (hRC3123) rfl hl.1 rfl (Nat.le_of_ble_eq_true rfl) dX3_sum_67 ⟨Nat.zero_le _, Nat.zero_le _⟩ (fun r3234 H locs hI hp hS => ?_)
                have hRC3235 := hp
                obtain ⟨hT4, hpT, ⟨w3236, hg3237, k3238⟩, ⟨w3239, hg3240, k3241⟩⟩ := RC.tk hRC3235
                clear hRC3123 hg3125 hg3128 k3130
                have k3242 := TK.at hTK hpT
                refine lv_pop hx hb dX3_sum_70 rfl ?_
                refine lv_aload_n hx hb dX3_sum_71 rfl (lv_at hl 5 rfl) ?_
                refine lv_aload_n hx hb dX3_sum_72 rfl (lv_at hl 5 rfl) ?_
                refine gmIC hx hb hts inT3 hown hK hI List.not_mem_nil hG0 10 (by decide) (hts _ (tb_c wd_139)) rfl rfl dX3_sum_73 (fun w3243 hg3244 k3245 k3246 => ?_)
                obtain rfl := gfC.uniq (by decide) hg3237 hg3244
                refine lv_iconst (v := 1) hx hb dX3_sum_76 (by decide) ?_
                refine lv_iadd hx hb dX3_sum_77 ?_
                refine lv_topi (fun v3247 e3248 => ?_)
                have tv3247 : v3247.toInt = w3236.toInt + (1) := iv_add rfl (by decide) e3248 (by omega) (by omega)
                obtain ⟨⟨hpi, hlp⟩, hoc⟩ := SI_in hSI (by omega) (by omega)
                have hlt9 : p1 < TT := by unfold oc at hoc; omega
                have hpd3249 : pd_R ZZ YY TT (1, fl, nk, L1) (p1 + 1) = XX := (pd_A_op hlt9 (by unfold oc at hoc; unfold pd_op; omega)).symm.trans hpi
                refine nx_v (As := [.int v3247]) (rest := []) (n := 1) (d := 0) ⟨hx, hb, hml, hown, hts⟩ (c_X3_moveTo l E D G h0 hG0 v3247 ft fp fn TT (p1 + 1) nc L1 (by first | omega | decide) (by omega)) wd_707 wd_709 wp_13 wd_5 wd_710 (by decide +kernel) ⟨by rw [hR]; show 0 + 1 ≤ 3 + 2 * k; omega, by rw [hR]; show 8 + (2 + 11) + 40 * (0) ≤ 40 * (3 + 2 * k); omega⟩ hI hN hK hS hG0 ((RC.to0 hRC3235)) rfl hl.1 rfl (Nat.le_of_ble_eq_true rfl) dX3_sum_78 ⟨Nat.zero_le _, Nat.zero_le _⟩ (fun H locs hI hp hS => ?_)
                have hRC3251 := hp
                obtain ⟨hT4, hpT, ⟨w3252, hg3253, k3254⟩, ⟨w3255, hg3256, k3257⟩⟩ := RC.tk hRC3251
                clear hRC3235 hg3237 hg3240 k3242
                have k3258 := TK.at hTK hpT
                refine lv_aload_n hx hb dX3_sum_81 rfl (lv_at hl 5 rfl) ?_
                refine lv_iload_n hx hb dX3_sum_82 rfl (lv_at hl 6 rfl) ?_
                refine nx_i (As := [.int x1]) (rest := []) (n := 1) (d := (2 + 2 * k)) ⟨hx, hb, hml, hown, hts⟩ (hpart h0 hG0 x1 ft fp fn TT (p1 + 1) nc L1 ZZ YY nk XX hTK dd (by first | decide | omega) (by omega) (by omega) fl hdp hpd3249) wd_719 wd_721 wp_16 wd_5 wd_722 (by decide +kernel) ⟨by rw [hR]; show (2 + 2 * k) + 1 ≤ 3 + 2 * k; omega, by rw [hR]; show 8 + (4 + 11) + 40 * ((2 + 2 * k)) ≤ 40 * (3 + 2 * k); omega⟩ hI hN hK hS hG0 (hRC3251) rfl hl.1 rfl (Nat.le_of_ble_eq_true rfl) dX3_sum_83 ⟨Nat.zero_le _, Nat.zero_le _⟩ (fun r3259 H locs hI hp hS => ?_)
                rcases hp with ⟨rfl, hp⟩ | ⟨rfl, hp⟩
                · skip
                  try simp only [rg, not_and, Int.not_le] at hp
                  have hp3260 := hp
                  obtain ⟨pn3261, Ln3262, hE, k3263, hpd3264⟩ := hp3260
                  have hp3260 : True := trivial
                  have hRC3265 := hE
                  obtain ⟨hT4, hpT, ⟨w3266, hg3267, k3268⟩, ⟨w3269, hg3270, k3271⟩⟩ := RC.tk hRC3265
                  clear hRC3251 hg3253 hg3256 k3258
                  have k3272 := TK.at hTK hpT
                  refine lv_istore_n (lv' := [(3, .int 1), (6, .int 1), (5, .int v3114), (4, .int v3115), (2, .int v3117), (0, .ref h0), (1, .int x1)]) hx hb dX3_sum_86 rfl hl (by decide) rfl (fun ls hl => ?_)
                  refine lv_iload hx hb dX3_sum_87 (lv_at hl 1 rfl) ?_
                  refine lv_if_eq (tgt := 98) hx hb dX3_sum_89 (by decide) (fun c => absurd c (by decide)) (fun _ => ?_)
                  refine lv_iload hx hb dX3_sum_92 (lv_at hl 3 rfl) ?_
                  refine lv_istore_n (lv' := [(2, .int v3115), (3, .int 1), (6, .int 1), (5, .int v3114), (4, .int v3115), (0, .ref h0), (1, .int x1)]) hx hb dX3_sum_94 rfl hl (by decide) rfl (fun ls hl => ?_)
                  refine lv_goto (tgt := 106) hx hb dX3_sum_95 (by decide) ?_
                  refine lv_aload_n hx hb dX3_sum_106 rfl (lv_at hl 5 rfl) ?_
                  refine nr_i (As := []) (rest := []) (n := 0) (d := 0) ⟨hx, hb, hml, hown, hts⟩ (c_X3_arithmetic l E D G H h0 hG0  ft fp fn TT pn3261 nc Ln3262 hRC3265) wd_727 wd_729 wp_18 wd_5 wd_730 (by decide +kernel) ⟨by rw [hR]; show 0 + 1 ≤ 3 + 2 * k; omega, by rw [hR]; show 8 + (1 + 11) + 40 * (0) ≤ 40 * (3 + 2 * k); omega⟩ hI hN hK hS hG0 rfl hl.1 rfl (Nat.le_of_ble_eq_true rfl) dX3_sum_107 ⟨Nat.zero_le _, Nat.zero_le _⟩ (fun r3273 locs hp hS => ?_)
                  have hp3274 := hp
                  have hop3275 := hp
                  refine lv_istore (lv' := [(4, .int r3273), (2, .int v3115), (3, .int 1), (6, .int 1), (5, .int v3114), (0, .ref h0), (1, .int x1)]) hx hb dX3_sum_110 hl (by decide) rfl (fun ls hl => ?_)
                  obtain ⟨v3276, e3277⟩ : ∃ y : Int32, y = v3114 + (1) := ⟨_, rfl⟩
                  have tv3276 : v3276.toInt = v3114.toInt + (1) := iv_add rfl (by decide) e3277 (by omega) (by omega)
                  refine lv_iinc (v := v3276) (lv' := [(5, .int v3276), (4, .int r3273), (2, .int v3115), (3, .int 1), (6, .int 1), (0, .ref h0), (1, .int x1)]) hx hb dX3_sum_112 hl (k := 4) rfl (by rw [e3277]; rfl) (by decide) rfl (fun ls hl => ?_)
                  refine lv_goto (tgt := 17) hx hb dX3_sum_115 (by decide) ?_
                  exact ih_17 _ (by omega) H locs ls v3276 r3273 1 v3115 pn3261 Ln3262 rfl (lv_sub hl [0, 1, 3, 2, 5, 6] rfl) ⟨by omega, by omega⟩ ⟨by omega, by omega⟩ ⟨by decide, by decide⟩ ⟨by omega, by omega⟩ ⟨by omega, by omega⟩ (by omega) (by first | omega | (show (0 : Int32).toInt ≤ _; rw [show (0 : Int32).toInt = 0 from by decide]; omega)) (Or.inl ⟨by first | decide | omega, ⟨hpd3264, by omega⟩, SI_op hop3275⟩) (hRC3265) hI hS
                · skip
                  try simp only [rg, not_and, Int.not_le] at hp
                  have hp3278 := hp
                  obtain ⟨pn3279, Ln3280, hE, k3281, hfl3282⟩ := hp3278
                  have hp3278 : True := trivial
                  have hRC3283 := hE
                  obtain ⟨hT4, hpT, ⟨w3284, hg3285, k3286⟩, ⟨w3287, hg3288, k3289⟩⟩ := RC.tk hRC3283
                  clear hRC3251 hg3253 hg3256 k3258
                  have k3290 := TK.at hTK hpT
                  refine lv_istore_n (lv' := [(3, .int 0), (6, .int 1), (5, .int v3114), (4, .int v3115), (2, .int v3117), (0, .ref h0), (1, .int x1)]) hx hb dX3_sum_86 rfl hl (by decide) rfl (fun ls hl => ?_)
                  refine lv_iload hx hb dX3_sum_87 (lv_at hl 1 rfl) ?_
                  refine lv_if_eq (tgt := 98) hx hb dX3_sum_89 (by decide) (fun c => absurd c (by decide)) (fun _ => ?_)
                  refine lv_iload hx hb dX3_sum_92 (lv_at hl 3 rfl) ?_
                  refine lv_istore_n (lv' := [(2, .int v3115), (3, .int 0), (6, .int 1), (5, .int v3114), (4, .int v3115), (0, .ref h0), (1, .int x1)]) hx hb dX3_sum_94 rfl hl (by decide) rfl (fun ls hl => ?_)
                  refine lv_goto (tgt := 106) hx hb dX3_sum_95 (by decide) ?_
                  refine lv_aload_n hx hb dX3_sum_106 rfl (lv_at hl 5 rfl) ?_
                  refine nr_i (As := []) (rest := []) (n := 0) (d := 0) ⟨hx, hb, hml, hown, hts⟩ (c_X3_arithmetic l E D G H h0 hG0  ft fp fn TT pn3279 nc Ln3280 hRC3283) wd_727 wd_729 wp_18 wd_5 wd_730 (by decide +kernel) ⟨by rw [hR]; show 0 + 1 ≤ 3 + 2 * k; omega, by rw [hR]; show 8 + (1 + 11) + 40 * (0) ≤ 40 * (3 + 2 * k); omega⟩ hI hN hK hS hG0 rfl hl.1 rfl (Nat.le_of_ble_eq_true rfl) dX3_sum_107 ⟨Nat.zero_le _, Nat.zero_le _⟩ (fun r3291 locs hp hS => ?_)
                  have hp3292 := hp
                  have hop3293 := hp
                  refine lv_istore (lv' := [(4, .int r3291), (2, .int v3115), (3, .int 0), (6, .int 1), (5, .int v3114), (0, .ref h0), (1, .int x1)]) hx hb dX3_sum_110 hl (by decide) rfl (fun ls hl => ?_)
                  obtain ⟨v3294, e3295⟩ : ∃ y : Int32, y = v3114 + (1) := ⟨_, rfl⟩
                  have tv3294 : v3294.toInt = v3114.toInt + (1) := iv_add rfl (by decide) e3295 (by omega) (by omega)
                  refine lv_iinc (v := v3294) (lv' := [(5, .int v3294), (4, .int r3291), (2, .int v3115), (3, .int 0), (6, .int 1), (0, .ref h0), (1, .int x1)]) hx hb dX3_sum_112 hl (k := 4) rfl (by rw [e3295]; rfl) (by decide) rfl (fun ls hl => ?_)
                  refine lv_goto (tgt := 17) hx hb dX3_sum_115 (by decide) ?_
                  exact ih_17 _ (by omega) H locs ls v3294 r3291 0 v3115 pn3279 Ln3280 rfl (lv_sub hl [0, 1, 3, 2, 5, 6] rfl) ⟨by omega, by omega⟩ ⟨by omega, by omega⟩ ⟨by decide, by decide⟩ ⟨by omega, by omega⟩ ⟨by omega, by omega⟩ (by omega) (by first | omega | (show (0 : Int32).toInt ≤ _; rw [show (0 : Int32).toInt = 0 from by decide]; omega)) (Or.inr ⟨by first | decide | omega, hfl3282⟩) (hRC3283) hI hS
            · skip
              have k3296 := iv_ne (X := v3115.toInt) (Y := (2)) rfl (by decide) c3176
              refine lv_iload hx hb dX3_sum_41 (lv_at hl 1 rfl) ?_
              refine lv_iconst (v := 3) hx hb dX3_sum_43 (by decide) ?_
              refine lv_icmp_ne (tgt := 51) hx hb dX3_sum_44 (by decide) (fun c3297 => ?_) (fun c3297 => ?_)
              · skip
                have k3298 := iv_ne (X := v3115.toInt) (Y := (3)) rfl (by decide) c3297
                refine lv_iconst (v := 0) hx hb dX3_sum_51 (by decide) ?_
                refine lv_istore (lv' := [(6, .int 0), (5, .int v3114), (4, .int v3115), (3, .int v3116), (2, .int v3117), (0, .ref h0), (1, .int x1)]) hx hb dX3_sum_52 hl (by decide) rfl (fun ls hl => ?_)
                refine lv_iload hx hb dX3_sum_54 (lv_at hl 0 rfl) ?_
                refine lv_if_eq (tgt := 71) hx hb dX3_sum_56 (by decide) (fun _ => ?_) (fun c => absurd c (by decide))
                refine lv_aload_n hx hb dX3_sum_71 rfl (lv_at hl 5 rfl) ?_
                refine lv_aload_n hx hb dX3_sum_72 rfl (lv_at hl 5 rfl) ?_
                refine gmIC hx hb hts inT3 hown hK hI List.not_mem_nil hG0 10 (by decide) (hts _ (tb_c wd_139)) rfl rfl dX3_sum_73 (fun w3299 hg3300 k3301 k3302 => ?_)
                obtain rfl := gfC.uniq (by decide) hg3125 hg3300
                refine lv_iconst (v := 1) hx hb dX3_sum_76 (by decide) ?_
                refine lv_iadd hx hb dX3_sum_77 ?_
                refine lv_topi (fun v3303 e3304 => ?_)
                have tv3303 : v3303.toInt = w3124.toInt + (1) := iv_add rfl (by decide) e3304 (by omega) (by omega)
                obtain ⟨⟨hpi, hlp⟩, hoc⟩ := SI_in hSI (by omega) (by omega)
                have hlt9 : p1 < TT := by unfold oc at hoc; omega
                have hpd3305 : pd_R ZZ YY TT (1, fl, nk, L1) (p1 + 1) = XX := (pd_A_op hlt9 (by unfold oc at hoc; unfold pd_op; omega)).symm.trans hpi
                refine nx_v (As := [.int v3303]) (rest := []) (n := 1) (d := 0) ⟨hx, hb, hml, hown, hts⟩ (c_X3_moveTo l E D G h0 hG0 v3303 ft fp fn TT (p1 + 1) nc L1 (by first | omega | decide) (by omega)) wd_707 wd_709 wp_13 wd_5 wd_710 (by decide +kernel) ⟨by rw [hR]; show 0 + 1 ≤ 3 + 2 * k; omega, by rw [hR]; show 8 + (2 + 11) + 40 * (0) ≤ 40 * (3 + 2 * k); omega⟩ hI hN hK hS hG0 ((RC.to0 hRC3123)) rfl hl.1 rfl (Nat.le_of_ble_eq_true rfl) dX3_sum_78 ⟨Nat.zero_le _, Nat.zero_le _⟩ (fun H locs hI hp hS => ?_)
                have hRC3307 := hp
                obtain ⟨hT4, hpT, ⟨w3308, hg3309, k3310⟩, ⟨w3311, hg3312, k3313⟩⟩ := RC.tk hRC3307
                clear hRC3123 hg3125 hg3128 k3130
                have k3314 := TK.at hTK hpT
                refine lv_aload_n hx hb dX3_sum_81 rfl (lv_at hl 5 rfl) ?_
                refine lv_iload_n hx hb dX3_sum_82 rfl (lv_at hl 6 rfl) ?_
                refine nx_i (As := [.int x1]) (rest := []) (n := 1) (d := (2 + 2 * k)) ⟨hx, hb, hml, hown, hts⟩ (hpart h0 hG0 x1 ft fp fn TT (p1 + 1) nc L1 ZZ YY nk XX hTK dd (by first | decide | omega) (by omega) (by omega) fl hdp hpd3305) wd_719 wd_721 wp_16 wd_5 wd_722 (by decide +kernel) ⟨by rw [hR]; show (2 + 2 * k) + 1 ≤ 3 + 2 * k; omega, by rw [hR]; show 8 + (4 + 11) + 40 * ((2 + 2 * k)) ≤ 40 * (3 + 2 * k); omega⟩ hI hN hK hS hG0 (hRC3307) rfl hl.1 rfl (Nat.le_of_ble_eq_true rfl) dX3_sum_83 ⟨Nat.zero_le _, Nat.zero_le _⟩ (fun r3315 H locs hI hp hS => ?_)
                rcases hp with ⟨rfl, hp⟩ | ⟨rfl, hp⟩
                · skip
                  try simp only [rg, not_and, Int.not_le] at hp
                  have hp3316 := hp
                  obtain ⟨pn3317, Ln3318, hE, k3319, hpd3320⟩ := hp3316
                  have hp3316 : True := trivial
                  have hRC3321 := hE
                  obtain ⟨hT4, hpT, ⟨w3322, hg3323, k3324⟩, ⟨w3325, hg3326, k3327⟩⟩ := RC.tk hRC3321
                  clear hRC3307 hg3309 hg3312 k3314
                  have k3328 := TK.at hTK hpT
                  refine lv_istore_n (lv' := [(3, .int 1), (6, .int 0), (5, .int v3114), (4, .int v3115), (2, .int v3117), (0, .ref h0), (1, .int x1)]) hx hb dX3_sum_86 rfl hl (by decide) rfl (fun ls hl => ?_)
                  refine lv_iload hx hb dX3_sum_87 (lv_at hl 1 rfl) ?_
                  refine lv_if_eq (tgt := 98) hx hb dX3_sum_89 (by decide) (fun _ => ?_) (fun c => absurd c (by decide))
                  refine lv_aload_n hx hb dX3_sum_98 rfl (lv_at hl 5 rfl) ?_
                  refine lv_iload hx hb dX3_sum_99 (lv_at hl 3 rfl) ?_
                  refine lv_iconst (v := 0) hx hb dX3_sum_101 (by decide) ?_
                  refine nx_i (As := [.int v3115, .int 0]) (rest := []) (n := 2) (d := 0) ⟨hx, hb, hml, hown, hts⟩ (c_X3_emit l E D G h0 hG0 v3115 0 ft fp fn TT pn3317 nc Ln3318) wd_723 wd_725 wp_17 wd_5 wd_726 (by decide +kernel) ⟨by rw [hR]; show 0 + 1 ≤ 3 + 2 * k; omega, by rw [hR]; show 8 + (3 + 11) + 40 * (0) ≤ 40 * (3 + 2 * k); omega⟩ hI hN hK hS hG0 (hRC3321) rfl hl.1 rfl (Nat.le_of_ble_eq_true rfl) dX3_sum_102 ⟨Nat.zero_le _, Nat.zero_le _⟩ (fun r3329 H locs hI hp hS => ?_)
                  have hRC3330 := hp
                  obtain ⟨hT4, hpT, ⟨w3331, hg3332, k3333⟩, ⟨w3334, hg3335, k3336⟩⟩ := RC.tk hRC3330
                  clear hRC3321 hg3323 hg3326 k3328
                  have k3337 := TK.at hTK hpT
                  refine lv_pop hx hb dX3_sum_105 rfl ?_
                  refine lv_aload_n hx hb dX3_sum_106 rfl (lv_at hl 5 rfl) ?_
                  refine nr_i (As := []) (rest := []) (n := 0) (d := 0) ⟨hx, hb, hml, hown, hts⟩ (c_X3_arithmetic l E D G H h0 hG0  ft fp fn TT pn3317 nc Ln3318 hRC3330) wd_727 wd_729 wp_18 wd_5 wd_730 (by decide +kernel) ⟨by rw [hR]; show 0 + 1 ≤ 3 + 2 * k; omega, by rw [hR]; show 8 + (1 + 11) + 40 * (0) ≤ 40 * (3 + 2 * k); omega⟩ hI hN hK hS hG0 rfl hl.1 rfl (Nat.le_of_ble_eq_true rfl) dX3_sum_107 ⟨Nat.zero_le _, Nat.zero_le _⟩ (fun r3338 locs hp hS => ?_)
                  have hp3339 := hp
                  have hop3340 := hp
                  refine lv_istore (lv' := [(4, .int r3338), (3, .int 1), (6, .int 0), (5, .int v3114), (2, .int v3117), (0, .ref h0), (1, .int x1)]) hx hb dX3_sum_110 hl (by decide) rfl (fun ls hl => ?_)
                  obtain ⟨v3341, e3342⟩ : ∃ y : Int32, y = v3114 + (1) := ⟨_, rfl⟩
                  have tv3341 : v3341.toInt = v3114.toInt + (1) := iv_add rfl (by decide) e3342 (by omega) (by omega)
                  refine lv_iinc (v := v3341) (lv' := [(5, .int v3341), (4, .int r3338), (3, .int 1), (6, .int 0), (2, .int v3117), (0, .ref h0), (1, .int x1)]) hx hb dX3_sum_112 hl (k := 3) rfl (by rw [e3342]; rfl) (by decide) rfl (fun ls hl => ?_)
                  refine lv_goto (tgt := 17) hx hb dX3_sum_115 (by decide) ?_
                  exact ih_17 _ (by omega) H locs ls v3341 r3338 1 v3117 pn3317 Ln3318 rfl (lv_sub hl [0, 1, 2, 4, 5, 6] rfl) ⟨by omega, by omega⟩ ⟨by omega, by omega⟩ ⟨by decide, by decide⟩ ⟨by omega, by omega⟩ ⟨by omega, by omega⟩ (by omega) (by first | omega | (show (0 : Int32).toInt ≤ _; rw [show (0 : Int32).toInt = 0 from by decide]; omega)) (Or.inl ⟨by first | decide | omega, ⟨hpd3320, by omega⟩, SI_op hop3340⟩) (hRC3330) hI hS
                · skip
                  try simp only [rg, not_and, Int.not_le] at hp
                  have hp3343 := hp
                  obtain ⟨pn3344, Ln3345, hE, k3346, hfl3347⟩ := hp3343
                  have hp3343 : True := trivial
                  have hRC3348 := hE
                  obtain ⟨hT4, hpT, ⟨w3349, hg3350, k3351⟩, ⟨w3352, hg3353, k3354⟩⟩ := RC.tk hRC3348
                  clear hRC3307 hg3309 hg3312 k3314
                  have k3355 := TK.at hTK hpT
                  refine lv_istore_n (lv' := [(3, .int 0), (6, .int 0), (5, .int v3114), (4, .int v3115), (2, .int v3117), (0, .ref h0), (1, .int x1)]) hx hb dX3_sum_86 rfl hl (by decide) rfl (fun ls hl => ?_)
                  refine lv_iload hx hb dX3_sum_87 (lv_at hl 1 rfl) ?_
                  refine lv_if_eq (tgt := 98) hx hb dX3_sum_89 (by decide) (fun _ => ?_) (fun c => absurd c (by decide))
                  refine lv_aload_n hx hb dX3_sum_98 rfl (lv_at hl 5 rfl) ?_
                  refine lv_iload hx hb dX3_sum_99 (lv_at hl 3 rfl) ?_
                  refine lv_iconst (v := 0) hx hb dX3_sum_101 (by decide) ?_
                  refine nx_i (As := [.int v3115, .int 0]) (rest := []) (n := 2) (d := 0) ⟨hx, hb, hml, hown, hts⟩ (c_X3_emit l E D G h0 hG0 v3115 0 ft fp fn TT pn3344 nc Ln3345) wd_723 wd_725 wp_17 wd_5 wd_726 (by decide +kernel) ⟨by rw [hR]; show 0 + 1 ≤ 3 + 2 * k; omega, by rw [hR]; show 8 + (3 + 11) + 40 * (0) ≤ 40 * (3 + 2 * k); omega⟩ hI hN hK hS hG0 (hRC3348) rfl hl.1 rfl (Nat.le_of_ble_eq_true rfl) dX3_sum_102 ⟨Nat.zero_le _, Nat.zero_le _⟩ (fun r3356 H locs hI hp hS => ?_)
                  have hRC3357 := hp
                  obtain ⟨hT4, hpT, ⟨w3358, hg3359, k3360⟩, ⟨w3361, hg3362, k3363⟩⟩ := RC.tk hRC3357
                  clear hRC3348 hg3350 hg3353 k3355
                  have k3364 := TK.at hTK hpT
                  refine lv_pop hx hb dX3_sum_105 rfl ?_
                  refine lv_aload_n hx hb dX3_sum_106 rfl (lv_at hl 5 rfl) ?_
                  refine nr_i (As := []) (rest := []) (n := 0) (d := 0) ⟨hx, hb, hml, hown, hts⟩ (c_X3_arithmetic l E D G H h0 hG0  ft fp fn TT pn3344 nc Ln3345 hRC3357) wd_727 wd_729 wp_18 wd_5 wd_730 (by decide +kernel) ⟨by rw [hR]; show 0 + 1 ≤ 3 + 2 * k; omega, by rw [hR]; show 8 + (1 + 11) + 40 * (0) ≤ 40 * (3 + 2 * k); omega⟩ hI hN hK hS hG0 rfl hl.1 rfl (Nat.le_of_ble_eq_true rfl) dX3_sum_107 ⟨Nat.zero_le _, Nat.zero_le _⟩ (fun r3365 locs hp hS => ?_)
                  have hp3366 := hp
                  have hop3367 := hp
                  refine lv_istore (lv' := [(4, .int r3365), (3, .int 0), (6, .int 0), (5, .int v3114), (2, .int v3117), (0, .ref h0), (1, .int x1)]) hx hb dX3_sum_110 hl (by decide) rfl (fun ls hl => ?_)
                  obtain ⟨v3368, e3369⟩ : ∃ y : Int32, y = v3114 + (1) := ⟨_, rfl⟩
                  have tv3368 : v3368.toInt = v3114.toInt + (1) := iv_add rfl (by decide) e3369 (by omega) (by omega)
                  refine lv_iinc (v := v3368) (lv' := [(5, .int v3368), (4, .int r3365), (3, .int 0), (6, .int 0), (2, .int v3117), (0, .ref h0), (1, .int x1)]) hx hb dX3_sum_112 hl (k := 3) rfl (by rw [e3369]; rfl) (by decide) rfl (fun ls hl => ?_)
                  refine lv_goto (tgt := 17) hx hb dX3_sum_115 (by decide) ?_
                  exact ih_17 _ (by omega) H locs ls v3368 r3365 0 v3117 pn3344 Ln3345 rfl (lv_sub hl [0, 1, 2, 4, 5, 6] rfl) ⟨by omega, by omega⟩ ⟨by omega, by omega⟩ ⟨by decide, by decide⟩ ⟨by omega, by omega⟩ ⟨by omega, by omega⟩ (by omega) (by first | omega | (show (0 : Int32).toInt ≤ _; rw [show (0 : Int32).toInt = 0 from by decide]; omega)) (Or.inr ⟨by first | decide | omega, hfl3347⟩) (hRC3357) hI hS
              · skip
                have k3370 := iv_eq (X := v3115.toInt) (Y := (3)) rfl (by decide) c3297
                refine lv_iconst (v := 1) hx hb dX3_sum_47 (by decide) ?_
                refine lv_goto (tgt := 52) hx hb dX3_sum_48 (by decide) ?_
                refine lv_istore (lv' := [(6, .int 1), (5, .int v3114), (4, .int v3115), (3, .int v3116), (2, .int v3117), (0, .ref h0), (1, .int x1)]) hx hb dX3_sum_52 hl (by decide) rfl (fun ls hl => ?_)
                refine lv_iload hx hb dX3_sum_54 (lv_at hl 0 rfl) ?_
                refine lv_if_eq (tgt := 71) hx hb dX3_sum_56 (by decide) (fun c => absurd c (by decide)) (fun _ => ?_)
                refine lv_iload_n hx hb dX3_sum_59 rfl (lv_at hl 4 rfl) ?_
                refine lv_iconst (v := (-1)) hx hb dX3_sum_60 (by decide) ?_
                refine lv_icmp_eq (tgt := 71) hx hb dX3_sum_61 (by decide) (fun c3371 => ?_) (fun c3371 => ?_)
                · skip
                  have k3372 := iv_eq (X := v3117.toInt) (Y := (-1)) rfl (by decide) c3371
                  refine lv_aload_n hx hb dX3_sum_71 rfl (lv_at hl 5 rfl) ?_
                  refine lv_aload_n hx hb dX3_sum_72 rfl (lv_at hl 5 rfl) ?_
                  refine gmIC hx hb hts inT3 hown hK hI List.not_mem_nil hG0 10 (by decide) (hts _ (tb_c wd_139)) rfl rfl dX3_sum_73 (fun w3373 hg3374 k3375 k3376 => ?_)
                  obtain rfl := gfC.uniq (by decide) hg3125 hg3374
                  refine lv_iconst (v := 1) hx hb dX3_sum_76 (by decide) ?_
                  refine lv_iadd hx hb dX3_sum_77 ?_
                  refine lv_topi (fun v3377 e3378 => ?_)
                  have tv3377 : v3377.toInt = w3124.toInt + (1) := iv_add rfl (by decide) e3378 (by omega) (by omega)
                  obtain ⟨⟨hpi, hlp⟩, hoc⟩ := SI_in hSI (by omega) (by omega)
                  have hlt9 : p1 < TT := by unfold oc at hoc; omega
                  have hpd3379 : pd_R ZZ YY TT (1, fl, nk, L1) (p1 + 1) = XX := (pd_A_op hlt9 (by unfold oc at hoc; unfold pd_op; omega)).symm.trans hpi
                  refine nx_v (As := [.int v3377]) (rest := []) (n := 1) (d := 0) ⟨hx, hb, hml, hown, hts⟩ (c_X3_moveTo l E D G h0 hG0 v3377 ft fp fn TT (p1 + 1) nc L1 (by first | omega | decide) (by omega)) wd_707 wd_709 wp_13 wd_5 wd_710 (by decide +kernel) ⟨by rw [hR]; show 0 + 1 ≤ 3 + 2 * k; omega, by rw [hR]; show 8 + (2 + 11) + 40 * (0) ≤ 40 * (3 + 2 * k); omega⟩ hI hN hK hS hG0 ((RC.to0 hRC3123)) rfl hl.1 rfl (Nat.le_of_ble_eq_true rfl) dX3_sum_78 ⟨Nat.zero_le _, Nat.zero_le _⟩ (fun H locs hI hp hS => ?_)
                  have hRC3381 := hp
                  obtain ⟨hT4, hpT, ⟨w3382, hg3383, k3384⟩, ⟨w3385, hg3386, k3387⟩⟩ := RC.tk hRC3381
                  clear hRC3123 hg3125 hg3128 k3130
                  have k3388 := TK.at hTK hpT
                  refine lv_aload_n hx hb dX3_sum_81 rfl (lv_at hl 5 rfl) ?_
                  refine lv_iload_n hx hb dX3_sum_82 rfl (lv_at hl 6 rfl) ?_
                  refine nx_i (As := [.int x1]) (rest := []) (n := 1) (d := (2 + 2 * k)) ⟨hx, hb, hml, hown, hts⟩ (hpart h0 hG0 x1 ft fp fn TT (p1 + 1) nc L1 ZZ YY nk XX hTK dd (by first | decide | omega) (by omega) (by omega) fl hdp hpd3379) wd_719 wd_721 wp_16 wd_5 wd_722 (by decide +kernel) ⟨by rw [hR]; show (2 + 2 * k) + 1 ≤ 3 + 2 * k; omega, by rw [hR]; show 8 + (4 + 11) + 40 * ((2 + 2 * k)) ≤ 40 * (3 + 2 * k); omega⟩ hI hN hK hS hG0 (hRC3381) rfl hl.1 rfl (Nat.le_of_ble_eq_true rfl) dX3_sum_83 ⟨Nat.zero_le _, Nat.zero_le _⟩ (fun r3389 H locs hI hp hS => ?_)
                  rcases hp with ⟨rfl, hp⟩ | ⟨rfl, hp⟩
                  · skip
                    try simp only [rg, not_and, Int.not_le] at hp
                    have hp3390 := hp
                    obtain ⟨pn3391, Ln3392, hE, k3393, hpd3394⟩ := hp3390
                    have hp3390 : True := trivial
                    have hRC3395 := hE
                    obtain ⟨hT4, hpT, ⟨w3396, hg3397, k3398⟩, ⟨w3399, hg3400, k3401⟩⟩ := RC.tk hRC3395
                    clear hRC3381 hg3383 hg3386 k3388
                    have k3402 := TK.at hTK hpT
                    refine lv_istore_n (lv' := [(3, .int 1), (6, .int 1), (5, .int v3114), (4, .int v3115), (2, .int v3117), (0, .ref h0), (1, .int x1)]) hx hb dX3_sum_86 rfl hl (by decide) rfl (fun ls hl => ?_)
                    refine lv_iload hx hb dX3_sum_87 (lv_at hl 1 rfl) ?_
                    refine lv_if_eq (tgt := 98) hx hb dX3_sum_89 (by decide) (fun c => absurd c (by decide)) (fun _ => ?_)
                    refine lv_iload hx hb dX3_sum_92 (lv_at hl 3 rfl) ?_
                    refine lv_istore_n (lv' := [(2, .int v3115), (3, .int 1), (6, .int 1), (5, .int v3114), (4, .int v3115), (0, .ref h0), (1, .int x1)]) hx hb dX3_sum_94 rfl hl (by decide) rfl (fun ls hl => ?_)
                    refine lv_goto (tgt := 106) hx hb dX3_sum_95 (by decide) ?_
                    refine lv_aload_n hx hb dX3_sum_106 rfl (lv_at hl 5 rfl) ?_
                    refine nr_i (As := []) (rest := []) (n := 0) (d := 0) ⟨hx, hb, hml, hown, hts⟩ (c_X3_arithmetic l E D G H h0 hG0  ft fp fn TT pn3391 nc Ln3392 hRC3395) wd_727 wd_729 wp_18 wd_5 wd_730 (by decide +kernel) ⟨by rw [hR]; show 0 + 1 ≤ 3 + 2 * k; omega, by rw [hR]; show 8 + (1 + 11) + 40 * (0) ≤ 40 * (3 + 2 * k); omega⟩ hI hN hK hS hG0 rfl hl.1 rfl (Nat.le_of_ble_eq_true rfl) dX3_sum_107 ⟨Nat.zero_le _, Nat.zero_le _⟩ (fun r3403 locs hp hS => ?_)
                    have hp3404 := hp
                    have hop3405 := hp
                    refine lv_istore (lv' := [(4, .int r3403), (2, .int v3115), (3, .int 1), (6, .int 1), (5, .int v3114), (0, .ref h0), (1, .int x1)]) hx hb dX3_sum_110 hl (by decide) rfl (fun ls hl => ?_)
                    obtain ⟨v3406, e3407⟩ : ∃ y : Int32, y = v3114 + (1) := ⟨_, rfl⟩
                    have tv3406 : v3406.toInt = v3114.toInt + (1) := iv_add rfl (by decide) e3407 (by omega) (by omega)
                    refine lv_iinc (v := v3406) (lv' := [(5, .int v3406), (4, .int r3403), (2, .int v3115), (3, .int 1), (6, .int 1), (0, .ref h0), (1, .int x1)]) hx hb dX3_sum_112 hl (k := 4) rfl (by rw [e3407]; rfl) (by decide) rfl (fun ls hl => ?_)
                    refine lv_goto (tgt := 17) hx hb dX3_sum_115 (by decide) ?_
                    exact ih_17 _ (by omega) H locs ls v3406 r3403 1 v3115 pn3391 Ln3392 rfl (lv_sub hl [0, 1, 3, 2, 5, 6] rfl) ⟨by omega, by omega⟩ ⟨by omega, by omega⟩ ⟨by decide, by decide⟩ ⟨by omega, by omega⟩ ⟨by omega, by omega⟩ (by omega) (by first | omega | (show (0 : Int32).toInt ≤ _; rw [show (0 : Int32).toInt = 0 from by decide]; omega)) (Or.inl ⟨by first | decide | omega, ⟨hpd3394, by omega⟩, SI_op hop3405⟩) (hRC3395) hI hS
                  · skip
                    try simp only [rg, not_and, Int.not_le] at hp
                    have hp3408 := hp
                    obtain ⟨pn3409, Ln3410, hE, k3411, hfl3412⟩ := hp3408
                    have hp3408 : True := trivial
                    have hRC3413 := hE
                    obtain ⟨hT4, hpT, ⟨w3414, hg3415, k3416⟩, ⟨w3417, hg3418, k3419⟩⟩ := RC.tk hRC3413
                    clear hRC3381 hg3383 hg3386 k3388
                    have k3420 := TK.at hTK hpT
                    refine lv_istore_n (lv' := [(3, .int 0), (6, .int 1), (5, .int v3114), (4, .int v3115), (2, .int v3117), (0, .ref h0), (1, .int x1)]) hx hb dX3_sum_86 rfl hl (by decide) rfl (fun ls hl => ?_)
                    refine lv_iload hx hb dX3_sum_87 (lv_at hl 1 rfl) ?_
                    refine lv_if_eq (tgt := 98) hx hb dX3_sum_89 (by decide) (fun c => absurd c (by decide)) (fun _ => ?_)
                    refine lv_iload hx hb dX3_sum_92 (lv_at hl 3 rfl) ?_
                    refine lv_istore_n (lv' := [(2, .int v3115), (3, .int 0), (6, .int 1), (5, .int v3114), (4, .int v3115), (0, .ref h0), (1, .int x1)]) hx hb dX3_sum_94 rfl hl (by decide) rfl (fun ls hl => ?_)
                    refine lv_goto (tgt := 106) hx hb dX3_sum_95 (by decide) ?_
                    refine lv_aload_n hx hb dX3_sum_106 rfl (lv_at hl 5 rfl) ?_
                    refine nr_i (As := []) (rest := []) (n := 0) (d := 0) ⟨hx, hb, hml, hown, hts⟩ (c_X3_arithmetic l E D G H h0 hG0  ft fp fn TT pn3409 nc Ln3410 hRC3413) wd_727 wd_729 wp_18 wd_5 wd_730 (by decide +kernel) ⟨by rw [hR]; show 0 + 1 ≤ 3 + 2 * k; omega, by rw [hR]; show 8 + (1 + 11) + 40 * (0) ≤ 40 * (3 + 2 * k); omega⟩ hI hN hK hS hG0 rfl hl.1 rfl (Nat.le_of_ble_eq_true rfl) dX3_sum_107 ⟨Nat.zero_le _, Nat.zero_le _⟩ (fun r3421 locs hp hS => ?_)
                    have hp3422 := hp
                    have hop3423 := hp
                    refine lv_istore (lv' := [(4, .int r3421), (2, .int v3115), (3, .int 0), (6, .int 1), (5, .int v3114), (0, .ref h0), (1, .int x1)]) hx hb dX3_sum_110 hl (by decide) rfl (fun ls hl => ?_)
                    obtain ⟨v3424, e3425⟩ : ∃ y : Int32, y = v3114 + (1) := ⟨_, rfl⟩
                    have tv3424 : v3424.toInt = v3114.toInt + (1) := iv_add rfl (by decide) e3425 (by omega) (by omega)
                    refine lv_iinc (v := v3424) (lv' := [(5, .int v3424), (4, .int r3421), (2, .int v3115), (3, .int 0), (6, .int 1), (0, .ref h0), (1, .int x1)]) hx hb dX3_sum_112 hl (k := 4) rfl (by rw [e3425]; rfl) (by decide) rfl (fun ls hl => ?_)
                    refine lv_goto (tgt := 17) hx hb dX3_sum_115 (by decide) ?_
                    exact ih_17 _ (by omega) H locs ls v3424 r3421 0 v3115 pn3409 Ln3410 rfl (lv_sub hl [0, 1, 3, 2, 5, 6] rfl) ⟨by omega, by omega⟩ ⟨by omega, by omega⟩ ⟨by decide, by decide⟩ ⟨by omega, by omega⟩ ⟨by omega, by omega⟩ (by omega) (by first | omega | (show (0 : Int32).toInt ≤ _; rw [show (0 : Int32).toInt = 0 from by decide]; omega)) (Or.inr ⟨by first | decide | omega, hfl3412⟩) (hRC3413) hI hS
                · skip
                  have k3426 := iv_ne (X := v3117.toInt) (Y := (-1)) rfl (by decide) c3371
                  refine lv_aload_n hx hb dX3_sum_64 rfl (lv_at hl 5 rfl) ?_
                  refine lv_iload_n hx hb dX3_sum_65 rfl (lv_at hl 4 rfl) ?_
                  refine lv_iconst (v := 0) hx hb dX3_sum_66 (by decide) ?_
                  refine nx_i (As := [.int v3117, .int 0]) (rest := []) (n := 2) (d := 0) ⟨hx, hb, hml, hown, hts⟩ (c_X3_emit l E D G h0 hG0 v3117 0 ft fp fn TT p1 nc L1) wd_723 wd_725 wp_17 wd_5 wd_726 (by decide +kernel) ⟨by rw [hR]; show 0 + 1 ≤ 3 + 2 * k; omega, by rw [hR]; show 8 + (3 + 11) + 40 * (0) ≤ 40 * (3 + 2 * k); omega⟩ hI hN hK hS hG0 (hRC3123) rfl hl.1 rfl (Nat.le_of_ble_eq_true rfl) dX3_sum_67 ⟨Nat.zero_le _, Nat.zero_le _⟩ (fun r3427 H locs hI hp hS => ?_)
                  have hRC3428 := hp
                  obtain ⟨hT4, hpT, ⟨w3429, hg3430, k3431⟩, ⟨w3432, hg3433, k3434⟩⟩ := RC.tk hRC3428
                  clear hRC3123 hg3125 hg3128 k3130
                  have k3435 := TK.at hTK hpT
                  refine lv_pop hx hb dX3_sum_70 rfl ?_
                  refine lv_aload_n hx hb dX3_sum_71 rfl (lv_at hl 5 rfl) ?_
                  refine lv_aload_n hx hb dX3_sum_72 rfl (lv_at hl 5 rfl) ?_
                  refine gmIC hx hb hts inT3 hown hK hI List.not_mem_nil hG0 10 (by decide) (hts _ (tb_c wd_139)) rfl rfl dX3_sum_73 (fun w3436 hg3437 k3438 k3439 => ?_)
                  obtain rfl := gfC.uniq (by decide) hg3430 hg3437
                  refine lv_iconst (v := 1) hx hb dX3_sum_76 (by decide) ?_
                  refine lv_iadd hx hb dX3_sum_77 ?_
                  refine lv_topi (fun v3440 e3441 => ?_)
                  have tv3440 : v3440.toInt = w3429.toInt + (1) := iv_add rfl (by decide) e3441 (by omega) (by omega)
                  obtain ⟨⟨hpi, hlp⟩, hoc⟩ := SI_in hSI (by omega) (by omega)
                  have hlt9 : p1 < TT := by unfold oc at hoc; omega
                  have hpd3442 : pd_R ZZ YY TT (1, fl, nk, L1) (p1 + 1) = XX := (pd_A_op hlt9 (by unfold oc at hoc; unfold pd_op; omega)).symm.trans hpi
                  refine nx_v (As := [.int v3440]) (rest := []) (n := 1) (d := 0) ⟨hx, hb, hml, hown, hts⟩ (c_X3_moveTo l E D G h0 hG0 v3440 ft fp fn TT (p1 + 1) nc L1 (by first | omega | decide) (by omega)) wd_707 wd_709 wp_13 wd_5 wd_710 (by decide +kernel) ⟨by rw [hR]; show 0 + 1 ≤ 3 + 2 * k; omega, by rw [hR]; show 8 + (2 + 11) + 40 * (0) ≤ 40 * (3 + 2 * k); omega⟩ hI hN hK hS hG0 ((RC.to0 hRC3428)) rfl hl.1 rfl (Nat.le_of_ble_eq_true rfl) dX3_sum_78 ⟨Nat.zero_le _, Nat.zero_le _⟩ (fun H locs hI hp hS => ?_)
                  have hRC3444 := hp
                  obtain ⟨hT4, hpT, ⟨w3445, hg3446, k3447⟩, ⟨w3448, hg3449, k3450⟩⟩ := RC.tk hRC3444
                  clear hRC3428 hg3430 hg3433 k3435
                  have k3451 := TK.at hTK hpT
                  refine lv_aload_n hx hb dX3_sum_81 rfl (lv_at hl 5 rfl) ?_
                  refine lv_iload_n hx hb dX3_sum_82 rfl (lv_at hl 6 rfl) ?_
                  refine nx_i (As := [.int x1]) (rest := []) (n := 1) (d := (2 + 2 * k)) ⟨hx, hb, hml, hown, hts⟩ (hpart h0 hG0 x1 ft fp fn TT (p1 + 1) nc L1 ZZ YY nk XX hTK dd (by first | decide | omega) (by omega) (by omega) fl hdp hpd3442) wd_719 wd_721 wp_16 wd_5 wd_722 (by decide +kernel) ⟨by rw [hR]; show (2 + 2 * k) + 1 ≤ 3 + 2 * k; omega, by rw [hR]; show 8 + (4 + 11) + 40 * ((2 + 2 * k)) ≤ 40 * (3 + 2 * k); omega⟩ hI hN hK hS hG0 (hRC3444) rfl hl.1 rfl (Nat.le_of_ble_eq_true rfl) dX3_sum_83 ⟨Nat.zero_le _, Nat.zero_le _⟩ (fun r3452 H locs hI hp hS => ?_)
                  rcases hp with ⟨rfl, hp⟩ | ⟨rfl, hp⟩
                  · skip
                    try simp only [rg, not_and, Int.not_le] at hp
                    have hp3453 := hp
                    obtain ⟨pn3454, Ln3455, hE, k3456, hpd3457⟩ := hp3453
                    have hp3453 : True := trivial
                    have hRC3458 := hE
                    obtain ⟨hT4, hpT, ⟨w3459, hg3460, k3461⟩, ⟨w3462, hg3463, k3464⟩⟩ := RC.tk hRC3458
                    clear hRC3444 hg3446 hg3449 k3451
                    have k3465 := TK.at hTK hpT
                    refine lv_istore_n (lv' := [(3, .int 1), (6, .int 1), (5, .int v3114), (4, .int v3115), (2, .int v3117), (0, .ref h0), (1, .int x1)]) hx hb dX3_sum_86 rfl hl (by decide) rfl (fun ls hl => ?_)
                    refine lv_iload hx hb dX3_sum_87 (lv_at hl 1 rfl) ?_
                    refine lv_if_eq (tgt := 98) hx hb dX3_sum_89 (by decide) (fun c => absurd c (by decide)) (fun _ => ?_)
                    refine lv_iload hx hb dX3_sum_92 (lv_at hl 3 rfl) ?_
                    refine lv_istore_n (lv' := [(2, .int v3115), (3, .int 1), (6, .int 1), (5, .int v3114), (4, .int v3115), (0, .ref h0), (1, .int x1)]) hx hb dX3_sum_94 rfl hl (by decide) rfl (fun ls hl => ?_)
                    refine lv_goto (tgt := 106) hx hb dX3_sum_95 (by decide) ?_
                    refine lv_aload_n hx hb dX3_sum_106 rfl (lv_at hl 5 rfl) ?_
                    refine nr_i (As := []) (rest := []) (n := 0) (d := 0) ⟨hx, hb, hml, hown, hts⟩ (c_X3_arithmetic l E D G H h0 hG0  ft fp fn TT pn3454 nc Ln3455 hRC3458) wd_727 wd_729 wp_18 wd_5 wd_730 (by decide +kernel) ⟨by rw [hR]; show 0 + 1 ≤ 3 + 2 * k; omega, by rw [hR]; show 8 + (1 + 11) + 40 * (0) ≤ 40 * (3 + 2 * k); omega⟩ hI hN hK hS hG0 rfl hl.1 rfl (Nat.le_of_ble_eq_true rfl) dX3_sum_107 ⟨Nat.zero_le _, Nat.zero_le _⟩ (fun r3466 locs hp hS => ?_)
                    have hp3467 := hp
                    have hop3468 := hp
                    refine lv_istore (lv' := [(4, .int r3466), (2, .int v3115), (3, .int 1), (6, .int 1), (5, .int v3114), (0, .ref h0), (1, .int x1)]) hx hb dX3_sum_110 hl (by decide) rfl (fun ls hl => ?_)
                    obtain ⟨v3469, e3470⟩ : ∃ y : Int32, y = v3114 + (1) := ⟨_, rfl⟩
                    have tv3469 : v3469.toInt = v3114.toInt + (1) := iv_add rfl (by decide) e3470 (by omega) (by omega)
                    refine lv_iinc (v := v3469) (lv' := [(5, .int v3469), (4, .int r3466), (2, .int v3115), (3, .int 1), (6, .int 1), (0, .ref h0), (1, .int x1)]) hx hb dX3_sum_112 hl (k := 4) rfl (by rw [e3470]; rfl) (by decide) rfl (fun ls hl => ?_)
                    refine lv_goto (tgt := 17) hx hb dX3_sum_115 (by decide) ?_
                    exact ih_17 _ (by omega) H locs ls v3469 r3466 1 v3115 pn3454 Ln3455 rfl (lv_sub hl [0, 1, 3, 2, 5, 6] rfl) ⟨by omega, by omega⟩ ⟨by omega, by omega⟩ ⟨by decide, by decide⟩ ⟨by omega, by omega⟩ ⟨by omega, by omega⟩ (by omega) (by first | omega | (show (0 : Int32).toInt ≤ _; rw [show (0 : Int32).toInt = 0 from by decide]; omega)) (Or.inl ⟨by first | decide | omega, ⟨hpd3457, by omega⟩, SI_op hop3468⟩) (hRC3458) hI hS
                  · skip
                    try simp only [rg, not_and, Int.not_le] at hp
                    have hp3471 := hp
                    obtain ⟨pn3472, Ln3473, hE, k3474, hfl3475⟩ := hp3471
                    have hp3471 : True := trivial
                    have hRC3476 := hE
                    obtain ⟨hT4, hpT, ⟨w3477, hg3478, k3479⟩, ⟨w3480, hg3481, k3482⟩⟩ := RC.tk hRC3476
                    clear hRC3444 hg3446 hg3449 k3451
                    have k3483 := TK.at hTK hpT
                    refine lv_istore_n (lv' := [(3, .int 0), (6, .int 1), (5, .int v3114), (4, .int v3115), (2, .int v3117), (0, .ref h0), (1, .int x1)]) hx hb dX3_sum_86 rfl hl (by decide) rfl (fun ls hl => ?_)
                    refine lv_iload hx hb dX3_sum_87 (lv_at hl 1 rfl) ?_
                    refine lv_if_eq (tgt := 98) hx hb dX3_sum_89 (by decide) (fun c => absurd c (by decide)) (fun _ => ?_)
                    refine lv_iload hx hb dX3_sum_92 (lv_at hl 3 rfl) ?_
                    refine lv_istore_n (lv' := [(2, .int v3115), (3, .int 0), (6, .int 1), (5, .int v3114), (4, .int v3115), (0, .ref h0), (1, .int x1)]) hx hb dX3_sum_94 rfl hl (by decide) rfl (fun ls hl => ?_)
                    refine lv_goto (tgt := 106) hx hb dX3_sum_95 (by decide) ?_
                    refine lv_aload_n hx hb dX3_sum_106 rfl (lv_at hl 5 rfl) ?_
                    refine nr_i (As := []) (rest := []) (n := 0) (d := 0) ⟨hx, hb, hml, hown, hts⟩ (c_X3_arithmetic l E D G H h0 hG0  ft fp fn TT pn3472 nc Ln3473 hRC3476) wd_727 wd_729 wp_18 wd_5 wd_730 (by decide +kernel) ⟨by rw [hR]; show 0 + 1 ≤ 3 + 2 * k; omega, by rw [hR]; show 8 + (1 + 11) + 40 * (0) ≤ 40 * (3 + 2 * k); omega⟩ hI hN hK hS hG0 rfl hl.1 rfl (Nat.le_of_ble_eq_true rfl) dX3_sum_107 ⟨Nat.zero_le _, Nat.zero_le _⟩ (fun r3484 locs hp hS => ?_)
                    have hp3485 := hp
                    have hop3486 := hp
                    refine lv_istore (lv' := [(4, .int r3484), (2, .int v3115), (3, .int 0), (6, .int 1), (5, .int v3114), (0, .ref h0), (1, .int x1)]) hx hb dX3_sum_110 hl (by decide) rfl (fun ls hl => ?_)
                    obtain ⟨v3487, e3488⟩ : ∃ y : Int32, y = v3114 + (1) := ⟨_, rfl⟩
                    have tv3487 : v3487.toInt = v3114.toInt + (1) := iv_add rfl (by decide) e3488 (by omega) (by omega)
                    refine lv_iinc (v := v3487) (lv' := [(5, .int v3487), (4, .int r3484), (2, .int v3115), (3, .int 0), (6, .int 1), (0, .ref h0), (1, .int x1)]) hx hb dX3_sum_112 hl (k := 4) rfl (by rw [e3488]; rfl) (by decide) rfl (fun ls hl => ?_)
                    refine lv_goto (tgt := 17) hx hb dX3_sum_115 (by decide) ?_
                    exact ih_17 _ (by omega) H locs ls v3487 r3484 0 v3115 pn3472 Ln3473 rfl (lv_sub hl [0, 1, 3, 2, 5, 6] rfl) ⟨by omega, by omega⟩ ⟨by omega, by omega⟩ ⟨by decide, by decide⟩ ⟨by omega, by omega⟩ ⟨by omega, by omega⟩ (by omega) (by first | omega | (show (0 : Int32).toInt ≤ _; rw [show (0 : Int32).toInt = 0 from by decide]; omega)) (Or.inr ⟨by first | decide | omega, hfl3475⟩) (hRC3476) hI hS
  refine lv_iconst (v := (-1)) hx hb dX3_sum_0 (by decide) ?_
  refine lv_istore_n (lv' := [(2, .int (-1)), (0, .ref h0), (1, .int x1)]) hx hb dX3_sum_1 rfl hl (by decide) rfl (fun ls hl => ?_)
  refine lv_aload_n hx hb dX3_sum_2 rfl (lv_at hl 1 rfl) ?_
  refine lv_iload_n hx hb dX3_sum_3 rfl (lv_at hl 2 rfl) ?_
  refine nx_i (As := [.int x1]) (rest := []) (n := 1) (d := (2 + 2 * k)) ⟨hx, hb, hml, hown, hts⟩ (hpart h0 hG0 x1 ft fp fn TT pp nc LL ZZ YY nk XX hTK dd (by first | decide | omega) (by omega) (by omega) fl hdp hpd) wd_719 wd_721 wp_16 wd_5 wd_722 (by decide +kernel) ⟨by rw [hR]; show (2 + 2 * k) + 1 ≤ 3 + 2 * k; omega, by rw [hR]; show 8 + (4 + 11) + 40 * ((2 + 2 * k)) ≤ 40 * (3 + 2 * k); omega⟩ hI hN hK hS hG0 (hRC1) rfl hl.1 rfl (Nat.le_of_ble_eq_true rfl) dX3_sum_4 ⟨Nat.zero_le _, Nat.zero_le _⟩ (fun r3489 H locs hI hp hS => ?_)
  rcases hp with ⟨rfl, hp⟩ | ⟨rfl, hp⟩
  · skip
    try simp only [rg, not_and, Int.not_le] at hp
    have hp3490 := hp
    obtain ⟨pn3491, Ln3492, hE, k3493, hpd3494⟩ := hp3490
    have hp3490 : True := trivial
    have hRC3495 := hE
    obtain ⟨hT4, hpT, ⟨w3496, hg3497, k3498⟩, ⟨w3499, hg3500, k3501⟩⟩ := RC.tk hRC3495
    clear hRC1 hg3 hg6 k8
    have k3502 := TK.at hTK hpT
    refine lv_istore_n (lv' := [(3, .int 1), (2, .int (-1)), (0, .ref h0), (1, .int x1)]) hx hb dX3_sum_7 rfl hl (by decide) rfl (fun ls hl => ?_)
    refine lv_aload_n hx hb dX3_sum_8 rfl (lv_at hl 2 rfl) ?_
    refine nr_i (As := []) (rest := []) (n := 0) (d := 0) ⟨hx, hb, hml, hown, hts⟩ (c_X3_arithmetic l E D G H h0 hG0  ft fp fn TT pn3491 nc Ln3492 hRC3495) wd_727 wd_729 wp_18 wd_5 wd_730 (by decide +kernel) ⟨by rw [hR]; show 0 + 1 ≤ 3 + 2 * k; omega, by rw [hR]; show 8 + (1 + 11) + 40 * (0) ≤ 40 * (3 + 2 * k); omega⟩ hI hN hK hS hG0 rfl hl.1 rfl (Nat.le_of_ble_eq_true rfl) dX3_sum_9 ⟨Nat.zero_le _, Nat.zero_le _⟩ (fun r3503 locs hp hS => ?_)
    have hp3504 := hp
    have hop3505 := hp
    refine lv_istore (lv' := [(4, .int r3503), (3, .int 1), (2, .int (-1)), (0, .ref h0), (1, .int x1)]) hx hb dX3_sum_12 hl (by decide) rfl (fun ls hl => ?_)
    refine lv_iconst (v := 0) hx hb dX3_sum_14 (by decide) ?_
    refine lv_istore (lv' := [(5, .int 0), (4, .int r3503), (3, .int 1), (2, .int (-1)), (0, .ref h0), (1, .int x1)]) hx hb dX3_sum_15 hl (by decide) rfl (fun ls hl => ?_)
    have zl : (0 : Int32).toInt = 0 := by decide
    exact J_17 _ H locs ls 0 r3503 1 (-1) pn3491 Ln3492 rfl (lv_sub hl [0, 1, 2, 3, 4, 5] rfl) ⟨by decide, by decide⟩ ⟨by omega, by omega⟩ ⟨by decide, by decide⟩ ⟨by decide, by decide⟩ ⟨by omega, by omega⟩ (by omega) (by first | omega | (show (0 : Int32).toInt ≤ _; rw [show (0 : Int32).toInt = 0 from by decide]; omega)) (Or.inl ⟨by first | decide | omega, ⟨hpd3494, by omega⟩, SI_op hop3505⟩) (hRC3495) hI hS
  · skip
    try simp only [rg, not_and, Int.not_le] at hp
    have hp3506 := hp
    obtain ⟨pn3507, Ln3508, hE, k3509, hfl3510⟩ := hp3506
    have hp3506 : True := trivial
    have hRC3511 := hE
    obtain ⟨hT4, hpT, ⟨w3512, hg3513, k3514⟩, ⟨w3515, hg3516, k3517⟩⟩ := RC.tk hRC3511
    clear hRC1 hg3 hg6 k8
    have k3518 := TK.at hTK hpT
    refine lv_istore_n (lv' := [(3, .int 0), (2, .int (-1)), (0, .ref h0), (1, .int x1)]) hx hb dX3_sum_7 rfl hl (by decide) rfl (fun ls hl => ?_)
    refine lv_aload_n hx hb dX3_sum_8 rfl (lv_at hl 2 rfl) ?_
    refine nr_i (As := []) (rest := []) (n := 0) (d := 0) ⟨hx, hb, hml, hown, hts⟩ (c_X3_arithmetic l E D G H h0 hG0  ft fp fn TT pn3507 nc Ln3508 hRC3511) wd_727 wd_729 wp_18 wd_5 wd_730 (by decide +kernel) ⟨by rw [hR]; show 0 + 1 ≤ 3 + 2 * k; omega, by rw [hR]; show 8 + (1 + 11) + 40 * (0) ≤ 40 * (3 + 2 * k); omega⟩ hI hN hK hS hG0 rfl hl.1 rfl (Nat.le_of_ble_eq_true rfl) dX3_sum_9 ⟨Nat.zero_le _, Nat.zero_le _⟩ (fun r3519 locs hp hS => ?_)
    have hp3520 := hp
    have hop3521 := hp
    refine lv_istore (lv' := [(4, .int r3519), (3, .int 0), (2, .int (-1)), (0, .ref h0), (1, .int x1)]) hx hb dX3_sum_12 hl (by decide) rfl (fun ls hl => ?_)
    refine lv_iconst (v := 0) hx hb dX3_sum_14 (by decide) ?_
    refine lv_istore (lv' := [(5, .int 0), (4, .int r3519), (3, .int 0), (2, .int (-1)), (0, .ref h0), (1, .int x1)]) hx hb dX3_sum_15 hl (by decide) rfl (fun ls hl => ?_)
    have zl : (0 : Int32).toInt = 0 := by decide
    exact J_17 _ H locs ls 0 r3519 0 (-1) pn3507 Ln3508 rfl (lv_sub hl [0, 1, 2, 3, 4, 5] rfl) ⟨by decide, by decide⟩ ⟨by omega, by omega⟩ ⟨by decide, by decide⟩ ⟨by decide, by decide⟩ ⟨by omega, by omega⟩ (by omega) (by first | omega | (show (0 : Int32).toInt ≤ _; rw [show (0 : Int32).toInt = 0 from by decide]; omega)) (Or.inr ⟨by first | decide | omega, hfl3510⟩) (hRC3511) hI hS
