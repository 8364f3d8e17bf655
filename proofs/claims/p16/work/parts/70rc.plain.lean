theorem wp_21 : Cond.selects RX3 yX3_enclosed yX3_enclosed ∈ TB := tv 21 (by decide +kernel) (by decide +kernel)
theorem wd_739 : (Cond.methodLink RX3 (112 : Nat) yX3_enclosed) ∈ TB := tw 739 (by decide +kernel) (by decide +kernel)
theorem wd_741 : (Jvm.Cond.instanceMethod yX3_enclosed) ∈ TB := tw 741 (by decide +kernel) (by decide +kernel)
theorem wd_742 : (Cond.code yX3_enclosed cX3_enclosed 3 (Option.some Jvm.ClassFile.FieldType.boolean)) ∈ TB := tw 742 (by decide +kernel) (by decide +kernel)
theorem dX3_plain_0g : (decode cX3_plain 0 = .ok (.iconst 0, 1)) ∧ (decode cX3_plain 1 = .ok (.istore_n 2, 1)) ∧ (decode cX3_plain 2 = .ok (.iconst 0, 1)) ∧ (decode cX3_plain 3 = .ok (.istore_n 3, 1)) ∧ (decode cX3_plain 4 = .ok (.iload_n 3, 1)) ∧ (decode cX3_plain 5 = .ok (.sipush 400, 3)) ∧ (decode cX3_plain 8 = .ok (.if_icmp .ge 39, 3)) ∧ (decode cX3_plain 11 = .ok (.aload_n 0, 1)) ∧ (decode cX3_plain 12 = .ok (.getfield 46, 3)) ∧ (decode cX3_plain 15 = .ok (.sipush 263, 3)) := by decide +kernel
theorem dX3_plain_0 : decode cX3_plain 0 = .ok (.iconst 0, 1) := dX3_plain_0g.1
theorem dX3_plain_1 : decode cX3_plain 1 = .ok (.istore_n 2, 1) := dX3_plain_0g.2.1
theorem dX3_plain_2 : decode cX3_plain 2 = .ok (.iconst 0, 1) := dX3_plain_0g.2.2.1
theorem dX3_plain_3 : decode cX3_plain 3 = .ok (.istore_n 3, 1) := dX3_plain_0g.2.2.2.1
theorem dX3_plain_4 : decode cX3_plain 4 = .ok (.iload_n 3, 1) := dX3_plain_0g.2.2.2.2.1
theorem dX3_plain_5 : decode cX3_plain 5 = .ok (.sipush 400, 3) := dX3_plain_0g.2.2.2.2.2.1
theorem dX3_plain_8 : decode cX3_plain 8 = .ok (.if_icmp .ge 39, 3) := dX3_plain_0g.2.2.2.2.2.2.1
theorem dX3_plain_11 : decode cX3_plain 11 = .ok (.aload_n 0, 1) := dX3_plain_0g.2.2.2.2.2.2.2.1
theorem dX3_plain_12 : decode cX3_plain 12 = .ok (.getfield 46, 3) := dX3_plain_0g.2.2.2.2.2.2.2.2.1
theorem dX3_plain_15 : decode cX3_plain 15 = .ok (.sipush 263, 3) := dX3_plain_0g.2.2.2.2.2.2.2.2.2
theorem dX3_plain_18g : (decode cX3_plain 18 = .ok (.if_icmp .ne 29, 3)) ∧ (decode cX3_plain 21 = .ok (.iload_n 2, 1)) ∧ (decode cX3_plain 22 = .ok (.ifCond .ne 7, 3)) ∧ (decode cX3_plain 25 = .ok (.iconst 1, 1)) ∧ (decode cX3_plain 26 = .ok (.goto 4, 3)) ∧ (decode cX3_plain 29 = .ok (.iconst 0, 1)) ∧ (decode cX3_plain 30 = .ok (.istore_n 2, 1)) ∧ (decode cX3_plain 31 = .ok (.aload_n 0, 1)) ∧ (decode cX3_plain 32 = .ok (.aload_n 0, 1)) ∧ (decode cX3_plain 33 = .ok (.getfield 43, 3)) := by decide +kernel
theorem dX3_plain_18 : decode cX3_plain 18 = .ok (.if_icmp .ne 29, 3) := dX3_plain_18g.1
theorem dX3_plain_21 : decode cX3_plain 21 = .ok (.iload_n 2, 1) := dX3_plain_18g.2.1
theorem dX3_plain_22 : decode cX3_plain 22 = .ok (.ifCond .ne 7, 3) := dX3_plain_18g.2.2.1
theorem dX3_plain_25 : decode cX3_plain 25 = .ok (.iconst 1, 1) := dX3_plain_18g.2.2.2.1
theorem dX3_plain_26 : decode cX3_plain 26 = .ok (.goto 4, 3) := dX3_plain_18g.2.2.2.2.1
theorem dX3_plain_29 : decode cX3_plain 29 = .ok (.iconst 0, 1) := dX3_plain_18g.2.2.2.2.2.1
theorem dX3_plain_30 : decode cX3_plain 30 = .ok (.istore_n 2, 1) := dX3_plain_18g.2.2.2.2.2.2.1
theorem dX3_plain_31 : decode cX3_plain 31 = .ok (.aload_n 0, 1) := dX3_plain_18g.2.2.2.2.2.2.2.1
theorem dX3_plain_32 : decode cX3_plain 32 = .ok (.aload_n 0, 1) := dX3_plain_18g.2.2.2.2.2.2.2.2.1
theorem dX3_plain_33 : decode cX3_plain 33 = .ok (.getfield 43, 3) := dX3_plain_18g.2.2.2.2.2.2.2.2.2
theorem dX3_plain_36g : (decode cX3_plain 36 = .ok (.iconst 1, 1)) ∧ (decode cX3_plain 37 = .ok (.iadd, 1)) ∧ (decode cX3_plain 38 = .ok (.invokevirtual 66, 3)) ∧ (decode cX3_plain 41 = .ok (.iinc 3 1, 3)) ∧ (decode cX3_plain 44 = .ok (.goto (-40), 3)) ∧ (decode cX3_plain 47 = .ok (.aload_n 0, 1)) ∧ (decode cX3_plain 48 = .ok (.getfield 46, 3)) ∧ (decode cX3_plain 51 = .ok (.bipush 40, 2)) ∧ (decode cX3_plain 53 = .ok (.if_icmp .ne 12, 3)) ∧ (decode cX3_plain 56 = .ok (.aload_n 0, 1)) := by decide +kernel
theorem dX3_plain_36 : decode cX3_plain 36 = .ok (.iconst 1, 1) := dX3_plain_36g.1
theorem dX3_plain_37 : decode cX3_plain 37 = .ok (.iadd, 1) := dX3_plain_36g.2.1
theorem dX3_plain_38 : decode cX3_plain 38 = .ok (.invokevirtual 66, 3) := dX3_plain_36g.2.2.1
theorem dX3_plain_41 : decode cX3_plain 41 = .ok (.iinc 3 1, 3) := dX3_plain_36g.2.2.2.1
theorem dX3_plain_44 : decode cX3_plain 44 = .ok (.goto (-40), 3) := dX3_plain_36g.2.2.2.2.1
theorem dX3_plain_47 : decode cX3_plain 47 = .ok (.aload_n 0, 1) := dX3_plain_36g.2.2.2.2.2.1
theorem dX3_plain_48 : decode cX3_plain 48 = .ok (.getfield 46, 3) := dX3_plain_36g.2.2.2.2.2.2.1
theorem dX3_plain_51 : decode cX3_plain 51 = .ok (.bipush 40, 2) := dX3_plain_36g.2.2.2.2.2.2.2.1
theorem dX3_plain_53 : decode cX3_plain 53 = .ok (.if_icmp .ne 12, 3) := dX3_plain_36g.2.2.2.2.2.2.2.2.1
theorem dX3_plain_56 : decode cX3_plain 56 = .ok (.aload_n 0, 1) := dX3_plain_36g.2.2.2.2.2.2.2.2.2
theorem dX3_plain_57g : (decode cX3_plain 57 = .ok (.iload_n 1, 1)) ∧ (decode cX3_plain 58 = .ok (.invokevirtual 112, 3)) ∧ (decode cX3_plain 61 = .ok (.istore_n 3, 1)) ∧ (decode cX3_plain 62 = .ok (.goto 87, 3)) ∧ (decode cX3_plain 65 = .ok (.aload_n 0, 1)) ∧ (decode cX3_plain 66 = .ok (.iload_n 1, 1)) ∧ (decode cX3_plain 67 = .ok (.invokevirtual 97, 3)) ∧ (decode cX3_plain 70 = .ok (.istore_n 3, 1)) ∧ (decode cX3_plain 71 = .ok (.aload_n 0, 1)) ∧ (decode cX3_plain 72 = .ok (.getfield 46, 3)) := by decide +kernel
theorem dX3_plain_57 : decode cX3_plain 57 = .ok (.iload_n 1, 1) := dX3_plain_57g.1
theorem dX3_plain_58 : decode cX3_plain 58 = .ok (.invokevirtual 112, 3) := dX3_plain_57g.2.1
theorem dX3_plain_61 : decode cX3_plain 61 = .ok (.istore_n 3, 1) := dX3_plain_57g.2.2.1
theorem dX3_plain_62 : decode cX3_plain 62 = .ok (.goto 87, 3) := dX3_plain_57g.2.2.2.1
theorem dX3_plain_65 : decode cX3_plain 65 = .ok (.aload_n 0, 1) := dX3_plain_57g.2.2.2.2.1
theorem dX3_plain_66 : decode cX3_plain 66 = .ok (.iload_n 1, 1) := dX3_plain_57g.2.2.2.2.2.1
theorem dX3_plain_67 : decode cX3_plain 67 = .ok (.invokevirtual 97, 3) := dX3_plain_57g.2.2.2.2.2.2.1
theorem dX3_plain_70 : decode cX3_plain 70 = .ok (.istore_n 3, 1) := dX3_plain_57g.2.2.2.2.2.2.2.1
theorem dX3_plain_71 : decode cX3_plain 71 = .ok (.aload_n 0, 1) := dX3_plain_57g.2.2.2.2.2.2.2.2.1
theorem dX3_plain_72 : decode cX3_plain 72 = .ok (.getfield 46, 3) := dX3_plain_57g.2.2.2.2.2.2.2.2.2
theorem dX3_plain_75g : (decode cX3_plain 75 = .ok (.bipush 60, 2)) ∧ (decode cX3_plain 77 = .ok (.if_icmp .ne 8, 3)) ∧ (decode cX3_plain 80 = .ok (.bipush 7, 2)) ∧ (decode cX3_plain 82 = .ok (.goto 19, 3)) ∧ (decode cX3_plain 85 = .ok (.aload_n 0, 1)) ∧ (decode cX3_plain 86 = .ok (.getfield 46, 3)) ∧ (decode cX3_plain 89 = .ok (.bipush 62, 2)) ∧ (decode cX3_plain 91 = .ok (.if_icmp .ne 8, 3)) ∧ (decode cX3_plain 94 = .ok (.bipush 8, 2)) ∧ (decode cX3_plain 96 = .ok (.goto 5, 3)) := by decide +kernel
theorem dX3_plain_75 : decode cX3_plain 75 = .ok (.bipush 60, 2) := dX3_plain_75g.1
theorem dX3_plain_77 : decode cX3_plain 77 = .ok (.if_icmp .ne 8, 3) := dX3_plain_75g.2.1
theorem dX3_plain_80 : decode cX3_plain 80 = .ok (.bipush 7, 2) := dX3_plain_75g.2.2.1
theorem dX3_plain_82 : decode cX3_plain 82 = .ok (.goto 19, 3) := dX3_plain_75g.2.2.2.1
theorem dX3_plain_85 : decode cX3_plain 85 = .ok (.aload_n 0, 1) := dX3_plain_75g.2.2.2.2.1
theorem dX3_plain_86 : decode cX3_plain 86 = .ok (.getfield 46, 3) := dX3_plain_75g.2.2.2.2.2.1
theorem dX3_plain_89 : decode cX3_plain 89 = .ok (.bipush 62, 2) := dX3_plain_75g.2.2.2.2.2.2.1
theorem dX3_plain_91 : decode cX3_plain 91 = .ok (.if_icmp .ne 8, 3) := dX3_plain_75g.2.2.2.2.2.2.2.1
theorem dX3_plain_94 : decode cX3_plain 94 = .ok (.bipush 8, 2) := dX3_plain_75g.2.2.2.2.2.2.2.2.1
theorem dX3_plain_96 : decode cX3_plain 96 = .ok (.goto 5, 3) := dX3_plain_75g.2.2.2.2.2.2.2.2.2
theorem dX3_plain_99g : (decode cX3_plain 99 = .ok (.bipush 9, 2)) ∧ (decode cX3_plain 101 = .ok (.istore 4, 2)) ∧ (decode cX3_plain 103 = .ok (.iload_n 3, 1)) ∧ (decode cX3_plain 104 = .ok (.ifCond .eq 19, 3)) ∧ (decode cX3_plain 107 = .ok (.iload 4, 2)) ∧ (decode cX3_plain 109 = .ok (.bipush 9, 2)) ∧ (decode cX3_plain 111 = .ok (.if_icmp .ne 14, 3)) ∧ (decode cX3_plain 114 = .ok (.aload_n 0, 1)) ∧ (decode cX3_plain 115 = .ok (.getfield 46, 3)) ∧ (decode cX3_plain 118 = .ok (.bipush 61, 2)) := by decide +kernel
theorem dX3_plain_99 : decode cX3_plain 99 = .ok (.bipush 9, 2) := dX3_plain_99g.1
theorem dX3_plain_101 : decode cX3_plain 101 = .ok (.istore 4, 2) := dX3_plain_99g.2.1
theorem dX3_plain_103 : decode cX3_plain 103 = .ok (.iload_n 3, 1) := dX3_plain_99g.2.2.1
theorem dX3_plain_104 : decode cX3_plain 104 = .ok (.ifCond .eq 19, 3) := dX3_plain_99g.2.2.2.1
theorem dX3_plain_107 : decode cX3_plain 107 = .ok (.iload 4, 2) := dX3_plain_99g.2.2.2.2.1
theorem dX3_plain_109 : decode cX3_plain 109 = .ok (.bipush 9, 2) := dX3_plain_99g.2.2.2.2.2.1
theorem dX3_plain_111 : decode cX3_plain 111 = .ok (.if_icmp .ne 14, 3) := dX3_plain_99g.2.2.2.2.2.2.1
theorem dX3_plain_114 : decode cX3_plain 114 = .ok (.aload_n 0, 1) := dX3_plain_99g.2.2.2.2.2.2.2.1
theorem dX3_plain_115 : decode cX3_plain 115 = .ok (.getfield 46, 3) := dX3_plain_99g.2.2.2.2.2.2.2.2.1
theorem dX3_plain_118 : decode cX3_plain 118 = .ok (.bipush 61, 2) := dX3_plain_99g.2.2.2.2.2.2.2.2.2
theorem dX3_plain_120g : (decode cX3_plain 120 = .ok (.if_icmp .eq 5, 3)) ∧ (decode cX3_plain 123 = .ok (.iconst 0, 1)) ∧ (decode cX3_plain 124 = .ok (.ireturn, 1)) ∧ (decode cX3_plain 125 = .ok (.aload_n 0, 1)) ∧ (decode cX3_plain 126 = .ok (.aload_n 0, 1)) ∧ (decode cX3_plain 127 = .ok (.getfield 43, 3)) ∧ (decode cX3_plain 130 = .ok (.iconst 1, 1)) ∧ (decode cX3_plain 131 = .ok (.iadd, 1)) ∧ (decode cX3_plain 132 = .ok (.invokevirtual 66, 3)) ∧ (decode cX3_plain 135 = .ok (.aload_n 0, 1)) := by decide +kernel
theorem dX3_plain_120 : decode cX3_plain 120 = .ok (.if_icmp .eq 5, 3) := dX3_plain_120g.1
theorem dX3_plain_123 : decode cX3_plain 123 = .ok (.iconst 0, 1) := dX3_plain_120g.2.1
theorem dX3_plain_124 : decode cX3_plain 124 = .ok (.ireturn, 1) := dX3_plain_120g.2.2.1
theorem dX3_plain_125 : decode cX3_plain 125 = .ok (.aload_n 0, 1) := dX3_plain_120g.2.2.2.1
theorem dX3_plain_126 : decode cX3_plain 126 = .ok (.aload_n 0, 1) := dX3_plain_120g.2.2.2.2.1
theorem dX3_plain_127 : decode cX3_plain 127 = .ok (.getfield 43, 3) := dX3_plain_120g.2.2.2.2.2.1
theorem dX3_plain_130 : decode cX3_plain 130 = .ok (.iconst 1, 1) := dX3_plain_120g.2.2.2.2.2.2.1
theorem dX3_plain_131 : decode cX3_plain 131 = .ok (.iadd, 1) := dX3_plain_120g.2.2.2.2.2.2.2.1
theorem dX3_plain_132 : decode cX3_plain 132 = .ok (.invokevirtual 66, 3) := dX3_plain_120g.2.2.2.2.2.2.2.2.1
theorem dX3_plain_135 : decode cX3_plain 135 = .ok (.aload_n 0, 1) := dX3_plain_120g.2.2.2.2.2.2.2.2.2
theorem dX3_plain_136g : (decode cX3_plain 136 = .ok (.iload_n 1, 1)) ∧ (decode cX3_plain 137 = .ok (.invokevirtual 97, 3)) ∧ (decode cX3_plain 140 = .ok (.istore_n 3, 1)) ∧ (decode cX3_plain 141 = .ok (.aload_n 0, 1)) ∧ (decode cX3_plain 142 = .ok (.iload 4, 2)) ∧ (decode cX3_plain 144 = .ok (.iconst 0, 1)) ∧ (decode cX3_plain 145 = .ok (.invokevirtual 109, 3)) ∧ (decode cX3_plain 148 = .ok (.pop, 1)) ∧ (decode cX3_plain 149 = .ok (.iload_n 2, 1)) ∧ (decode cX3_plain 150 = .ok (.ifCond .eq 11, 3)) := by decide +kernel
theorem dX3_plain_136 : decode cX3_plain 136 = .ok (.iload_n 1, 1) := dX3_plain_136g.1
theorem dX3_plain_137 : decode cX3_plain 137 = .ok (.invokevirtual 97, 3) := dX3_plain_136g.2.1
theorem dX3_plain_140 : decode cX3_plain 140 = .ok (.istore_n 3, 1) := dX3_plain_136g.2.2.1
theorem dX3_plain_141 : decode cX3_plain 141 = .ok (.aload_n 0, 1) := dX3_plain_136g.2.2.2.1
theorem dX3_plain_142 : decode cX3_plain 142 = .ok (.iload 4, 2) := dX3_plain_136g.2.2.2.2.1
theorem dX3_plain_144 : decode cX3_plain 144 = .ok (.iconst 0, 1) := dX3_plain_136g.2.2.2.2.2.1
theorem dX3_plain_145 : decode cX3_plain 145 = .ok (.invokevirtual 109, 3) := dX3_plain_136g.2.2.2.2.2.2.1
theorem dX3_plain_148 : decode cX3_plain 148 = .ok (.pop, 1) := dX3_plain_136g.2.2.2.2.2.2.2.1
theorem dX3_plain_149 : decode cX3_plain 149 = .ok (.iload_n 2, 1) := dX3_plain_136g.2.2.2.2.2.2.2.2.1
theorem dX3_plain_150 : decode cX3_plain 150 = .ok (.ifCond .eq 11, 3) := dX3_plain_136g.2.2.2.2.2.2.2.2.2
theorem dX3_plain_153g : (decode cX3_plain 153 = .ok (.aload_n 0, 1)) ∧ (decode cX3_plain 154 = .ok (.bipush 10, 2)) ∧ (decode cX3_plain 156 = .ok (.iconst 0, 1)) ∧ (decode cX3_plain 157 = .ok (.invokevirtual 109, 3)) ∧ (decode cX3_plain 160 = .ok (.pop, 1)) ∧ (decode cX3_plain 161 = .ok (.iload_n 3, 1)) ∧ (decode cX3_plain 162 = .ok (.ireturn, 1)) := by decide +kernel
theorem dX3_plain_153 : decode cX3_plain 153 = .ok (.aload_n 0, 1) := dX3_plain_153g.1
theorem dX3_plain_154 : decode cX3_plain 154 = .ok (.bipush 10, 2) := dX3_plain_153g.2.1
theorem dX3_plain_156 : decode cX3_plain 156 = .ok (.iconst 0, 1) := dX3_plain_153g.2.2.1
theorem dX3_plain_157 : decode cX3_plain 157 = .ok (.invokevirtual 109, 3) := dX3_plain_153g.2.2.2.1
theorem dX3_plain_160 : decode cX3_plain 160 = .ok (.pop, 1) := dX3_plain_153g.2.2.2.2.1
theorem dX3_plain_161 : decode cX3_plain 161 = .ok (.iload_n 3, 1) := dX3_plain_153g.2.2.2.2.2.1
theorem dX3_plain_162 : decode cX3_plain 162 = .ok (.ireturn, 1) := dX3_plain_153g.2.2.2.2.2.2
set_option maxHeartbeats 4000000 in
set_option maxRecDepth 100000 in
theorem c_X3_plain (l : Launch) (E : Nat → Nat) (D : va_G) (G : th_G) (k : Nat) (h0 : Nat) (hG0 : G h0 = some (7, 12)) (x1 : Int32) (ft fp fn : Nat → Int32) (TT pp nc LL : Nat) (ZZ : Nat → Int) (YY : Nat → Bool) (nk : Nat) (XX : Nat × Bool) (hTK : TK ft fn TT ZZ YY) (dd : Nat) (hdd : x1.toInt = (dd : Int)) (hd8 : dd ≤ 8) (hk : 8 ≤ dd + k) (fl : List Nat) (hdp : pd_dp (fl) = dd) (hpd : pd_R ZZ YY TT (3, fl, nk, LL) pp = XX) (henc : ∀ (h0 : Nat) (hG0 : G h0 = some (7, 12)) (x1 : Int32) (ft fp fn : Nat → Int32) (TT pp nc LL : Nat) (ZZ : Nat → Int) (YY : Nat → Bool) (nk : Nat) (XX : Nat × Bool) (hTK : TK ft fn TT ZZ YY) (dd : Nat) (hdd : x1.toInt = (dd : Int)) (hd8 : dd ≤ 8) (hk : 8 ≤ dd + k) (fl : List Nat) (hdp : pd_dp (fl) = dd) (hpd : pd_R ZZ YY TT (3, fl, nk, LL) pp = XX) (hc40 : (ft pp).toInt = 40), Met l yX3_enclosed (tb (.code yX3_enclosed cX3_enclosed 3 (some .boolean))) (rm (20 + 3 * k)) (va_Pc [.ref h0, .int x1] (PCx E D G (fun H => RC E D G h0 ft fp fn TT pp nc LL H))) (QCi E D G (fun r H => ((r : Int32) = 1 ∧ ∃ p2 L2 : Nat, RC E D G h0 ft fp fn TT p2 nc L2 H ∧ pp + 1 ≤ p2 ∧ pd_R ZZ YY TT (4, fl, nk, L2) p2 = XX) ∨ ((r : Int32) = 0 ∧ ∃ p2 L2 : Nat, RC E D G h0 ft fp fn TT p2 nc L2 H ∧ pp ≤ p2 ∧ XX = (p2, false)))) 0 0 (th_A G)) : Met l yX3_plain (tb (.code yX3_plain cX3_plain 5 (some .boolean))) (rm (21 + 3 * k)) (va_Pc [.ref h0, .int x1] (PCx E D G (fun H => RC E D G h0 ft fp fn TT pp nc LL H))) (QCi E D G (fun r H => ((r : Int32) = 1 ∧ ∃ p2 L2 : Nat, RC E D G h0 ft fp fn TT p2 nc L2 H ∧ pp + 1 ≤ p2 ∧ pd_R ZZ YY TT (4, fl, nk, L2) p2 = XX) ∨ ((r : Int32) = 0 ∧ ∃ p2 L2 : Nat, RC E D G h0 ft fp fn TT p2 nc L2 H ∧ pp ≤ p2 ∧ XX = (p2, false)))) 0 0 (th_A G) := by
  refine Met.ofW (cc := cX3_plain) (maxL := 5) (ret := (some .boolean)) (by decide) rfl ?_
  intro p e s m args below meth c s₁ B hml hv
  obtain ⟨hav, ⟨hI, hN, hK⟩, hX⟩ := hv
  have hx := B.exec
  have hb := B.bytes
  have hr := B.returns
  have hts := atoms_spec (ws := tb (.code yX3_plain cX3_plain 5 (some .boolean))) B.pre
  have hown : s.vm.findClass RX3 = some m.cls := findClass_of_methodNamed B.named
  have hlocks := B.notSynchronized
  have hS : va_S (th_A G) s.heap s.heap [] := va_S.rf
  have hl := lv_entry ([.ref h0, .int x1]) (n := 5) (Nat.le_of_ble_eq_true rfl)
  rw [show entryFrame m args 5 = entryFrame m ([.ref h0, .int x1] : List Value).toArray 5 from by rw [hav], lg_entry_eq]
  generalize (lg_sl ([.ref h0, .int x1]) ++ List.replicate (5 - (lg_sl ([.ref h0, .int x1])).length) Slot.unset).toArray = ls at hl ⊢
  have hl : lv_has ls 5 [(0, .ref h0), (1, .int x1)] := hl
  generalize hR : (headSpec (tb (.code yX3_plain cX3_plain 5 (some .boolean))) (rm (21 + 3 * k))).room = R
  have hR := hR.symm
  generalize hQ : MQ below (QCi E D G (fun r H => ((r : Int32) = 1 ∧ ∃ p2 L2 : Nat, RC E D G h0 ft fp fn TT p2 nc L2 H ∧ pp + 1 ≤ p2 ∧ pd_R ZZ YY TT (4, fl, nk, L2) p2 = XX) ∨ ((r : Int32) = 0 ∧ ∃ p2 L2 : Nat, RC E D G h0 ft fp fn TT p2 nc L2 H ∧ pp ≤ p2 ∧ XX = (p2, false)))) args s 0 0 (th_A G) = QF
  have hQ := hQ.symm
  have hRC1 := hX
  obtain ⟨hT4, hpT, ⟨w2, hg3, k4⟩, ⟨w5, hg6, k7⟩⟩ := RC.tk hRC1
  have k8 := TK.at hTK hpT
  have J_4 : ∀ (nn : Nat) (H : Heap) (locs : List Loc) (ls : Array Slot) (v5994 : Int32) (v5995 : Int32) (p1 : Nat), (Int.toNat (400 - v5994.toInt) = nn) → lv_has ls 5 [(3, .int v5994), (2, .int v5995), (0, .ref h0), (1, .int x1)] → ((0 : Int) ≤ v5994.toInt ∧ v5994.toInt ≤ 400) → ((0 : Int) ≤ v5995.toInt ∧ v5995.toInt ≤ 1) → ((0 : Int) ≤ x1.toInt ∧ x1.toInt ≤ 8) → (pp ≤ p1) → (v5994.toInt ≤ (p1 : Int)) → (pd_R ZZ YY TT (3, fl, nk, LL) p1 = XX) → (RC E D G h0 ft fp fn TT p1 nc LL H) → th_I (okC E) D G [] H → va_S (th_A G) s.heap H locs → W p l e R s m args below meth c H locs 0 0 QF (F0 m 4 ls []) := by
    intro nn
    induction nn using Nat.strongRecOn with
    | ind nn ih_4 =>
      intro H locs ls v5994 v5995 p1 hm hl k5996 k5997 k5998 hle1 hi1 hpi hE hI hS
      have hRC5999 := hE
      obtain ⟨hT4, hpT, ⟨w6000, hg6001, k6002⟩, ⟨w6003, hg6004, k6005⟩⟩ := RC.tk hRC5999
      clear hRC1 hg3 hg6 k8
      have k6006 := TK.at hTK hpT
      refine lv_iload_n hx hb dX3_plain_4 rfl (lv_at hl 0 rfl) ?_
      refine lv_sipush (v := 400) hx hb dX3_plain_5 (by decide) ?_
      refine lv_icmp_ge (tgt := 47) hx hb dX3_plain_8 (by decide) (fun c6007 => ?_) (fun c6007 => ?_)
      · skip
        have k6008 := iv_le (X := (400)) (Y := v5994.toInt) (by decide) rfl c6007
        refine lv_aload_n hx hb dX3_plain_47 rfl (lv_at hl 2 rfl) ?_
        refine gmIC hx hb hts inT3 hown hK hI List.not_mem_nil hG0 11 (by decide) (hts _ (tb_c wd_140)) rfl rfl dX3_plain_48 (fun w6009 hg6010 k6011 k6012 => ?_)
        obtain rfl := gfC.uniq (by decide) hg6004 hg6010
        refine lv_bipush (v := 40) hx hb dX3_plain_51 (by decide) ?_
        have k6013 := iv_lo w6003
        have k6014 := iv_hi w6003
        refine lv_icmp_ne (tgt := 65) hx hb dX3_plain_53 (by decide) (fun c6015 => ?_) (fun c6015 => ?_)
        · skip
          have k6016 := iv_ne (X := w6003.toInt) (Y := (40)) rfl (by decide) c6015
          refine lv_aload_n hx hb dX3_plain_65 rfl (lv_at hl 2 rfl) ?_
          refine lv_iload_n hx hb dX3_plain_66 rfl (lv_at hl 3 rfl) ?_
          have hpd6017 : pd_R ZZ YY TT (1, 1 :: fl, nk, LL) p1 = XX := (pd_Q_E (fun h9 => ⟨by omega, by omega⟩)).symm.trans hpi
          refine nx_i (As := [.int x1]) (rest := []) (n := 1) (d := 19) ⟨hx, hb, hml, hown, hts⟩ (c_X3_sum l E D G 8 h0 hG0 x1 ft fp fn TT p1 nc LL ZZ YY nk XX hTK dd (by first | decide | omega) (by omega) (by omega) (1 :: fl) (by rw [pd_dp1, hdp]) hpd6017 (c_X3_part l E D G 8)) wd_715 wd_717 wp_15 wd_5 wd_718 (by decide +kernel) ⟨by rw [hR]; show 19 + 1 ≤ 21 + 3 * k; omega, by rw [hR]; show 8 + (7 + 11) + 40 * (19) ≤ 40 * (21 + 3 * k); omega⟩ hI hN hK hS hG0 (hRC5999) rfl hl.1 rfl (Nat.le_of_ble_eq_true rfl) dX3_plain_67 ⟨Nat.zero_le _, Nat.zero_le _⟩ (fun r6018 H locs hI hp hS => ?_)
          rcases hp with ⟨rfl, hp⟩ | ⟨rfl, hp⟩
          · skip
            try simp only [rg, not_and, Int.not_le] at hp
            have hp6019 := hp
            obtain ⟨pn6020, Ln6021, hE, k6022, hpd6023, hno6024⟩ := hp6019
            have hp6019 : True := trivial
            have hRC6025 := hE
            obtain ⟨hT4, hpT, ⟨w6026, hg6027, k6028⟩, ⟨w6029, hg6030, k6031⟩⟩ := RC.tk hRC6025
            clear hRC5999 hg6001 hg6004 k6006
            have k6032 := TK.at hTK hpT
            refine lv_istore_n (lv' := [(3, .int 1), (2, .int v5995), (0, .ref h0), (1, .int x1)]) hx hb dX3_plain_70 rfl hl (by decide) rfl (fun ls hl => ?_)
            refine lv_aload_n hx hb dX3_plain_71 rfl (lv_at hl 2 rfl) ?_
            refine gmIC hx hb hts inT3 hown hK hI List.not_mem_nil hG0 11 (by decide) (hts _ (tb_c wd_140)) rfl rfl dX3_plain_72 (fun w6033 hg6034 k6035 k6036 => ?_)
            obtain rfl := gfC.uniq (by decide) hg6030 hg6034
            refine lv_bipush (v := 60) hx hb dX3_plain_75 (by decide) ?_
            have k6037 := iv_lo w6029
            have k6038 := iv_hi w6029
            refine lv_icmp_ne (tgt := 85) hx hb dX3_plain_77 (by decide) (fun c6039 => ?_) (fun c6039 => ?_)
            · skip
              have k6040 := iv_ne (X := w6029.toInt) (Y := (60)) rfl (by decide) c6039
              refine lv_aload_n hx hb dX3_plain_85 rfl (lv_at hl 2 rfl) ?_
              refine gmIC hx hb hts inT3 hown hK hI List.not_mem_nil hG0 11 (by decide) (hts _ (tb_c wd_140)) rfl rfl dX3_plain_86 (fun w6041 hg6042 k6043 k6044 => ?_)
              obtain rfl := gfC.uniq (by decide) hg6030 hg6042
              refine lv_bipush (v := 62) hx hb dX3_plain_89 (by decide) ?_
              refine lv_icmp_ne (tgt := 99) hx hb dX3_plain_91 (by decide) (fun c6045 => ?_) (fun c6045 => ?_)
              · skip
                have k6046 := iv_ne (X := w6029.toInt) (Y := (62)) rfl (by decide) c6045
                refine lv_bipush (v := 9) hx hb dX3_plain_99 (by decide) ?_
                refine lv_istore (lv' := [(4, .int 9), (3, .int 1), (2, .int v5995), (0, .ref h0), (1, .int x1)]) hx hb dX3_plain_101 hl (by decide) rfl (fun ls hl => ?_)
                refine lv_iload_n hx hb dX3_plain_103 rfl (lv_at hl 1 rfl) ?_
                refine lv_if_eq (tgt := 123) hx hb dX3_plain_104 (by decide) (fun c => absurd c (by decide)) (fun _ => ?_)
                refine lv_iload hx hb dX3_plain_107 (lv_at hl 0 rfl) ?_
                refine lv_bipush (v := 9) hx hb dX3_plain_109 (by decide) ?_
                refine lv_icmp_ne (tgt := 125) hx hb dX3_plain_111 (by decide) (fun c6047 => ?_) (fun c6047 => ?_)
                · skip
                  have k6048 := iv_ne (X := (9)) (Y := (9)) (by decide) (by decide) c6047
                  exfalso; omega
                · skip
                  have k6049 := iv_eq (X := (9)) (Y := (9)) (by decide) (by decide) c6047
                  refine lv_aload_n hx hb dX3_plain_114 rfl (lv_at hl 3 rfl) ?_
                  refine gmIC hx hb hts inT3 hown hK hI List.not_mem_nil hG0 11 (by decide) (hts _ (tb_c wd_140)) rfl rfl dX3_plain_115 (fun w6050 hg6051 k6052 k6053 => ?_)
                  obtain rfl := gfC.uniq (by decide) hg6030 hg6051
                  refine lv_bipush (v := 61) hx hb dX3_plain_118 (by decide) ?_
                  refine lv_icmp_eq (tgt := 125) hx hb dX3_plain_120 (by decide) (fun c6054 => ?_) (fun c6054 => ?_)
                  · skip
                    have k6055 := iv_eq (X := w6029.toInt) (Y := (61)) rfl (by decide) c6054
                    refine lv_aload_n hx hb dX3_plain_125 rfl (lv_at hl 3 rfl) ?_
                    refine lv_aload_n hx hb dX3_plain_126 rfl (lv_at hl 3 rfl) ?_
                    refine gmIC hx hb hts inT3 hown hK hI List.not_mem_nil hG0 10 (by decide) (hts _ (tb_c wd_139)) rfl rfl dX3_plain_127 (fun w6056 hg6057 k6058 k6059 => ?_)
                    obtain rfl := gfC.uniq (by decide) hg6027 hg6057
                    refine lv_iconst (v := 1) hx hb dX3_plain_130 (by decide) ?_
                    refine lv_iadd hx hb dX3_plain_131 ?_
                    refine lv_topi (fun v6060 e6061 => ?_)
                    have tv6060 : v6060.toInt = w6026.toInt + (1) := iv_add rfl (by decide) e6061 (by omega) (by omega)
                    have hpd6062 : pd_R ZZ YY TT (1, 2 :: fl, nk, Ln6021) (pn6020 + 1) = XX := (pd_A_cm (by omega) (by omega)).symm.trans hpd6023
                    refine nx_v (As := [.int v6060]) (rest := []) (n := 1) (d := 0) ⟨hx, hb, hml, hown, hts⟩ (c_X3_moveTo l E D G h0 hG0 v6060 ft fp fn TT (pn6020 + 1) nc Ln6021 (by first | omega | decide) (by omega)) wd_707 wd_709 wp_13 wd_5 wd_710 (by decide +kernel) ⟨by rw [hR]; show 0 + 1 ≤ 21 + 3 * k; omega, by rw [hR]; show 8 + (2 + 11) + 40 * (0) ≤ 40 * (21 + 3 * k); omega⟩ hI hN hK hS hG0 ((RC.to0 hRC6025)) rfl hl.1 rfl (Nat.le_of_ble_eq_true rfl) dX3_plain_132 ⟨Nat.zero_le _, Nat.zero_le _⟩ (fun H locs hI hp hS => ?_)
                    have hRC6064 := hp
                    obtain ⟨hT4, hpT, ⟨w6065, hg6066, k6067⟩, ⟨w6068, hg6069, k6070⟩⟩ := RC.tk hRC6064
                    clear hRC6025 hg6027 hg6030 k6032
                    have k6071 := TK.at hTK hpT
                    refine lv_aload_n hx hb dX3_plain_135 rfl (lv_at hl 3 rfl) ?_
                    refine lv_iload_n hx hb dX3_plain_136 rfl (lv_at hl 4 rfl) ?_
                    refine nx_i (As := [.int x1]) (rest := []) (n := 1) (d := 19) ⟨hx, hb, hml, hown, hts⟩ (c_X3_sum l E D G 8 h0 hG0 x1 ft fp fn TT (pn6020 + 1) nc Ln6021 ZZ YY nk XX hTK dd (by first | decide | omega) (by omega) (by omega) (2 :: fl) (by rw [pd_dp2, hdp]) hpd6062 (c_X3_part l E D G 8)) wd_715 wd_717 wp_15 wd_5 wd_718 (by decide +kernel) ⟨by rw [hR]; show 19 + 1 ≤ 21 + 3 * k; omega, by rw [hR]; show 8 + (7 + 11) + 40 * (19) ≤ 40 * (21 + 3 * k); omega⟩ hI hN hK hS hG0 (hRC6064) rfl hl.1 rfl (Nat.le_of_ble_eq_true rfl) dX3_plain_137 ⟨Nat.zero_le _, Nat.zero_le _⟩ (fun r6072 H locs hI hp hS => ?_)
                    rcases hp with ⟨rfl, hp⟩ | ⟨rfl, hp⟩
                    · skip
                      try simp only [rg, not_and, Int.not_le] at hp
                      have hp6073 := hp
                      obtain ⟨pn6074, Ln6075, hE, k6076, hpd6077, hno6078⟩ := hp6073
                      have hp6073 : True := trivial
                      have hRC6079 := hE
                      obtain ⟨hT4, hpT, ⟨w6080, hg6081, k6082⟩, ⟨w6083, hg6084, k6085⟩⟩ := RC.tk hRC6079
                      clear hRC6064 hg6066 hg6069 k6071
                      have k6086 := TK.at hTK hpT
                      have hpd6087 : pd_R ZZ YY TT (4, fl, nk, Ln6075) pn6074 = XX := (pd_A_rt (fun h9 => by unfold pd_op; unfold oc at hno6078; omega)).symm.trans hpd6077
                      refine lv_istore_n (lv' := [(3, .int 1), (4, .int 9), (2, .int v5995), (0, .ref h0), (1, .int x1)]) hx hb dX3_plain_140 rfl hl (by decide) rfl (fun ls hl => ?_)
                      refine lv_aload_n hx hb dX3_plain_141 rfl (lv_at hl 3 rfl) ?_
                      refine lv_iload hx hb dX3_plain_142 (lv_at hl 1 rfl) ?_
                      refine lv_iconst (v := 0) hx hb dX3_plain_144 (by decide) ?_
                      refine nx_i (As := [.int 9, .int 0]) (rest := []) (n := 2) (d := 0) ⟨hx, hb, hml, hown, hts⟩ (c_X3_emit l E D G h0 hG0 9 0 ft fp fn TT pn6074 nc Ln6075) wd_723 wd_725 wp_17 wd_5 wd_726 (by decide +kernel) ⟨by rw [hR]; show 0 + 1 ≤ 21 + 3 * k; omega, by rw [hR]; show 8 + (3 + 11) + 40 * (0) ≤ 40 * (21 + 3 * k); omega⟩ hI hN hK hS hG0 (hRC6079) rfl hl.1 rfl (Nat.le_of_ble_eq_true rfl) dX3_plain_145 ⟨Nat.zero_le _, Nat.zero_le _⟩ (fun r6088 H locs hI hp hS => ?_)
                      have hRC6089 := hp
                      obtain ⟨hT4, hpT, ⟨w6090, hg6091, k6092⟩, ⟨w6093, hg6094, k6095⟩⟩ := RC.tk hRC6089
                      clear hRC6079 hg6081 hg6084 k6086
                      have k6096 := TK.at hTK hpT
                      refine lv_pop hx hb dX3_plain_148 rfl ?_
                      refine lv_iload_n hx hb dX3_plain_149 rfl (lv_at hl 2 rfl) ?_
                      refine lv_if_eq (tgt := 161) hx hb dX3_plain_150 (by decide) (fun c6097 => ?_) (fun c6097 => ?_)
                      · skip
                        have k6098 := iv_eq (X := v5995.toInt) (Y := (0)) rfl (by decide) c6097
                        refine lv_iload_n hx hb dX3_plain_161 rfl (lv_at hl 0 rfl) ?_
                        have hpost : ((1 : Int32) = 1 ∧ ∃ p2 L2 : Nat, RC E D G h0 ft fp fn TT p2 nc L2 H ∧ pp + 1 ≤ p2 ∧ pd_R ZZ YY TT (4, fl, nk, L2) p2 = XX) ∨ ((1 : Int32) = 0 ∧ ∃ p2 L2 : Nat, RC E D G h0 ft fp fn TT p2 nc L2 H ∧ pp ≤ p2 ∧ XX = (p2, false)) := Or.inl ⟨rfl, pn6074, Ln6075, hRC6089, by omega, hpd6087⟩
                        rw [hQ]
                        exact W.zret (v := 1) hx hb hr (by decide) (fun t ht hW => ⟨⟨1, 1, rfl, rfl, ⟨by rw [ht]; exact hI, hN.warm hW, va_K.moved hW.alike hK⟩, by first | (rw [ht]; exact hpost) | exact hpost⟩, hS.F ht⟩) hS.2.2 dX3_plain_162
                      · skip
                        have k6099 := iv_ne (X := v5995.toInt) (Y := (0)) rfl (by decide) c6097
                        refine lv_aload_n hx hb dX3_plain_153 rfl (lv_at hl 3 rfl) ?_
                        refine lv_bipush (v := 10) hx hb dX3_plain_154 (by decide) ?_
                        refine lv_iconst (v := 0) hx hb dX3_plain_156 (by decide) ?_
                        refine nx_i (As := [.int 10, .int 0]) (rest := []) (n := 2) (d := 0) ⟨hx, hb, hml, hown, hts⟩ (c_X3_emit l E D G h0 hG0 10 0 ft fp fn TT pn6074 nc Ln6075) wd_723 wd_725 wp_17 wd_5 wd_726 (by decide +kernel) ⟨by rw [hR]; show 0 + 1 ≤ 21 + 3 * k; omega, by rw [hR]; show 8 + (3 + 11) + 40 * (0) ≤ 40 * (21 + 3 * k); omega⟩ hI hN hK hS hG0 (hRC6089) rfl hl.1 rfl (Nat.le_of_ble_eq_true rfl) dX3_plain_157 ⟨Nat.zero_le _, Nat.zero_le _⟩ (fun r6100 H locs hI hp hS => ?_)
                        have hRC6101 := hp
                        obtain ⟨hT4, hpT, ⟨w6102, hg6103, k6104⟩, ⟨w6105, hg6106, k6107⟩⟩ := RC.tk hRC6101
                        clear hRC6089 hg6091 hg6094 k6096
                        have k6108 := TK.at hTK hpT
                        refine lv_pop hx hb dX3_plain_160 rfl ?_
                        refine lv_iload_n hx hb dX3_plain_161 rfl (lv_at hl 0 rfl) ?_
                        have hpost : ((1 : Int32) = 1 ∧ ∃ p2 L2 : Nat, RC E D G h0 ft fp fn TT p2 nc L2 H ∧ pp + 1 ≤ p2 ∧ pd_R ZZ YY TT (4, fl, nk, L2) p2 = XX) ∨ ((1 : Int32) = 0 ∧ ∃ p2 L2 : Nat, RC E D G h0 ft fp fn TT p2 nc L2 H ∧ pp ≤ p2 ∧ XX = (p2, false)) := Or.inl ⟨rfl, pn6074, Ln6075, hRC6101, by omega, hpd6087⟩
                        rw [hQ]
                        exact W.zret (v := 1) hx hb hr (by decide) (fun t ht hW => ⟨⟨1, 1, rfl, rfl, ⟨by rw [ht]; exact hI, hN.warm hW, va_K.moved hW.alike hK⟩, by first | (rw [ht]; exact hpost) | exact hpost⟩, hS.F ht⟩) hS.2.2 dX3_plain_162
                    · skip
                      try simp only [rg, not_and, Int.not_le] at hp
                      have hp6109 := hp
                      obtain ⟨pn6110, Ln6111, hE, k6112, hfl6113⟩ := hp6109
                      have hp6109 : True := trivial
                      have hRC6114 := hE
                      obtain ⟨hT4, hpT, ⟨w6115, hg6116, k6117⟩, ⟨w6118, hg6119, k6120⟩⟩ := RC.tk hRC6114
                      clear hRC6064 hg6066 hg6069 k6071
                      have k6121 := TK.at hTK hpT
                      refine lv_istore_n (lv' := [(3, .int 0), (4, .int 9), (2, .int v5995), (0, .ref h0), (1, .int x1)]) hx hb dX3_plain_140 rfl hl (by decide) rfl (fun ls hl => ?_)
                      refine lv_aload_n hx hb dX3_plain_141 rfl (lv_at hl 3 rfl) ?_
                      refine lv_iload hx hb dX3_plain_142 (lv_at hl 1 rfl) ?_
                      refine lv_iconst (v := 0) hx hb dX3_plain_144 (by decide) ?_
                      refine nx_i (As := [.int 9, .int 0]) (rest := []) (n := 2) (d := 0) ⟨hx, hb, hml, hown, hts⟩ (c_X3_emit l E D G h0 hG0 9 0 ft fp fn TT pn6110 nc Ln6111) wd_723 wd_725 wp_17 wd_5 wd_726 (by decide +kernel) ⟨by rw [hR]; show 0 + 1 ≤ 21 + 3 * k; omega, by rw [hR]; show 8 + (3 + 11) + 40 * (0) ≤ 40 * (21 + 3 * k); omega⟩ hI hN hK hS hG0 (hRC6114) rfl hl.1 rfl (Nat.le_of_ble_eq_true rfl) dX3_plain_145 ⟨Nat.zero_le _, Nat.zero_le _⟩ (fun r6122 H locs hI hp hS => ?_)
                      have hRC6123 := hp
                      obtain ⟨hT4, hpT, ⟨w6124, hg6125, k6126⟩, ⟨w6127, hg6128, k6129⟩⟩ := RC.tk hRC6123
                      clear hRC6114 hg6116 hg6119 k6121
                      have k6130 := TK.at hTK hpT
                      refine lv_pop hx hb dX3_plain_148 rfl ?_
                      refine lv_iload_n hx hb dX3_plain_149 rfl (lv_at hl 2 rfl) ?_
                      refine lv_if_eq (tgt := 161) hx hb dX3_plain_150 (by decide) (fun c6131 => ?_) (fun c6131 => ?_)
                      · skip
                        have k6132 := iv_eq (X := v5995.toInt) (Y := (0)) rfl (by decide) c6131
                        refine lv_iload_n hx hb dX3_plain_161 rfl (lv_at hl 0 rfl) ?_
                        have hpost : ((0 : Int32) = 1 ∧ ∃ p2 L2 : Nat, RC E D G h0 ft fp fn TT p2 nc L2 H ∧ pp + 1 ≤ p2 ∧ pd_R ZZ YY TT (4, fl, nk, L2) p2 = XX) ∨ ((0 : Int32) = 0 ∧ ∃ p2 L2 : Nat, RC E D G h0 ft fp fn TT p2 nc L2 H ∧ pp ≤ p2 ∧ XX = (p2, false)) := Or.inr ⟨rfl, pn6110, Ln6111, hRC6123, by omega, hfl6113⟩
                        rw [hQ]
                        exact W.zret (v := 0) hx hb hr (by decide) (fun t ht hW => ⟨⟨0, 0, rfl, rfl, ⟨by rw [ht]; exact hI, hN.warm hW, va_K.moved hW.alike hK⟩, by first | (rw [ht]; exact hpost) | exact hpost⟩, hS.F ht⟩) hS.2.2 dX3_plain_162
                      · skip
                        have k6133 := iv_ne (X := v5995.toInt) (Y := (0)) rfl (by decide) c6131
                        refine lv_aload_n hx hb dX3_plain_153 rfl (lv_at hl 3 rfl) ?_
                        refine lv_bipush (v := 10) hx hb dX3_plain_154 (by decide) ?_
                        refine lv_iconst (v := 0) hx hb dX3_plain_156 (by decide) ?_
                        refine nx_i (As := [.int 10, .int 0]) (rest := []) (n := 2) (d := 0) ⟨hx, hb, hml, hown, hts⟩ (c_X3_emit l E D G h0 hG0 10 0 ft fp fn TT pn6110 nc Ln6111) wd_723 wd_725 wp_17 wd_5 wd_726 (by decide +kernel) ⟨by rw [hR]; show 0 + 1 ≤ 21 + 3 * k; omega, by rw [hR]; show 8 + (3 + 11) + 40 * (0) ≤ 40 * (21 + 3 * k); omega⟩ hI hN hK hS hG0 (hRC6123) rfl hl.1 rfl (Nat.le_of_ble_eq_true rfl) dX3_plain_157 ⟨Nat.zero_le _, Nat.zero_le _⟩ (fun r6134 H locs hI hp hS => ?_)
                        have hRC6135 := hp
                        obtain ⟨hT4, hpT, ⟨w6136, hg6137, k6138⟩, ⟨w6139, hg6140, k6141⟩⟩ := RC.tk hRC6135
                        clear hRC6123 hg6125 hg6128 k6130
                        have k6142 := TK.at hTK hpT
                        refine lv_pop hx hb dX3_plain_160 rfl ?_
                        refine lv_iload_n hx hb dX3_plain_161 rfl (lv_at hl 0 rfl) ?_
                        have hpost : ((0 : Int32) = 1 ∧ ∃ p2 L2 : Nat, RC E D G h0 ft fp fn TT p2 nc L2 H ∧ pp + 1 ≤ p2 ∧ pd_R ZZ YY TT (4, fl, nk, L2) p2 = XX) ∨ ((0 : Int32) = 0 ∧ ∃ p2 L2 : Nat, RC E D G h0 ft fp fn TT p2 nc L2 H ∧ pp ≤ p2 ∧ XX = (p2, false)) := Or.inr ⟨rfl, pn6110, Ln6111, hRC6135, by omega, hfl6113⟩
                        rw [hQ]
                        exact W.zret (v := 0) hx hb hr (by decide) (fun t ht hW => ⟨⟨0, 0, rfl, rfl, ⟨by rw [ht]; exact hI, hN.warm hW, va_K.moved hW.alike hK⟩, by first | (rw [ht]; exact hpost) | exact hpost⟩, hS.F ht⟩) hS.2.2 dX3_plain_162
                  · skip
                    have k6143 := iv_ne (X := w6029.toInt) (Y := (61)) rfl (by decide) c6054
                    refine lv_iconst (v := 0) hx hb dX3_plain_123 (by decide) ?_
                    have hpost : ((0 : Int32) = 1 ∧ ∃ p2 L2 : Nat, RC E D G h0 ft fp fn TT p2 nc L2 H ∧ pp + 1 ≤ p2 ∧ pd_R ZZ YY TT (4, fl, nk, L2) p2 = XX) ∨ ((0 : Int32) = 0 ∧ ∃ p2 L2 : Nat, RC E D G h0 ft fp fn TT p2 nc L2 H ∧ pp ≤ p2 ∧ XX = (p2, false)) := Or.inr ⟨rfl, pn6020, Ln6021, hRC6025, by omega, (hpd6023.symm.trans (pd_A_cmno (fun h9 => ⟨by unfold pd_op; unfold oc at hno6024; omega, by omega⟩)))⟩
                    rw [hQ]
                    exact W.zret (v := 0) hx hb hr (by decide) (fun t ht hW => ⟨⟨0, 0, rfl, rfl, ⟨by rw [ht]; exact hI, hN.warm hW, va_K.moved hW.alike hK⟩, by first | (rw [ht]; exact hpost) | exact hpost⟩, hS.F ht⟩) hS.2.2 dX3_plain_124
              · skip
                have k6144 := iv_eq (X := w6029.toInt) (Y := (62)) rfl (by decide) c6045
                refine lv_bipush (v := 8) hx hb dX3_plain_94 (by decide) ?_
                refine lv_goto (tgt := 101) hx hb dX3_plain_96 (by decide) ?_
                refine lv_istore (lv' := [(4, .int 8), (3, .int 1), (2, .int v5995), (0, .ref h0), (1, .int x1)]) hx hb dX3_plain_101 hl (by decide) rfl (fun ls hl => ?_)
                refine lv_iload_n hx hb dX3_plain_103 rfl (lv_at hl 1 rfl) ?_
                refine lv_if_eq (tgt := 123) hx hb dX3_plain_104 (by decide) (fun c => absurd c (by decide)) (fun _ => ?_)
                refine lv_iload hx hb dX3_plain_107 (lv_at hl 0 rfl) ?_
                refine lv_bipush (v := 9) hx hb dX3_plain_109 (by decide) ?_
                refine lv_icmp_ne (tgt := 125) hx hb dX3_plain_111 (by decide) (fun c6145 => ?_) (fun c6145 => ?_)
                · skip
                  have k6146 := iv_ne (X := (8)) (Y := (9)) (by decide) (by decide) c6145
                  refine lv_aload_n hx hb dX3_plain_125 rfl (lv_at hl 3 rfl) ?_
                  refine lv_aload_n hx hb dX3_plain_126 rfl (lv_at hl 3 rfl) ?_
                  refine gmIC hx hb hts inT3 hown hK hI List.not_mem_nil hG0 10 (by decide) (hts _ (tb_c wd_139)) rfl rfl dX3_plain_127 (fun w6147 hg6148 k6149 k6150 => ?_)
                  obtain rfl := gfC.uniq (by decide) hg6027 hg6148
                  refine lv_iconst (v := 1) hx hb dX3_plain_130 (by decide) ?_
                  refine lv_iadd hx hb dX3_plain_131 ?_
                  refine lv_topi (fun v6151 e6152 => ?_)
                  have tv6151 : v6151.toInt = w6026.toInt + (1) := iv_add rfl (by decide) e6152 (by omega) (by omega)
                  have hpd6153 : pd_R ZZ YY TT (1, 2 :: fl, nk, Ln6021) (pn6020 + 1) = XX := (pd_A_cm (by omega) (by omega)).symm.trans hpd6023
                  refine nx_v (As := [.int v6151]) (rest := []) (n := 1) (d := 0) ⟨hx, hb, hml, hown, hts⟩ (c_X3_moveTo l E D G h0 hG0 v6151 ft fp fn TT (pn6020 + 1) nc Ln6021 (by first | omega | decide) (by omega)) wd_707 wd_709 wp_13 wd_5 wd_710 (by decide +kernel) ⟨by rw [hR]; show 0 + 1 ≤ 21 + 3 * k; omega, by rw [hR]; show 8 + (2 + 11) + 40 * (0) ≤ 40 * (21 + 3 * k); omega⟩ hI hN hK hS hG0 ((RC.to0 hRC6025)) rfl hl.1 rfl (Nat.le_of_ble_eq_true rfl) dX3_plain_132 ⟨Nat.zero_le _, Nat.zero_le _⟩ (fun H locs hI hp hS => ?_)
                  have hRC6155 := hp
                  obtain ⟨hT4, hpT, ⟨w6156, hg6157, k6158⟩, ⟨w6159, hg6160, k6161⟩⟩ := RC.tk hRC6155
                  clear hRC6025 hg6027 hg6030 k6032
                  have k6162 := TK.at hTK hpT
                  refine lv_aload_n hx hb dX3_plain_135 rfl (lv_at hl 3 rfl) ?_
                  refine lv_iload_n hx hb dX3_plain_136 rfl (lv_at hl 4 rfl) ?_
                  refine nx_i (As := [.int x1]) (rest := []) (n := 1) (d := 19) ⟨hx, hb, hml, hown, hts⟩ (c_X3_sum l E D G 8 h0 hG0 x1 ft fp fn TT (pn6020 + 1) nc Ln6021 ZZ YY nk XX hTK dd (by first | decide | omega) (by omega) (by omega) (2 :: fl) (by rw [pd_dp2, hdp]) hpd6153 (c_X3_part l E D G 8)) wd_715 wd_717 wp_15 wd_5 wd_718 (by decide +kernel) ⟨by rw [hR]; show 19 + 1 ≤ 21 + 3 * k; omega, by rw [hR]; show 8 + (7 + 11) + 40 * (19) ≤ 40 * (21 + 3 * k); omega⟩ hI hN hK hS hG0 (hRC6155) rfl hl.1 rfl (Nat.le_of_ble_eq_true rfl) dX3_plain_137 ⟨Nat.zero_le _, Nat.zero_le _⟩ (fun r6163 H locs hI hp hS => ?_)
                  rcases hp with ⟨rfl, hp⟩ | ⟨rfl, hp⟩
                  · skip
                    try simp only [rg, not_and, Int.not_le] at hp
                    have hp6164 := hp
                    obtain ⟨pn6165, Ln6166, hE, k6167, hpd6168, hno6169⟩ := hp6164
                    have hp6164 : True := trivial
                    have hRC6170 := hE
                    obtain ⟨hT4, hpT, ⟨w6171, hg6172, k6173⟩, ⟨w6174, hg6175, k6176⟩⟩ := RC.tk hRC6170
                    clear hRC6155 hg6157 hg6160 k6162
                    have k6177 := TK.at hTK hpT
                    have hpd6178 : pd_R ZZ YY TT (4, fl, nk, Ln6166) pn6165 = XX := (pd_A_rt (fun h9 => by unfold pd_op; unfold oc at hno6169; omega)).symm.trans hpd6168
                    refine lv_istore_n (lv' := [(3, .int 1), (4, .int 8), (2, .int v5995), (0, .ref h0), (1, .int x1)]) hx hb dX3_plain_140 rfl hl (by decide) rfl (fun ls hl => ?_)
                    refine lv_aload_n hx hb dX3_plain_141 rfl (lv_at hl 3 rfl) ?_
                    refine lv_iload hx hb dX3_plain_142 (lv_at hl 1 rfl) ?_
                    refine lv_iconst (v := 0) hx hb dX3_plain_144 (by decide) ?_
                    refine nx_i (As := [.int 8, .int 0]) (rest := []) (n := 2) (d := 0) ⟨hx, hb, hml, hown, hts⟩ (c_X3_emit l E D G h0 hG0 8 0 ft fp fn TT pn6165 nc Ln6166) wd_723 wd_725 wp_17 wd_5 wd_726 (by decide +kernel) ⟨by rw [hR]; show 0 + 1 ≤ 21 + 3 * k; omega, by rw [hR]; show 8 + (3 + 11) + 40 * (0) ≤ 40 * (21 + 3 * k); omega⟩ hI hN hK hS hG0 (hRC6170) rfl hl.1 rfl (Nat.le_of_ble_eq_true rfl) dX3_plain_145 ⟨Nat.zero_le _, Nat.zero_le _⟩ (fun r6179 H locs hI hp hS => ?_)
                    have hRC6180 := hp
                    obtain ⟨hT4, hpT, ⟨w6181, hg6182, k6183⟩, ⟨w6184, hg6185, k6186⟩⟩ := RC.tk hRC6180
                    clear hRC6170 hg6172 hg6175 k6177
                    have k6187 := TK.at hTK hpT
                    refine lv_pop hx hb dX3_plain_148 rfl ?_
                    refine lv_iload_n hx hb dX3_plain_149 rfl (lv_at hl 2 rfl) ?_
                    refine lv_if_eq (tgt := 161) hx hb dX3_plain_150 (by decide) (fun c6188 => ?_) (fun c6188 => ?_)
                    · skip
                      have k6189 := iv_eq (X := v5995.toInt) (Y := (0)) rfl (by decide) c6188
                      refine lv_iload_n hx hb dX3_plain_161 rfl (lv_at hl 0 rfl) ?_
                      have hpost : ((1 : Int32) = 1 ∧ ∃ p2 L2 : Nat, RC E D G h0 ft fp fn TT p2 nc L2 H ∧ pp + 1 ≤ p2 ∧ pd_R ZZ YY TT (4, fl, nk, L2) p2 = XX) ∨ ((1 : Int32) = 0 ∧ ∃ p2 L2 : Nat, RC E D G h0 ft fp fn TT p2 nc L2 H ∧ pp ≤ p2 ∧ XX = (p2, false)) := Or.inl ⟨rfl, pn6165, Ln6166, hRC6180, by omega, hpd6178⟩
                      rw [hQ]
                      exact W.zret (v := 1) hx hb hr (by decide) (fun t ht hW => ⟨⟨1, 1, rfl, rfl, ⟨by rw [ht]; exact hI, hN.warm hW, va_K.moved hW.alike hK⟩, by first | (rw [ht]; exact hpost) | exact hpost⟩, hS.F ht⟩) hS.2.2 dX3_plain_162
                    · skip
                      have k6190 := iv_ne (X := v5995.toInt) (Y := (0)) rfl (by decide) c6188
                      refine lv_aload_n hx hb dX3_plain_153 rfl (lv_at hl 3 rfl) ?_
                      refine lv_bipush (v := 10) hx hb dX3_plain_154 (by decide) ?_
                      refine lv_iconst (v := 0) hx hb dX3_plain_156 (by decide) ?_
                      refine nx_i (As := [.int 10, .int 0]) (rest := []) (n := 2) (d := 0) ⟨hx, hb, hml, hown, hts⟩ (c_X3_emit l E D G h0 hG0 10 0 ft fp fn TT pn6165 nc Ln6166) wd_723 wd_725 wp_17 wd_5 wd_726 (by decide +kernel) ⟨by rw [hR]; show 0 + 1 ≤ 21 + 3 * k; omega, by rw [hR]; show 8 + (3 + 11) + 40 * (0) ≤ 40 * (21 + 3 * k); omega⟩ hI hN hK hS hG0 (hRC6180) rfl hl.1 rfl (Nat.le_of_ble_eq_true rfl) dX3_plain_157 ⟨Nat.zero_le _, Nat.zero_le _⟩ (fun r6191 H locs hI hp hS => ?_)
                      have hRC6192 := hp
                      obtain ⟨hT4, hpT, ⟨w6193, hg6194, k6195⟩, ⟨w6196, hg6197, k6198⟩⟩ := RC.tk hRC6192
                      clear hRC6180 hg6182 hg6185 k6187
                      have k6199 := TK.at hTK hpT
                      refine lv_pop hx hb dX3_plain_160 rfl ?_
                      refine lv_iload_n hx hb dX3_plain_161 rfl (lv_at hl 0 rfl) ?_
                      have hpost : ((1 : Int32) = 1 ∧ ∃ p2 L2 : Nat, RC E D G h0 ft fp fn TT p2 nc L2 H ∧ pp + 1 ≤ p2 ∧ pd_R ZZ YY TT (4, fl, nk, L2) p2 = XX) ∨ ((1 : Int32) = 0 ∧ ∃ p2 L2 : Nat, RC E D G h0 ft fp fn TT p2 nc L2 H ∧ pp ≤ p2 ∧ XX = (p2, false)) := Or.inl ⟨rfl, pn6165, Ln6166, hRC6192, by omega, hpd6178⟩
                      rw [hQ]
                      exact W.zret (v := 1) hx hb hr (by decide) (fun t ht hW => ⟨⟨1, 1, rfl, rfl, ⟨by rw [ht]; exact hI, hN.warm hW, va_K.moved hW.alike hK⟩, by first | (rw [ht]; exact hpost) | exact hpost⟩, hS.F ht⟩) hS.2.2 dX3_plain_162
                  · skip
                    try simp only [rg, not_and, Int.not_le] at hp
                    have hp6200 := hp
                    obtain ⟨pn6201, Ln6202, hE, k6203, hfl6204⟩ := hp6200
                    have hp6200 : True := trivial
                    have hRC6205 := hE
                    obtain ⟨hT4, hpT, ⟨w6206, hg6207, k6208⟩, ⟨w6209, hg6210, k6211⟩⟩ := RC.tk hRC6205
                    clear hRC6155 hg6157 hg6160 k6162
                    have k6212 := TK.at hTK hpT
                    refine lv_istore_n (lv' := [(3, .int 0), (4, .int 8), (2, .int v5995), (0, .ref h0), (1, .int x1)]) hx hb dX3_plain_140 rfl hl (by decide) rfl (fun ls hl => ?_)
                    refine lv_aload_n hx hb dX3_plain_141 rfl (lv_at hl 3 rfl) ?_
                    refine lv_iload hx hb dX3_plain_142 (lv_at hl 1 rfl) ?_
                    refine lv_iconst (v := 0) hx hb dX3_plain_144 (by decide) ?_
                    refine nx_i (As := [.int 8, .int 0]) (rest := []) (n := 2) (d := 0) ⟨hx, hb, hml, hown, hts⟩ (c_X3_emit l E D G h0 hG0 8 0 ft fp fn TT pn6201 nc Ln6202) wd_723 wd_725 wp_17 wd_5 wd_726 (by decide +kernel) ⟨by rw [hR]; show 0 + 1 ≤ 21 + 3 * k; omega, by rw [hR]; show 8 + (3 + 11) + 40 * (0) ≤ 40 * (21 + 3 * k); omega⟩ hI hN hK hS hG0 (hRC6205) rfl hl.1 rfl (Nat.le_of_ble_eq_true rfl) dX3_plain_145 ⟨Nat.zero_le _, Nat.zero_le _⟩ (fun r6213 H locs hI hp hS => ?_)
                    have hRC6214 := hp
                    obtain ⟨hT4, hpT, ⟨w6215, hg6216, k6217⟩, ⟨w6218, hg6219, k6220⟩⟩ := RC.tk hRC6214
                    clear hRC6205 hg6207 hg6210 k6212
                    have k6221 := TK.at hTK hpT
                    refine lv_pop hx hb dX3_plain_148 rfl ?_
                    refine lv_iload_n hx hb dX3_plain_149 rfl (lv_at hl 2 rfl) ?_
                    refine lv_if_eq (tgt := 161) hx hb dX3_plain_150 (by decide) (fun c6222 => ?_) (fun c6222 => ?_)
                    · skip
                      have k6223 := iv_eq (X := v5995.toInt) (Y := (0)) rfl (by decide) c6222
                      refine lv_iload_n hx hb dX3_plain_161 rfl (lv_at hl 0 rfl) ?_
                      have hpost : ((0 : Int32) = 1 ∧ ∃ p2 L2 : Nat, RC E D G h0 ft fp fn TT p2 nc L2 H ∧ pp + 1 ≤ p2 ∧ pd_R ZZ YY TT (4, fl, nk, L2) p2 = XX) ∨ ((0 : Int32) = 0 ∧ ∃ p2 L2 : Nat, RC E D G h0 ft fp fn TT p2 nc L2 H ∧ pp ≤ p2 ∧ XX = (p2, false)) := Or.inr ⟨rfl, pn6201, Ln6202, hRC6214, by omega, hfl6204⟩
                      rw [hQ]
                      exact W.zret (v := 0) hx hb hr (by decide) (fun t ht hW => ⟨⟨0, 0, rfl, rfl, ⟨by rw [ht]; exact hI, hN.warm hW, va_K.moved hW.alike hK⟩, by first | (rw [ht]; exact hpost) | exact hpost⟩, hS.F ht⟩) hS.2.2 dX3_plain_162
                    · skip
                      have k6224 := iv_ne (X := v5995.toInt) (Y := (0)) rfl (by decide) c6222
                      refine lv_aload_n hx hb dX3_plain_153 rfl (lv_at hl 3 rfl) ?_
                      refine lv_bipush (v := 10) hx hb dX3_plain_154 (by decide) ?_
                      refine lv_iconst (v := 0) hx hb dX3_plain_156 (by decide) ?_
                      refine nx_i (As := [.int 10, .int 0]) (rest := []) (n := 2) (d := 0) ⟨hx, hb, hml, hown, hts⟩ (c_X3_emit l E D G h0 hG0 10 0 ft fp fn TT pn6201 nc Ln6202) wd_723 wd_725 wp_17 wd_5 wd_726 (by decide +kernel) ⟨by rw [hR]; show 0 + 1 ≤ 21 + 3 * k; omega, by rw [hR]; show 8 + (3 + 11) + 40 * (0) ≤ 40 * (21 + 3 * k); omega⟩ hI hN hK hS hG0 (hRC6214) rfl hl.1 rfl (Nat.le_of_ble_eq_true rfl) dX3_plain_157 ⟨Nat.zero_le _, Nat.zero_le _⟩ (fun r6225 H locs hI hp hS => ?_)
                      have hRC6226 := hp
                      obtain ⟨hT4, hpT, ⟨w6227, hg6228, k6229⟩, ⟨w6230, hg6231, k6232⟩⟩ := RC.tk hRC6226
                      clear hRC6214 hg6216 hg6219 k6221
                      have k6233 := TK.at hTK hpT
                      refine lv_pop hx hb dX3_plain_160 rfl ?_
                      refine lv_iload_n hx hb dX3_plain_161 rfl (lv_at hl 0 rfl) ?_
                      have hpost : ((0 : Int32) = 1 ∧ ∃ p2 L2 : Nat, RC E D G h0 ft fp fn TT p2 nc L2 H ∧ pp + 1 ≤ p2 ∧ pd_R ZZ YY TT (4, fl, nk, L2) p2 = XX) ∨ ((0 : Int32) = 0 ∧ ∃ p2 L2 : Nat, RC E D G h0 ft fp fn TT p2 nc L2 H ∧ pp ≤ p2 ∧ XX = (p2, false)) := Or.inr ⟨rfl, pn6201, Ln6202, hRC6226, by omega, hfl6204⟩
                      rw [hQ]
                      exact W.zret (v := 0) hx hb hr (by decide) (fun t ht hW => ⟨⟨0, 0, rfl, rfl, ⟨by rw [ht]; exact hI, hN.warm hW, va_K.moved hW.alike hK⟩, by first | (rw [ht]; exact hpost) | exact hpost⟩, hS.F ht⟩) hS.2.2 dX3_plain_162
                · skip
                  have k6234 := iv_eq (X := (8)) (Y := (9)) (by decide) (by decide) c6145
                  exfalso; omega
            · skip
              have k6235 := iv_eq (X := w6029.toInt) (Y := (60)) rfl (by decide) c6039
              refine lv_bipush (v := 7) hx hb dX3_plain_80 (by decide) ?_
              refine lv_goto (tgt := 101) hx hb dX3_plain_82 (by decide) ?_
              refine lv_istore (lv' := [(4, .int 7), (3, .int 1), (2, .int v5995), (0, .ref h0), (1, .int x1)]) hx hb dX3_plain_101 hl (by decide) rfl (fun ls hl => ?_)
              refine lv_iload_n hx hb dX3_plain_103 rfl (lv_at hl 1 rfl) ?_
              refine lv_if_eq (tgt := 123) hx hb dX3_plain_104 (by decide) (fun c => absurd c (by decide)) (fun _ => ?_)
              refine lv_iload hx hb dX3_plain_107 (lv_at hl 0 rfl) ?_
              refine lv_bipush (v := 9) hx hb dX3_plain_109 (by decide) ?_
              refine lv_icmp_ne (tgt := 125) hx hb dX3_plain_111 (by decide) (fun c6236 => ?_) (fun c6236 => ?_)
              · skip
                have k6237 := iv_ne (X := (7)) (Y := (9)) (by decide) (by decide) c6236
                refine lv_aload_n hx hb dX3_plain_125 rfl (lv_at hl 3 rfl) ?_
                refine lv_aload_n hx hb dX3_plain_126 rfl (lv_at hl 3 rfl) ?_
                refine gmIC hx hb hts inT3 hown hK hI List.not_mem_nil hG0 10 (by decide) (hts _ (tb_c wd_139)) rfl rfl dX3_plain_127 (fun w6238 hg6239 k6240 k6241 => ?_)
                obtain rfl := gfC.uniq (by decide) hg6027 hg6239
                refine lv_iconst (v := 1) hx hb dX3_plain_130 (by decide) ?_
                refine lv_iadd hx hb dX3_plain_131 ?_
                refine lv_topi (fun v6242 e6243 => ?_)
                have tv6242 : v6242.toInt = w6026.toInt + (1) := iv_add rfl (by decide) e6243 (by omega) (by omega)
                have hpd6244 : pd_R ZZ YY TT (1, 2 :: fl, nk, Ln6021) (pn6020 + 1) = XX := (pd_A_cm (by omega) (by omega)).symm.trans hpd6023
                refine nx_v (As := [.int v6242]) (rest := []) (n := 1) (d := 0) ⟨hx, hb, hml, hown, hts⟩ (c_X3_moveTo l E D G h0 hG0 v6242 ft fp fn TT (pn6020 + 1) nc Ln6021 (by first | omega | decide) (by omega)) wd_707 wd_709 wp_13 wd_5 wd_710 (by decide +kernel) ⟨by rw [hR]; show 0 + 1 ≤ 21 + 3 * k; omega, by rw [hR]; show 8 + (2 + 11) + 40 * (0) ≤ 40 * (21 + 3 * k); omega⟩ hI hN hK hS hG0 ((RC.to0 hRC6025)) rfl hl.1 rfl (Nat.le_of_ble_eq_true rfl) dX3_plain_132 ⟨Nat.zero_le _, Nat.zero_le _⟩ (fun H locs hI hp hS => ?_)
                have hRC6246 := hp
                obtain ⟨hT4, hpT, ⟨w6247, hg6248, k6249⟩, ⟨w6250, hg6251, k6252⟩⟩ := RC.tk hRC6246
                clear hRC6025 hg6027 hg6030 k6032
                have k6253 := TK.at hTK hpT
                refine lv_aload_n hx hb dX3_plain_135 rfl (lv_at hl 3 rfl) ?_
                refine lv_iload_n hx hb dX3_plain_136 rfl (lv_at hl 4 rfl) ?_
                refine nx_i (As := [.int x1]) (rest := []) (n := 1) (d := 19) ⟨hx, hb, hml, hown, hts⟩ (c_X3_sum l E D G 8 h0 hG0 x1 ft fp fn TT (pn6020 + 1) nc Ln6021 ZZ YY nk XX hTK dd (by first | decide | omega) (by omega) (by omega) (2 :: fl) (by rw [pd_dp2, hdp]) hpd6244 (c_X3_part l E D G 8)) wd_715 wd_717 wp_15 wd_5 wd_718 (by decide +kernel) ⟨by rw [hR]; show 19 + 1 ≤ 21 + 3 * k; omega, by rw [hR]; show 8 + (7 + 11) + 40 * (19) ≤ 40 * (21 + 3 * k); omega⟩ hI hN hK hS hG0 (hRC6246) rfl hl.1 rfl (Nat.le_of_ble_eq_true rfl) dX3_plain_137 ⟨Nat.zero_le _, Nat.zero_le _⟩ (fun r6254 H locs hI hp hS => ?_)
                rcases hp with ⟨rfl, hp⟩ | ⟨rfl, hp⟩
                · skip
                  try simp only [rg, not_and, Int.not_le] at hp
                  have hp6255 := hp
                  obtain ⟨pn6256, Ln6257, hE, k6258, hpd6259, hno6260⟩ := hp6255
                  have hp6255 : True := trivial
                  have hRC6261 := hE
                  obtain ⟨hT4, hpT, ⟨w6262, hg6263, k6264⟩, ⟨w6265, hg6266, k6267⟩⟩ := RC.tk hRC6261
                  clear hRC6246 hg6248 hg6251 k6253
                  have k6268 := TK.at hTK hpT
                  have hpd6269 : pd_R ZZ YY TT (4, fl, nk, Ln6257) pn6256 = XX := (pd_A_rt (fun h9 => by unfold pd_op; unfold oc at hno6260; omega)).symm.trans hpd6259
                  refine lv_istore_n (lv' := [(3, .int 1), (4, .int 7), (2, .int v5995), (0, .ref h0), (1, .int x1)]) hx hb dX3_plain_140 rfl hl (by decide) rfl (fun ls hl => ?_)
                  refine lv_aload_n hx hb dX3_plain_141 rfl (lv_at hl 3 rfl) ?_
                  refine lv_iload hx hb dX3_plain_142 (lv_at hl 1 rfl) ?_
                  refine lv_iconst (v := 0) hx hb dX3_plain_144 (by decide) ?_
                  refine nx_i (As := [.int 7, .int 0]) (rest := []) (n := 2) (d := 0) ⟨hx, hb, hml, hown, hts⟩ (c_X3_emit l E D G h0 hG0 7 0 ft fp fn TT pn6256 nc Ln6257) wd_723 wd_725 wp_17 wd_5 wd_726 (by decide +kernel) ⟨by rw [hR]; show 0 + 1 ≤ 21 + 3 * k; omega, by rw [hR]; show 8 + (3 + 11) + 40 * (0) ≤ 40 * (21 + 3 * k); omega⟩ hI hN hK hS hG0 (hRC6261) rfl hl.1 rfl (Nat.le_of_ble_eq_true rfl) dX3_plain_145 ⟨Nat.zero_le _, Nat.zero_le _⟩ (fun r6270 H locs hI hp hS => ?_)
                  have hRC6271 := hp
                  obtain ⟨hT4, hpT, ⟨w6272, hg6273, k6274⟩, ⟨w6275, hg6276, k6277⟩⟩ := RC.tk hRC6271
                  clear hRC6261 hg6263 hg6266 k6268
                  have k6278 := TK.at hTK hpT
                  refine lv_pop hx hb dX3_plain_148 rfl ?_
                  refine lv_iload_n hx hb dX3_plain_149 rfl (lv_at hl 2 rfl) ?_
                  refine lv_if_eq (tgt := 161) hx hb dX3_plain_150 (by decide) (fun c6279 => ?_) (fun c6279 => ?_)
                  · skip
                    have k6280 := iv_eq (X := v5995.toInt) (Y := (0)) rfl (by decide) c6279
                    refine lv_iload_n hx hb dX3_plain_161 rfl (lv_at hl 0 rfl) ?_
                    have hpost : ((1 : Int32) = 1 ∧ ∃ p2 L2 : Nat, RC E D G h0 ft fp fn TT p2 nc L2 H ∧ pp + 1 ≤ p2 ∧ pd_R ZZ YY TT (4, fl, nk, L2) p2 = XX) ∨ ((1 : Int32) = 0 ∧ ∃ p2 L2 : Nat, RC E D G h0 ft fp fn TT p2 nc L2 H ∧ pp ≤ p2 ∧ XX = (p2, false)) := Or.inl ⟨rfl, pn6256, Ln6257, hRC6271, by omega, hpd6269⟩
                    rw [hQ]
                    exact W.zret (v := 1) hx hb hr (by decide) (fun t ht hW => ⟨⟨1, 1, rfl, rfl, ⟨by rw [ht]; exact hI, hN.warm hW, va_K.moved hW.alike hK⟩, by first | (rw [ht]; exact hpost) | exact hpost⟩, hS.F ht⟩) hS.2.2 dX3_plain_162
                  · skip
                    have k6281 := iv_ne (X := v5995.toInt) (Y := (0)) rfl (by decide) c6279
                    refine lv_aload_n hx hb dX3_plain_153 rfl (lv_at hl 3 rfl) ?_
                    refine lv_bipush (v := 10) hx hb dX3_plain_154 (by decide) ?_
                    refine lv_iconst (v := 0) hx hb dX3_plain_156 (by decide) ?_
                    refine nx_i (As := [.int 10, .int 0]) (rest := []) (n := 2) (d := 0) ⟨hx, hb, hml, hown, hts⟩ (c_X3_emit l E D G h0 hG0 10 0 ft fp fn TT pn6256 nc Ln6257) wd_723 wd_725 wp_17 wd_5 wd_726 (by decide +kernel) ⟨by rw [hR]; show 0 + 1 ≤ 21 + 3 * k; omega, by rw [hR]; show 8 + (3 + 11) + 40 * (0) ≤ 40 * (21 + 3 * k); omega⟩ hI hN hK hS hG0 (hRC6271) rfl hl.1 rfl (Nat.le_of_ble_eq_true rfl) dX3_plain_157 ⟨Nat.zero_le _, Nat.zero_le _⟩ (fun r6282 H locs hI hp hS => ?_)
                    have hRC6283 := hp
                    obtain ⟨hT4, hpT, ⟨w6284, hg6285, k6286⟩, ⟨w6287, hg6288, k6289⟩⟩ := RC.tk hRC6283
                    clear hRC6271 hg6273 hg6276 k6278
                    have k6290 := TK.at hTK hpT
                    refine lv_pop hx hb dX3_plain_160 rfl ?_
                    refine lv_iload_n hx hb dX3_plain_161 rfl (lv_at hl 0 rfl) ?_
                    have hpost : ((1 : Int32) = 1 ∧ ∃ p2 L2 : Nat, RC E D G h0 ft fp fn TT p2 nc L2 H ∧ pp + 1 ≤ p2 ∧ pd_R ZZ YY TT (4, fl, nk, L2) p2 = XX) ∨ ((1 : Int32) = 0 ∧ ∃ p2 L2 : Nat, RC E D G h0 ft fp fn TT p2 nc L2 H ∧ pp ≤ p2 ∧ XX = (p2, false)) := Or.inl ⟨rfl, pn6256, Ln6257, hRC6283, by omega, hpd6269⟩
                    rw [hQ]
                    exact W.zret (v := 1) hx hb hr (by decide) (fun t ht hW => ⟨⟨1, 1, rfl, rfl, ⟨by rw [ht]; exact hI, hN.warm hW, va_K.moved hW.alike hK⟩, by first | (rw [ht]; exact hpost) | exact hpost⟩, hS.F ht⟩) hS.2.2 dX3_plain_162
                · skip
                  try simp only [rg, not_and, Int.not_le] at hp
                  have hp6291 := hp
                  obtain ⟨pn6292, Ln6293, hE, k6294, hfl6295⟩ := hp6291
                  have hp6291 : True := trivial
                  have hRC6296 := hE
                  obtain ⟨hT4, hpT, ⟨w6297, hg6298, k6299⟩, ⟨w6300, hg6301, k6302⟩⟩ := RC.tk hRC6296
                  clear hRC6246 hg6248 hg6251 k6253
                  have k6303 := TK.at hTK hpT
                  refine lv_istore_n (lv' := [(3, .int 0), (4, .int 7), (2, .int v5995), (0, .ref h0), (1, .int x1)]) hx hb dX3_plain_140 rfl hl (by decide) rfl (fun ls hl => ?_)
                  refine lv_aload_n hx hb dX3_plain_141 rfl (lv_at hl 3 rfl) ?_
                  refine lv_iload hx hb dX3_plain_142 (lv_at hl 1 rfl) ?_
                  refine lv_iconst (v := 0) hx hb dX3_plain_144 (by decide) ?_
                  refine nx_i (As := [.int 7, .int 0]) (rest := []) (n := 2) (d := 0) ⟨hx, hb, hml, hown, hts⟩ (c_X3_emit l E D G h0 hG0 7 0 ft fp fn TT pn6292 nc Ln6293) wd_723 wd_725 wp_17 wd_5 wd_726 (by decide +kernel) ⟨by rw [hR]; show 0 + 1 ≤ 21 + 3 * k; omega, by rw [hR]; show 8 + (3 + 11) + 40 * (0) ≤ 40 * (21 + 3 * k); omega⟩ hI hN hK hS hG0 (hRC6296) rfl hl.1 rfl (Nat.le_of_ble_eq_true rfl) dX3_plain_145 ⟨Nat.zero_le _, Nat.zero_le _⟩ (fun r6304 H locs hI hp hS => ?_)
                  have hRC6305 := hp
                  obtain ⟨hT4, hpT, ⟨w6306, hg6307, k6308⟩, ⟨w6309, hg6310, k6311⟩⟩ := RC.tk hRC6305
                  clear hRC6296 hg6298 hg6301 k6303
                  have k6312 := TK.at hTK hpT
                  refine lv_pop hx hb dX3_plain_148 rfl ?_
                  refine lv_iload_n hx hb dX3_plain_149 rfl (lv_at hl 2 rfl) ?_
                  refine lv_if_eq (tgt := 161) hx hb dX3_plain_150 (by decide) (fun c6313 => ?_) (fun c6313 => ?_)
                  · skip
                    have k6314 := iv_eq (X := v5995.toInt) (Y := (0)) rfl (by decide) c6313
                    refine lv_iload_n hx hb dX3_plain_161 rfl (lv_at hl 0 rfl) ?_
                    have hpost : ((0 : Int32) = 1 ∧ ∃ p2 L2 : Nat, RC E D G h0 ft fp fn TT p2 nc L2 H ∧ pp + 1 ≤ p2 ∧ pd_R ZZ YY TT (4, fl, nk, L2) p2 = XX) ∨ ((0 : Int32) = 0 ∧ ∃ p2 L2 : Nat, RC E D G h0 ft fp fn TT p2 nc L2 H ∧ pp ≤ p2 ∧ XX = (p2, false)) := Or.inr ⟨rfl, pn6292, Ln6293, hRC6305, by omega, hfl6295⟩
                    rw [hQ]
                    exact W.zret (v := 0) hx hb hr (by decide) (fun t ht hW => ⟨⟨0, 0, rfl, rfl, ⟨by rw [ht]; exact hI, hN.warm hW, va_K.moved hW.alike hK⟩, by first | (rw [ht]; exact hpost) | exact hpost⟩, hS.F ht⟩) hS.2.2 dX3_plain_162
                  · skip
                    have k6315 := iv_ne (X := v5995.toInt) (Y := (0)) rfl (by decide) c6313
                    refine lv_aload_n hx hb dX3_plain_153 rfl (lv_at hl 3 rfl) ?_
                    refine lv_bipush (v := 10) hx hb dX3_plain_154 (by decide) ?_
                    refine lv_iconst (v := 0) hx hb dX3_plain_156 (by decide) ?_
                    refine nx_i (As := [.int 10, .int 0]) (rest := []) (n := 2) (d := 0) ⟨hx, hb, hml, hown, hts⟩ (c_X3_emit l E D G h0 hG0 10 0 ft fp fn TT pn6292 nc Ln6293) wd_723 wd_725 wp_17 wd_5 wd_726 (by decide +kernel) ⟨by rw [hR]; show 0 + 1 ≤ 21 + 3 * k; omega, by rw [hR]; show 8 + (3 + 11) + 40 * (0) ≤ 40 * (21 + 3 * k); omega⟩ hI hN hK hS hG0 (hRC6305) rfl hl.1 rfl (Nat.le_of_ble_eq_true rfl) dX3_plain_157 ⟨Nat.zero_le _, Nat.zero_le _⟩ (fun r6316 H locs hI hp hS => ?_)
                    have hRC6317 := hp
                    obtain ⟨hT4, hpT, ⟨w6318, hg6319, k6320⟩, ⟨w6321, hg6322, k6323⟩⟩ := RC.tk hRC6317
                    clear hRC6305 hg6307 hg6310 k6312
                    have k6324 := TK.at hTK hpT
                    refine lv_pop hx hb dX3_plain_160 rfl ?_
                    refine lv_iload_n hx hb dX3_plain_161 rfl (lv_at hl 0 rfl) ?_
                    have hpost : ((0 : Int32) = 1 ∧ ∃ p2 L2 : Nat, RC E D G h0 ft fp fn TT p2 nc L2 H ∧ pp + 1 ≤ p2 ∧ pd_R ZZ YY TT (4, fl, nk, L2) p2 = XX) ∨ ((0 : Int32) = 0 ∧ ∃ p2 L2 : Nat, RC E D G h0 ft fp fn TT p2 nc L2 H ∧ pp ≤ p2 ∧ XX = (p2, false)) := Or.inr ⟨rfl, pn6292, Ln6293, hRC6317, by omega, hfl6295⟩
                    rw [hQ]
                    exact W.zret (v := 0) hx hb hr (by decide) (fun t ht hW => ⟨⟨0, 0, rfl, rfl, ⟨by rw [ht]; exact hI, hN.warm hW, va_K.moved hW.alike hK⟩, by first | (rw [ht]; exact hpost) | exact hpost⟩, hS.F ht⟩) hS.2.2 dX3_plain_162
              · skip
                have k6325 := iv_eq (X := (7)) (Y := (9)) (by decide) (by decide) c6236
                exfalso; omega
          · skip
            try simp only [rg, not_and, Int.not_le] at hp
            have hp6326 := hp
            obtain ⟨pn6327, Ln6328, hE, k6329, hfl6330⟩ := hp6326
            have hp6326 : True := trivial
            have hRC6331 := hE
            obtain ⟨hT4, hpT, ⟨w6332, hg6333, k6334⟩, ⟨w6335, hg6336, k6337⟩⟩ := RC.tk hRC6331
            clear hRC5999 hg6001 hg6004 k6006
            have k6338 := TK.at hTK hpT
            refine lv_istore_n (lv' := [(3, .int 0), (2, .int v5995), (0, .ref h0), (1, .int x1)]) hx hb dX3_plain_70 rfl hl (by decide) rfl (fun ls hl => ?_)
            refine lv_aload_n hx hb dX3_plain_71 rfl (lv_at hl 2 rfl) ?_
            refine gmIC hx hb hts inT3 hown hK hI List.not_mem_nil hG0 11 (by decide) (hts _ (tb_c wd_140)) rfl rfl dX3_plain_72 (fun w6339 hg6340 k6341 k6342 => ?_)
            obtain rfl := gfC.uniq (by decide) hg6336 hg6340
            refine lv_bipush (v := 60) hx hb dX3_plain_75 (by decide) ?_
            have k6343 := iv_lo w6335
            have k6344 := iv_hi w6335
            refine lv_icmp_ne (tgt := 85) hx hb dX3_plain_77 (by decide) (fun c6345 => ?_) (fun c6345 => ?_)
            · skip
              have k6346 := iv_ne (X := w6335.toInt) (Y := (60)) rfl (by decide) c6345
              refine lv_aload_n hx hb dX3_plain_85 rfl (lv_at hl 2 rfl) ?_
              refine gmIC hx hb hts inT3 hown hK hI List.not_mem_nil hG0 11 (by decide) (hts _ (tb_c wd_140)) rfl rfl dX3_plain_86 (fun w6347 hg6348 k6349 k6350 => ?_)
              obtain rfl := gfC.uniq (by decide) hg6336 hg6348
              refine lv_bipush (v := 62) hx hb dX3_plain_89 (by decide) ?_
              refine lv_icmp_ne (tgt := 99) hx hb dX3_plain_91 (by decide) (fun c6351 => ?_) (fun c6351 => ?_)
              · skip
                have k6352 := iv_ne (X := w6335.toInt) (Y := (62)) rfl (by decide) c6351
                refine lv_bipush (v := 9) hx hb dX3_plain_99 (by decide) ?_
                refine lv_istore (lv' := [(4, .int 9), (3, .int 0), (2, .int v5995), (0, .ref h0), (1, .int x1)]) hx hb dX3_plain_101 hl (by decide) rfl (fun ls hl => ?_)
                refine lv_iload_n hx hb dX3_plain_103 rfl (lv_at hl 1 rfl) ?_
                refine lv_if_eq (tgt := 123) hx hb dX3_plain_104 (by decide) (fun _ => ?_) (fun c => absurd c (by decide))
                refine lv_iconst (v := 0) hx hb dX3_plain_123 (by decide) ?_
                have hpost : ((0 : Int32) = 1 ∧ ∃ p2 L2 : Nat, RC E D G h0 ft fp fn TT p2 nc L2 H ∧ pp + 1 ≤ p2 ∧ pd_R ZZ YY TT (4, fl, nk, L2) p2 = XX) ∨ ((0 : Int32) = 0 ∧ ∃ p2 L2 : Nat, RC E D G h0 ft fp fn TT p2 nc L2 H ∧ pp ≤ p2 ∧ XX = (p2, false)) := Or.inr ⟨rfl, pn6327, Ln6328, hRC6331, by omega, hfl6330⟩
                rw [hQ]
                exact W.zret (v := 0) hx hb hr (by decide) (fun t ht hW => ⟨⟨0, 0, rfl, rfl, ⟨by rw [ht]; exact hI, hN.warm hW, va_K.moved hW.alike hK⟩, by first | (rw [ht]; exact hpost) | exact hpost⟩, hS.F ht⟩) hS.2.2 dX3_plain_124
              · skip
                have k6353 := iv_eq (X := w6335.toInt) (Y := (62)) rfl (by decide) c6351
                refine lv_bipush (v := 8) hx hb dX3_plain_94 (by decide) ?_
                refine lv_goto (tgt := 101) hx hb dX3_plain_96 (by decide) ?_
                refine lv_istore (lv' := [(4, .int 8), (3, .int 0), (2, .int v5995), (0, .ref h0), (1, .int x1)]) hx hb dX3_plain_101 hl (by decide) rfl (fun ls hl => ?_)
                refine lv_iload_n hx hb dX3_plain_103 rfl (lv_at hl 1 rfl) ?_
                refine lv_if_eq (tgt := 123) hx hb dX3_plain_104 (by decide) (fun _ => ?_) (fun c => absurd c (by decide))
                refine lv_iconst (v := 0) hx hb dX3_plain_123 (by decide) ?_
                have hpost : ((0 : Int32) = 1 ∧ ∃ p2 L2 : Nat, RC E D G h0 ft fp fn TT p2 nc L2 H ∧ pp + 1 ≤ p2 ∧ pd_R ZZ YY TT (4, fl, nk, L2) p2 = XX) ∨ ((0 : Int32) = 0 ∧ ∃ p2 L2 : Nat, RC E D G h0 ft fp fn TT p2 nc L2 H ∧ pp ≤ p2 ∧ XX = (p2, false)) := Or.inr ⟨rfl, pn6327, Ln6328, hRC6331, by omega, hfl6330⟩
                rw [hQ]
                exact W.zret (v := 0) hx hb hr (by decide) (fun t ht hW => ⟨⟨0, 0, rfl, rfl, ⟨by rw [ht]; exact hI, hN.warm hW, va_K.moved hW.alike hK⟩, by first | (rw [ht]; exact hpost) | exact hpost⟩, hS.F ht⟩) hS.2.2 dX3_plain_124
            · skip
              have k6354 := iv_eq (X := w6335.toInt) (Y := (60)) rfl (by decide) c6345
              refine lv_bipush (v := 7) hx hb dX3_plain_80 (by decide) ?_
              refine lv_goto (tgt := 101) hx hb dX3_plain_82 (by decide) ?_
              refine lv_istore (lv' := [(4, .int 7), (3, .int 0), (2, .int v5995), (0, .ref h0), (1, .int x1)]) hx hb dX3_plain_101 hl (by decide) rfl (fun ls hl => ?_)
              refine lv_iload_n hx hb dX3_plain_103 rfl (lv_at hl 1 rfl) ?_
              refine lv_if_eq (tgt := 123) hx hb dX3_plain_104 (by decide) (fun _ => ?_) (fun c => absurd c (by decide))
              refine lv_iconst (v := 0) hx hb dX3_plain_123 (by decide) ?_
              have hpost : ((0 : Int32) = 1 ∧ ∃ p2 L2 : Nat, RC E D G h0 ft fp fn TT p2 nc L2 H ∧ pp + 1 ≤ p2 ∧ pd_R ZZ YY TT (4, fl, nk, L2) p2 = XX) ∨ ((0 : Int32) = 0 ∧ ∃ p2 L2 : Nat, RC E D G h0 ft fp fn TT p2 nc L2 H ∧ pp ≤ p2 ∧ XX = (p2, false)) := Or.inr ⟨rfl, pn6327, Ln6328, hRC6331, by omega, hfl6330⟩
              rw [hQ]
              exact W.zret (v := 0) hx hb hr (by decide) (fun t ht hW => ⟨⟨0, 0, rfl, rfl, ⟨by rw [ht]; exact hI, hN.warm hW, va_K.moved hW.alike hK⟩, by first | (rw [ht]; exact hpost) | exact hpost⟩, hS.F ht⟩) hS.2.2 dX3_plain_124
        · skip
          have k6355 := iv_eq (X := w6003.toInt) (Y := (40)) rfl (by decide) c6015
          refine lv_aload_n hx hb dX3_plain_56 rfl (lv_at hl 2 rfl) ?_
          refine lv_iload_n hx hb dX3_plain_57 rfl (lv_at hl 3 rfl) ?_
          refine nx_i (As := [.int x1]) (rest := []) (n := 1) (d := (20 + 3 * k)) ⟨hx, hb, hml, hown, hts⟩ (henc h0 hG0 x1 ft fp fn TT p1 nc LL ZZ YY nk XX hTK dd (by first | decide | omega) (by omega) (by omega) fl hdp hpi (by omega)) wd_739 wd_741 wp_21 wd_5 wd_742 (by decide +kernel) ⟨by rw [hR]; show (20 + 3 * k) + 1 ≤ 21 + 3 * k; omega, by rw [hR]; show 8 + (3 + 11) + 40 * ((20 + 3 * k)) ≤ 40 * (21 + 3 * k); omega⟩ hI hN hK hS hG0 (hRC5999) rfl hl.1 rfl (Nat.le_of_ble_eq_true rfl) dX3_plain_58 ⟨Nat.zero_le _, Nat.zero_le _⟩ (fun r6356 H locs hI hp hS => ?_)
          rcases hp with ⟨rfl, hp⟩ | ⟨rfl, hp⟩
          · skip
            try simp only [rg, not_and, Int.not_le] at hp
            have hp6357 := hp
            obtain ⟨pn6358, Ln6359, hE, k6360, hpd6361⟩ := hp6357
            have hp6357 : True := trivial
            have hRC6362 := hE
            obtain ⟨hT4, hpT, ⟨w6363, hg6364, k6365⟩, ⟨w6366, hg6367, k6368⟩⟩ := RC.tk hRC6362
            clear hRC5999 hg6001 hg6004 k6006
            have k6369 := TK.at hTK hpT
            refine lv_istore_n (lv' := [(3, .int 1), (2, .int v5995), (0, .ref h0), (1, .int x1)]) hx hb dX3_plain_61 rfl hl (by decide) rfl (fun ls hl => ?_)
            refine lv_goto (tgt := 149) hx hb dX3_plain_62 (by decide) ?_
            refine lv_iload_n hx hb dX3_plain_149 rfl (lv_at hl 1 rfl) ?_
            refine lv_if_eq (tgt := 161) hx hb dX3_plain_150 (by decide) (fun c6370 => ?_) (fun c6370 => ?_)
            · skip
              have k6371 := iv_eq (X := v5995.toInt) (Y := (0)) rfl (by decide) c6370
              refine lv_iload_n hx hb dX3_plain_161 rfl (lv_at hl 0 rfl) ?_
              have hpost : ((1 : Int32) = 1 ∧ ∃ p2 L2 : Nat, RC E D G h0 ft fp fn TT p2 nc L2 H ∧ pp + 1 ≤ p2 ∧ pd_R ZZ YY TT (4, fl, nk, L2) p2 = XX) ∨ ((1 : Int32) = 0 ∧ ∃ p2 L2 : Nat, RC E D G h0 ft fp fn TT p2 nc L2 H ∧ pp ≤ p2 ∧ XX = (p2, false)) := Or.inl ⟨rfl, pn6358, Ln6359, hRC6362, by omega, hpd6361⟩
              rw [hQ]
              exact W.zret (v := 1) hx hb hr (by decide) (fun t ht hW => ⟨⟨1, 1, rfl, rfl, ⟨by rw [ht]; exact hI, hN.warm hW, va_K.moved hW.alike hK⟩, by first | (rw [ht]; exact hpost) | exact hpost⟩, hS.F ht⟩) hS.2.2 dX3_plain_162
            · skip
              have k6372 := iv_ne (X := v5995.toInt) (Y := (0)) rfl (by decide) c6370
              refine lv_aload_n hx hb dX3_plain_153 rfl (lv_at hl 2 rfl) ?_
              refine lv_bipush (v := 10) hx hb dX3_plain_154 (by decide) ?_
              refine lv_iconst (v := 0) hx hb dX3_plain_156 (by decide) ?_
              refine nx_i (As := [.int 10, .int 0]) (rest := []) (n := 2) (d := 0) ⟨hx, hb, hml, hown, hts⟩ (c_X3_emit l E D G h0 hG0 10 0 ft fp fn TT pn6358 nc Ln6359) wd_723 wd_725 wp_17 wd_5 wd_726 (by decide +kernel) ⟨by rw [hR]; show 0 + 1 ≤ 21 + 3 * k; omega, by rw [hR]; show 8 + (3 + 11) + 40 * (0) ≤ 40 * (21 + 3 * k); omega⟩ hI hN hK hS hG0 (hRC6362) rfl hl.1 rfl (Nat.le_of_ble_eq_true rfl) dX3_plain_157 ⟨Nat.zero_le _, Nat.zero_le _⟩ (fun r6373 H locs hI hp hS => ?_)
              have hRC6374 := hp
              obtain ⟨hT4, hpT, ⟨w6375, hg6376, k6377⟩, ⟨w6378, hg6379, k6380⟩⟩ := RC.tk hRC6374
              clear hRC6362 hg6364 hg6367 k6369
              have k6381 := TK.at hTK hpT
              refine lv_pop hx hb dX3_plain_160 rfl ?_
              refine lv_iload_n hx hb dX3_plain_161 rfl (lv_at hl 0 rfl) ?_
              have hpost : ((1 : Int32) = 1 ∧ ∃ p2 L2 : Nat, RC E D G h0 ft fp fn TT p2 nc L2 H ∧ pp + 1 ≤ p2 ∧ pd_R ZZ YY TT (4, fl, nk, L2) p2 = XX) ∨ ((1 : Int32) = 0 ∧ ∃ p2 L2 : Nat, RC E D G h0 ft fp fn TT p2 nc L2 H ∧ pp ≤ p2 ∧ XX = (p2, false)) := Or.inl ⟨rfl, pn6358, Ln6359, hRC6374, by omega, hpd6361⟩
              rw [hQ]
              exact W.zret (v := 1) hx hb hr (by decide) (fun t ht hW => ⟨⟨1, 1, rfl, rfl, ⟨by rw [ht]; exact hI, hN.warm hW, va_K.moved hW.alike hK⟩, by first | (rw [ht]; exact hpost) | exact hpost⟩, hS.F ht⟩) hS.2.2 dX3_plain_162
          · skip
            try simp only [rg, not_and, Int.not_le] at hp
            have hp6382 := hp
            obtain ⟨pn6383, Ln6384, hE, k6385, hfl6386⟩ := hp6382
            have hp6382 : True := trivial
            have hRC6387 := hE
            obtain ⟨hT4, hpT, ⟨w6388, hg6389, k6390⟩, ⟨w6391, hg6392, k6393⟩⟩ := RC.tk hRC6387
            clear hRC5999 hg6001 hg6004 k6006
            have k6394 := TK.at hTK hpT
            refine lv_istore_n (lv' := [(3, .int 0), (2, .int v5995), (0, .ref h0), (1, .int x1)]) hx hb dX3_plain_61 rfl hl (by decide) rfl (fun ls hl => ?_)
            refine lv_goto (tgt := 149) hx hb dX3_plain_62 (by decide) ?_
            refine lv_iload_n hx hb dX3_plain_149 rfl (lv_at hl 1 rfl) ?_
            refine lv_if_eq (tgt := 161) hx hb dX3_plain_150 (by decide) (fun c6395 => ?_) (fun c6395 => ?_)
            · skip
              have k6396 := iv_eq (X := v5995.toInt) (Y := (0)) rfl (by decide) c6395
              refine lv_iload_n hx hb dX3_plain_161 rfl (lv_at hl 0 rfl) ?_
              have hpost : ((0 : Int32) = 1 ∧ ∃ p2 L2 : Nat, RC E D G h0 ft fp fn TT p2 nc L2 H ∧ pp + 1 ≤ p2 ∧ pd_R ZZ YY TT (4, fl, nk, L2) p2 = XX) ∨ ((0 : Int32) = 0 ∧ ∃ p2 L2 : Nat, RC E D G h0 ft fp fn TT p2 nc L2 H ∧ pp ≤ p2 ∧ XX = (p2, false)) := Or.inr ⟨rfl, pn6383, Ln6384, hRC6387, by omega, hfl6386⟩
              rw [hQ]
              exact W.zret (v := 0) hx hb hr (by decide) (fun t ht hW => ⟨⟨0, 0, rfl, rfl, ⟨by rw [ht]; exact hI, hN.warm hW, va_K.moved hW.alike hK⟩, by first | (rw [ht]; exact hpost) | exact hpost⟩, hS.F ht⟩) hS.2.2 dX3_plain_162
            · skip
              have k6397 := iv_ne (X := v5995.toInt) (Y := (0)) rfl (by decide) c6395
              refine lv_aload_n hx hb dX3_plain_153 rfl (lv_at hl 2 rfl) ?_
              refine lv_bipush (v := 10) hx hb dX3_plain_154 (by decide) ?_
              refine lv_iconst (v := 0) hx hb dX3_plain_156 (by decide) ?_
              refine nx_i (As := [.int 10, .int 0]) (rest := []) (n := 2) (d := 0) ⟨hx, hb, hml, hown, hts⟩ (c_X3_emit l E D G h0 hG0 10 0 ft fp fn TT pn6383 nc Ln6384) wd_723 wd_725 wp_17 wd_5 wd_726 (by decide +kernel) ⟨by rw [hR]; show 0 + 1 ≤ 21 + 3 * k; omega, by rw [hR]; show 8 + (3 + 11) + 40 * (0) ≤ 40 * (21 + 3 * k); omega⟩ hI hN hK hS hG0 (hRC6387) rfl hl.1 rfl (Nat.le_of_ble_eq_true rfl) dX3_plain_157 ⟨Nat.zero_le _, Nat.zero_le _⟩ (fun r6398 H locs hI hp hS => ?_)
              have hRC6399 := hp
              obtain ⟨hT4, hpT, ⟨w6400, hg6401, k6402⟩, ⟨w6403, hg6404, k6405⟩⟩ := RC.tk hRC6399
              clear hRC6387 hg6389 hg6392 k6394
              have k6406 := TK.at hTK hpT
              refine lv_pop hx hb dX3_plain_160 rfl ?_
              refine lv_iload_n hx hb dX3_plain_161 rfl (lv_at hl 0 rfl) ?_
              have hpost : ((0 : Int32) = 1 ∧ ∃ p2 L2 : Nat, RC E D G h0 ft fp fn TT p2 nc L2 H ∧ pp + 1 ≤ p2 ∧ pd_R ZZ YY TT (4, fl, nk, L2) p2 = XX) ∨ ((0 : Int32) = 0 ∧ ∃ p2 L2 : Nat, RC E D G h0 ft fp fn TT p2 nc L2 H ∧ pp ≤ p2 ∧ XX = (p2, false)) := Or.inr ⟨rfl, pn6383, Ln6384, hRC6399, by omega, hfl6386⟩
              rw [hQ]
              exact W.zret (v := 0) hx hb hr (by decide) (fun t ht hW => ⟨⟨0, 0, rfl, rfl, ⟨by rw [ht]; exact hI, hN.warm hW, va_K.moved hW.alike hK⟩, by first | (rw [ht]; exact hpost) | exact hpost⟩, hS.F ht⟩) hS.2.2 dX3_plain_162
      · skip
        have k6407 := iv_nle (X := (400)) (Y := v5994.toInt) (by decide) rfl c6007
        refine lv_aload_n hx hb dX3_plain_11 rfl (lv_at hl 2 rfl) ?_
        refine gmIC hx hb hts inT3 hown hK hI List.not_mem_nil hG0 11 (by decide) (hts _ (tb_c wd_140)) rfl rfl dX3_plain_12 (fun w6408 hg6409 k6410 k6411 => ?_)
        obtain rfl := gfC.uniq (by decide) hg6004 hg6409
        refine lv_sipush (v := 263) hx hb dX3_plain_15 (by decide) ?_
        have k6412 := iv_lo w6003
        have k6413 := iv_hi w6003
        refine lv_icmp_ne (tgt := 47) hx hb dX3_plain_18 (by decide) (fun c6414 => ?_) (fun c6414 => ?_)
        · skip
          have k6415 := iv_ne (X := w6003.toInt) (Y := (263)) rfl (by decide) c6414
          refine lv_aload_n hx hb dX3_plain_47 rfl (lv_at hl 2 rfl) ?_
          refine gmIC hx hb hts inT3 hown hK hI List.not_mem_nil hG0 11 (by decide) (hts _ (tb_c wd_140)) rfl rfl dX3_plain_48 (fun w6416 hg6417 k6418 k6419 => ?_)
          obtain rfl := gfC.uniq (by decide) hg6004 hg6417
          refine lv_bipush (v := 40) hx hb dX3_plain_51 (by decide) ?_
          refine lv_icmp_ne (tgt := 65) hx hb dX3_plain_53 (by decide) (fun c6420 => ?_) (fun c6420 => ?_)
          · skip
            have k6421 := iv_ne (X := w6003.toInt) (Y := (40)) rfl (by decide) c6420
            refine lv_aload_n hx hb dX3_plain_65 rfl (lv_at hl 2 rfl) ?_
            refine lv_iload_n hx hb dX3_plain_66 rfl (lv_at hl 3 rfl) ?_
            have hpd6422 : pd_R ZZ YY TT (1, 1 :: fl, nk, LL) p1 = XX := (pd_Q_E (fun h9 => ⟨by omega, by omega⟩)).symm.trans hpi
            refine nx_i (As := [.int x1]) (rest := []) (n := 1) (d := 19) ⟨hx, hb, hml, hown, hts⟩ (c_X3_sum l E D G 8 h0 hG0 x1 ft fp fn TT p1 nc LL ZZ YY nk XX hTK dd (by first | decide | omega) (by omega) (by omega) (1 :: fl) (by rw [pd_dp1, hdp]) hpd6422 (c_X3_part l E D G 8)) wd_715 wd_717 wp_15 wd_5 wd_718 (by decide +kernel) ⟨by rw [hR]; show 19 + 1 ≤ 21 + 3 * k; omega, by rw [hR]; show 8 + (7 + 11) + 40 * (19) ≤ 40 * (21 + 3 * k); omega⟩ hI hN hK hS hG0 (hRC5999) rfl hl.1 rfl (Nat.le_of_ble_eq_true rfl) dX3_plain_67 ⟨Nat.zero_le _, Nat.zero_le _⟩ (fun r6423 H locs hI hp hS => ?_)
            rcases hp with ⟨rfl, hp⟩ | ⟨rfl, hp⟩
            · skip
              try simp only [rg, not_and, Int.not_le] at hp
              have hp6424 := hp
              obtain ⟨pn6425, Ln6426, hE, k6427, hpd6428, hno6429⟩ := hp6424
              have hp6424 : True := trivial
              have hRC6430 := hE
              obtain ⟨hT4, hpT, ⟨w6431, hg6432, k6433⟩, ⟨w6434, hg6435, k6436⟩⟩ := RC.tk hRC6430
              clear hRC5999 hg6001 hg6004 k6006
              have k6437 := TK.at hTK hpT
              refine lv_istore_n (lv' := [(3, .int 1), (2, .int v5995), (0, .ref h0), (1, .int x1)]) hx hb dX3_plain_70 rfl hl (by decide) rfl (fun ls hl => ?_)
              refine lv_aload_n hx hb dX3_plain_71 rfl (lv_at hl 2 rfl) ?_
              refine gmIC hx hb hts inT3 hown hK hI List.not_mem_nil hG0 11 (by decide) (hts _ (tb_c wd_140)) rfl rfl dX3_plain_72 (fun w6438 hg6439 k6440 k6441 => ?_)
              obtain rfl := gfC.uniq (by decide) hg6435 hg6439
              refine lv_bipush (v := 60) hx hb dX3_plain_75 (by decide) ?_
              have k6442 := iv_lo w6434
              have k6443 := iv_hi w6434
              refine lv_icmp_ne (tgt := 85) hx hb dX3_plain_77 (by decide) (fun c6444 => ?_) (fun c6444 => ?_)
              · skip
                have k6445 := iv_ne (X := w6434.toInt) (Y := (60)) rfl (by decide) c6444
                refine lv_aload_n hx hb dX3_plain_85 rfl (lv_at hl 2 rfl) ?_
                refine gmIC hx hb hts inT3 hown hK hI List.not_mem_nil hG0 11 (by decide) (hts _ (tb_c wd_140)) rfl rfl dX3_plain_86 (fun w6446 hg6447 k6448 k6449 => ?_)
                obtain rfl := gfC.uniq (by decide) hg6435 hg6447
                refine lv_bipush (v := 62) hx hb dX3_plain_89 (by decide) ?_
                refine lv_icmp_ne (tgt := 99) hx hb dX3_plain_91 (by decide) (fun c6450 => ?_) (fun c6450 => ?_)
                · skip
                  have k6451 := iv_ne (X := w6434.toInt) (Y := (62)) rfl (by decide) c6450
                  refine lv_bipush (v := 9) hx hb dX3_plain_99 (by decide) ?_
                  refine lv_istore (lv' := [(4, .int 9), (3, .int 1), (2, .int v5995), (0, .ref h0), (1, .int x1)]) hx hb dX3_plain_101 hl (by decide) rfl (fun ls hl => ?_)
                  refine lv_iload_n hx hb dX3_plain_103 rfl (lv_at hl 1 rfl) ?_
                  refine lv_if_eq (tgt := 123) hx hb dX3_plain_104 (by decide) (fun c => absurd c (by decide)) (fun _ => ?_)
                  refine lv_iload hx hb dX3_plain_107 (lv_at hl 0 rfl) ?_
                  refine lv_bipush (v := 9) hx hb dX3_plain_109 (by decide) ?_
                  refine lv_icmp_ne (tgt := 125) hx hb dX3_plain_111 (by decide) (fun c6452 => ?_) (fun c6452 => ?_)
                  · skip
                    have k6453 := iv_ne (X := (9)) (Y := (9)) (by decide) (by decide) c6452
                    exfalso; omega
                  · skip
                    have k6454 := iv_eq (X := (9)) (Y := (9)) (by decide) (by decide) c6452
                    refine lv_aload_n hx hb dX3_plain_114 rfl (lv_at hl 3 rfl) ?_
                    refine gmIC hx hb hts inT3 hown hK hI List.not_mem_nil hG0 11 (by decide) (hts _ (tb_c wd_140)) rfl rfl dX3_plain_115 (fun w6455 hg6456 k6457 k6458 => ?_)
                    obtain rfl := gfC.uniq (by decide) hg6435 hg6456
                    refine lv_bipush (v := 61) hx hb dX3_plain_118 (by decide) ?_
                    refine lv_icmp_eq (tgt := 125) hx hb dX3_plain_120 (by decide) (fun c6459 => ?_) (fun c6459 => ?_)
                    · skip
                      have k6460 := iv_eq (X := w6434.toInt) (Y := (61)) rfl (by decide) c6459
                      refine lv_aload_n hx hb dX3_plain_125 rfl (lv_at hl 3 rfl) ?_
                      refine lv_aload_n hx hb dX3_plain_126 rfl (lv_at hl 3 rfl) ?_
                      refine gmIC hx hb hts inT3 hown hK hI List.not_mem_nil hG0 10 (by decide) (hts _ (tb_c wd_139)) rfl rfl dX3_plain_127 (fun w6461 hg6462 k6463 k6464 => ?_)
                      obtain rfl := gfC.uniq (by decide) hg6432 hg6462
                      refine lv_iconst (v := 1) hx hb dX3_plain_130 (by decide) ?_
                      refine lv_iadd hx hb dX3_plain_131 ?_
                      refine lv_topi (fun v6465 e6466 => ?_)
                      have tv6465 : v6465.toInt = w6431.toInt + (1) := iv_add rfl (by decide) e6466 (by omega) (by omega)
                      have hpd6467 : pd_R ZZ YY TT (1, 2 :: fl, nk, Ln6426) (pn6425 + 1) = XX := (pd_A_cm (by omega) (by omega)).symm.trans hpd6428
                      refine nx_v (As := [.int v6465]) (rest := []) (n := 1) (d := 0) ⟨hx, hb, hml, hown, hts⟩ (c_X3_moveTo l E D G h0 hG0 v6465 ft fp fn TT (pn6425 + 1) nc Ln6426 (by first | omega | decide) (by omega)) wd_707 wd_709 wp_13 wd_5 wd_710 (by decide +kernel) ⟨by rw [hR]; show 0 + 1 ≤ 21 + 3 * k; omega, by rw [hR]; show 8 + (2 + 11) + 40 * (0) ≤ 40 * (21 + 3 * k); omega⟩ hI hN hK hS hG0 ((RC.to0 hRC6430)) rfl hl.1 rfl (Nat.le_of_ble_eq_true rfl) dX3_plain_132 ⟨Nat.zero_le _, Nat.zero_le _⟩ (fun H locs hI hp hS => ?_)
                      have hRC6469 := hp
                      obtain ⟨hT4, hpT, ⟨w6470, hg6471, k6472⟩, ⟨w6473, hg6474, k6475⟩⟩ := RC.tk hRC6469
                      clear hRC6430 hg6432 hg6435 k6437
                      have k6476 := TK.at hTK hpT
                      refine lv_aload_n hx hb dX3_plain_135 rfl (lv_at hl 3 rfl) ?_
                      refine lv_iload_n hx hb dX3_plain_136 rfl (lv_at hl 4 rfl) ?_
                      refine nx_i (As := [.int x1]) (rest := []) (n := 1) (d := 19) ⟨hx, hb, hml, hown, hts⟩ (c_X3_sum l E D G 8 h0 hG0 x1 ft fp fn TT (pn6425 + 1) nc Ln6426 ZZ YY nk XX hTK dd (by first | decide | omega) (by omega) (by omega) (2 :: fl) (by rw [pd_dp2, hdp]) hpd6467 (c_X3_part l E D G 8)) wd_715 wd_717 wp_15 wd_5 wd_718 (by decide +kernel) ⟨by rw [hR]; show 19 + 1 ≤ 21 + 3 * k; omega, by rw [hR]; show 8 + (7 + 11) + 40 * (19) ≤ 40 * (21 + 3 * k); omega⟩ hI hN hK hS hG0 (hRC6469) rfl hl.1 rfl (Nat.le_of_ble_eq_true rfl) dX3_plain_137 ⟨Nat.zero_le _, Nat.zero_le _⟩ (fun r6477 H locs hI hp hS => ?_)
                      rcases hp with ⟨rfl, hp⟩ | ⟨rfl, hp⟩
                      · skip
                        try simp only [rg, not_and, Int.not_le] at hp
                        have hp6478 := hp
                        obtain ⟨pn6479, Ln6480, hE, k6481, hpd6482, hno6483⟩ := hp6478
                        have hp6478 : True := trivial
                        have hRC6484 := hE
                        obtain ⟨hT4, hpT, ⟨w6485, hg6486, k6487⟩, ⟨w6488, hg6489, k6490⟩⟩ := RC.tk hRC6484
                        clear hRC6469 hg6471 hg6474 k6476
                        have k6491 := TK.at hTK hpT
                        have hpd6492 : pd_R ZZ YY TT (4, fl, nk, Ln6480) pn6479 = XX := (pd_A_rt (fun h9 => by unfold pd_op; unfold oc at hno6483; omega)).symm.trans hpd6482
                        refine lv_istore_n (lv' := [(3, .int 1), (4, .int 9), (2, .int v5995), (0, .ref h0), (1, .int x1)]) hx hb dX3_plain_140 rfl hl (by decide) rfl (fun ls hl => ?_)
                        refine lv_aload_n hx hb dX3_plain_141 rfl (lv_at hl 3 rfl) ?_
                        refine lv_iload hx hb dX3_plain_142 (lv_at hl 1 rfl) ?_
                        refine lv_iconst (v := 0) hx hb dX3_plain_144 (by decide) ?_
                        refine nx_i (As := [.int 9, .int 0]) (rest := []) (n := 2) (d := 0) ⟨hx, hb, hml, hown, hts⟩ (c_X3_emit l E D G h0 hG0 9 0 ft fp fn TT pn6479 nc Ln6480) wd_723 wd_725 wp_17 wd_5 wd_726 (by decide +kernel) ⟨by rw [hR]; show 0 + 1 ≤ 21 + 3 * k; omega, by rw [hR]; show 8 + (3 + 11) + 40 * (0) ≤ 40 * (21 + 3 * k); omega⟩ hI hN hK hS hG0 (hRC6484) rfl hl.1 rfl (Nat.le_of_ble_eq_true rfl) dX3_plain_145 ⟨Nat.zero_le _, Nat.zero_le _⟩ (fun r6493 H locs hI hp hS => ?_)
                        have hRC6494 := hp
                        obtain ⟨hT4, hpT, ⟨w6495, hg6496, k6497⟩, ⟨w6498, hg6499, k6500⟩⟩ := RC.tk hRC6494
                        clear hRC6484 hg6486 hg6489 k6491
                        have k6501 := TK.at hTK hpT
                        refine lv_pop hx hb dX3_plain_148 rfl ?_
                        refine lv_iload_n hx hb dX3_plain_149 rfl (lv_at hl 2 rfl) ?_
                        refine lv_if_eq (tgt := 161) hx hb dX3_plain_150 (by decide) (fun c6502 => ?_) (fun c6502 => ?_)
                        · skip
                          have k6503 := iv_eq (X := v5995.toInt) (Y := (0)) rfl (by decide) c6502
                          refine lv_iload_n hx hb dX3_plain_161 rfl (lv_at hl 0 rfl) ?_
                          have hpost : ((1 : Int32) = 1 ∧ ∃ p2 L2 : Nat, RC E D G h0 ft fp fn TT p2 nc L2 H ∧ pp + 1 ≤ p2 ∧ pd_R ZZ YY TT (4, fl, nk, L2) p2 = XX) ∨ ((1 : Int32) = 0 ∧ ∃ p2 L2 : Nat, RC E D G h0 ft fp fn TT p2 nc L2 H ∧ pp ≤ p2 ∧ XX = (p2, false)) := Or.inl ⟨rfl, pn6479, Ln6480, hRC6494, by omega, hpd6492⟩
                          rw [hQ]
                          exact W.zret (v := 1) hx hb hr (by decide) (fun t ht hW => ⟨⟨1, 1, rfl, rfl, ⟨by rw [ht]; exact hI, hN.warm hW, va_K.moved hW.alike hK⟩, by first | (rw [ht]; exact hpost) | exact hpost⟩, hS.F ht⟩) hS.2.2 dX3_plain_162
                        · skip
                          have k6504 := iv_ne (X := v5995.toInt) (Y := (0)) rfl (by decide) c6502
                          refine lv_aload_n hx hb dX3_plain_153 rfl (lv_at hl 3 rfl) ?_
                          refine lv_bipush (v := 10) hx hb dX3_plain_154 (by decide) ?_
                          refine lv_iconst (v := 0) hx hb dX3_plain_156 (by decide) ?_
                          refine nx_i (As := [.int 10, .int 0]) (rest := []) (n := 2) (d := 0) ⟨hx, hb, hml, hown, hts⟩ (c_X3_emit l E D G h0 hG0 10 0 ft fp fn TT pn6479 nc Ln6480) wd_723 wd_725 wp_17 wd_5 wd_726 (by decide +kernel) ⟨by rw [hR]; show 0 + 1 ≤ 21 + 3 * k; omega, by rw [hR]; show 8 + (3 + 11) + 40 * (0) ≤ 40 * (21 + 3 * k); omega⟩ hI hN hK hS hG0 (hRC6494) rfl hl.1 rfl (Nat.le_of_ble_eq_true rfl) dX3_plain_157 ⟨Nat.zero_le _, Nat.zero_le _⟩ (fun r6505 H locs hI hp hS => ?_)
                          have hRC6506 := hp
                          obtain ⟨hT4, hpT, ⟨w6507, hg6508, k6509⟩, ⟨w6510, hg6511, k6512⟩⟩ := RC.tk hRC6506
                          clear hRC6494 hg6496 hg6499 k6501
                          have k6513 := TK.at hTK hpT
                          refine lv_pop hx hb dX3_plain_160 rfl ?_
                          refine lv_iload_n hx hb dX3_plain_161 rfl (lv_at hl 0 rfl) ?_
                          have hpost : ((1 : Int32) = 1 ∧ ∃ p2 L2 : Nat, RC E D G h0 ft fp fn TT p2 nc L2 H ∧ pp + 1 ≤ p2 ∧ pd_R ZZ YY TT (4, fl, nk, L2) p2 = XX) ∨ ((1 : Int32) = 0 ∧ ∃ p2 L2 : Nat, RC E D G h0 ft fp fn TT p2 nc L2 H ∧ pp ≤ p2 ∧ XX = (p2, false)) := Or.inl ⟨rfl, pn6479, Ln6480, hRC6506, by omega, hpd6492⟩
                          rw [hQ]
                          exact W.zret (v := 1) hx hb hr (by decide) (fun t ht hW => ⟨⟨1, 1, rfl, rfl, ⟨by rw [ht]; exact hI, hN.warm hW, va_K.moved hW.alike hK⟩, by first | (rw [ht]; exact hpost) | exact hpost⟩, hS.F ht⟩) hS.2.2 dX3_plain_162
                      · skip
                        try simp only [rg, not_and, Int.not_le] at hp
                        have hp6514 := hp
                        obtain ⟨pn6515, Ln6516, hE, k6517, hfl6518⟩ := hp6514
                        have hp6514 : True := trivial
                        have hRC6519 := hE
                        obtain ⟨hT4, hpT, ⟨w6520, hg6521, k6522⟩, ⟨w6523, hg6524, k6525⟩⟩ := RC.tk hRC6519
                        clear hRC6469 hg6471 hg6474 k6476
                        have k6526 := TK.at hTK hpT
                        refine lv_istore_n (lv' := [(3, .int 0), (4, .int 9), (2, .int v5995), (0, .ref h0), (1, .int x1)]) hx hb dX3_plain_140 rfl hl (by decide) rfl (fun ls hl => ?_)
                        refine lv_aload_n hx hb dX3_plain_141 rfl (lv_at hl 3 rfl) ?_
                        refine lv_iload hx hb dX3_plain_142 (lv_at hl 1 rfl) ?_
                        refine lv_iconst (v := 0) hx hb dX3_plain_144 (by decide) ?_
                        refine nx_i (As := [.int 9, .int 0]) (rest := []) (n := 2) (d := 0) ⟨hx, hb, hml, hown, hts⟩ (c_X3_emit l E D G h0 hG0 9 0 ft fp fn TT pn6515 nc Ln6516) wd_723 wd_725 wp_17 wd_5 wd_726 (by decide +kernel) ⟨by rw [hR]; show 0 + 1 ≤ 21 + 3 * k; omega, by rw [hR]; show 8 + (3 + 11) + 40 * (0) ≤ 40 * (21 + 3 * k); omega⟩ hI hN hK hS hG0 (hRC6519) rfl hl.1 rfl (Nat.le_of_ble_eq_true rfl) dX3_plain_145 ⟨Nat.zero_le _, Nat.zero_le _⟩ (fun r6527 H locs hI hp hS => ?_)
                        have hRC6528 := hp
                        obtain ⟨hT4, hpT, ⟨w6529, hg6530, k6531⟩, ⟨w6532, hg6533, k6534⟩⟩ := RC.tk hRC6528
                        clear hRC6519 hg6521 hg6524 k6526
                        have k6535 := TK.at hTK hpT
                        refine lv_pop hx hb dX3_plain_148 rfl ?_
                        refine lv_iload_n hx hb dX3_plain_149 rfl (lv_at hl 2 rfl) ?_
                        refine lv_if_eq (tgt := 161) hx hb dX3_plain_150 (by decide) (fun c6536 => ?_) (fun c6536 => ?_)
                        · skip
                          have k6537 := iv_eq (X := v5995.toInt) (Y := (0)) rfl (by decide) c6536
                          refine lv_iload_n hx hb dX3_plain_161 rfl (lv_at hl 0 rfl) ?_
                          have hpost : ((0 : Int32) = 1 ∧ ∃ p2 L2 : Nat, RC E D G h0 ft fp fn TT p2 nc L2 H ∧ pp + 1 ≤ p2 ∧ pd_R ZZ YY TT (4, fl, nk, L2) p2 = XX) ∨ ((0 : Int32) = 0 ∧ ∃ p2 L2 : Nat, RC E D G h0 ft fp fn TT p2 nc L2 H ∧ pp ≤ p2 ∧ XX = (p2, false)) := Or.inr ⟨rfl, pn6515, Ln6516, hRC6528, by omega, hfl6518⟩
                          rw [hQ]
                          exact W.zret (v := 0) hx hb hr (by decide) (fun t ht hW => ⟨⟨0, 0, rfl, rfl, ⟨by rw [ht]; exact hI, hN.warm hW, va_K.moved hW.alike hK⟩, by first | (rw [ht]; exact hpost) | exact hpost⟩, hS.F ht⟩) hS.2.2 dX3_plain_162
                        · skip
                          have k6538 := iv_ne (X := v5995.toInt) (Y := (0)) rfl (by decide) c6536
                          refine lv_aload_n hx hb dX3_plain_153 rfl (lv_at hl 3 rfl) ?_
                          refine lv_bipush (v := 10) hx hb dX3_plain_154 (by decide) ?_
                          refine lv_iconst (v := 0) hx hb dX3_plain_156 (by decide) ?_
                          refine nx_i (As := [.int 10, .int 0]) (rest := []) (n := 2) (d := 0) ⟨hx, hb, hml, hown, hts⟩ (c_X3_emit l E D G h0 hG0 10 0 ft fp fn TT pn6515 nc Ln6516) wd_723 wd_725 wp_17 wd_5 wd_726 (by decide +kernel) ⟨by rw [hR]; show 0 + 1 ≤ 21 + 3 * k; omega, by rw [hR]; show 8 + (3 + 11) + 40 * (0) ≤ 40 * (21 + 3 * k); omega⟩ hI hN hK hS hG0 (hRC6528) rfl hl.1 rfl (Nat.le_of_ble_eq_true rfl) dX3_plain_157 ⟨Nat.zero_le _, Nat.zero_le _⟩ (fun r6539 H locs hI hp hS => ?_)
                          have hRC6540 := hp
                          obtain ⟨hT4, hpT, ⟨w6541, hg6542, k6543⟩, ⟨w6544, hg6545, k6546⟩⟩ := RC.tk hRC6540
                          clear hRC6528 hg6530 hg6533 k6535
                          have k6547 := TK.at hTK hpT
                          refine lv_pop hx hb dX3_plain_160 rfl ?_
                          refine lv_iload_n hx hb dX3_plain_161 rfl (lv_at hl 0 rfl) ?_
                          have hpost : ((0 : Int32) = 1 ∧ ∃ p2 L2 : Nat, RC E D G h0 ft fp fn TT p2 nc L2 H ∧ pp + 1 ≤ p2 ∧ pd_R ZZ YY TT (4, fl, nk, L2) p2 = XX) ∨ ((0 : Int32) = 0 ∧ ∃ p2 L2 : Nat, RC E D G h0 ft fp fn TT p2 nc L2 H ∧ pp ≤ p2 ∧ XX = (p2, false)) := Or.inr ⟨rfl, pn6515, Ln6516, hRC6540, by omega, hfl6518⟩
                          rw [hQ]
                          exact W.zret (v := 0) hx hb hr (by decide) (fun t ht hW => ⟨⟨0, 0, rfl, rfl, ⟨by rw [ht]; exact hI, hN.warm hW, va_K.moved hW.alike hK⟩, by first | (rw [ht]; exact hpost) | exact hpost⟩, hS.F ht⟩) hS.2.2 dX3_plain_162
                    · skip
                      have k6548 := iv_ne (X := w6434.toInt) (Y := (61)) rfl (by decide) c6459
                      refine lv_iconst (v := 0) hx hb dX3_plain_123 (by decide) ?_
                      have hpost : ((0 : Int32) = 1 ∧ ∃ p2 L2 : Nat, RC E D G h0 ft fp fn TT p2 nc L2 H ∧ pp + 1 ≤ p2 ∧ pd_R ZZ YY TT (4, fl, nk, L2) p2 = XX) ∨ ((0 : Int32) = 0 ∧ ∃ p2 L2 : Nat, RC E D G h0 ft fp fn TT p2 nc L2 H ∧ pp ≤ p2 ∧ XX = (p2, false)) := Or.inr ⟨rfl, pn6425, Ln6426, hRC6430, by omega, (hpd6428.symm.trans (pd_A_cmno (fun h9 => ⟨by unfold pd_op; unfold oc at hno6429; omega, by omega⟩)))⟩
                      rw [hQ]
                      exact W.zret (v := 0) hx hb hr (by decide) (fun t ht hW => ⟨⟨0, 0, rfl, rfl, ⟨by rw [ht]; exact hI, hN.warm hW, va_K.moved hW.alike hK⟩, by first | (rw [ht]; exact hpost) | exact hpost⟩, hS.F ht⟩) hS.2.2 dX3_plain_124
                · skip
                  have k6549 := iv_eq (X := w6434.toInt) (Y := (62)) rfl (by decide) c6450
                  refine lv_bipush (v := 8) hx hb dX3_plain_94 (by decide) ?_
                  refine lv_goto (tgt := 101) hx hb dX3_plain_96 (by decide) ?_
                  refine lv_istore (lv' := [(4, .int 8), (3, .int 1), (2, .int v5995), (0, .ref h0), (1, .int x1)]) hx hb dX3_plain_101 hl (by decide) rfl (fun ls hl => ?_)
                  refine lv_iload_n hx hb dX3_plain_103 rfl (lv_at hl 1 rfl) ?_
                  refine lv_if_eq (tgt := 123) hx hb dX3_plain_104 (by decide) (fun c => absurd c (by decide)) (fun _ => ?_)
                  refine lv_iload hx hb dX3_plain_107 (lv_at hl 0 rfl) ?_
                  refine lv_bipush (v := 9) hx hb dX3_plain_109 (by decide) ?_
                  refine lv_icmp_ne (tgt := 125) hx hb dX3_plain_111 (by decide) (fun c6550 => ?_) (fun c6550 => ?_)
                  · skip
                    have k6551 := iv_ne (X := (8)) (Y := (9)) (by decide) (by decide) c6550
                    refine lv_aload_n hx hb dX3_plain_125 rfl (lv_at hl 3 rfl) ?_
                    refine lv_aload_n hx hb dX3_plain_126 rfl (lv_at hl 3 rfl) ?_
                    refine gmIC hx hb hts inT3 hown hK hI List.not_mem_nil hG0 10 (by decide) (hts _ (tb_c wd_139)) rfl rfl dX3_plain_127 (fun w6552 hg6553 k6554 k6555 => ?_)
                    obtain rfl := gfC.uniq (by decide) hg6432 hg6553
                    refine lv_iconst (v := 1) hx hb dX3_plain_130 (by decide) ?_
                    refine lv_iadd hx hb dX3_plain_131 ?_
                    refine lv_topi (fun v6556 e6557 => ?_)
                    have tv6556 : v6556.toInt = w6431.toInt + (1) := iv_add rfl (by decide) e6557 (by omega) (by omega)
                    have hpd6558 : pd_R ZZ YY TT (1, 2 :: fl, nk, Ln6426) (pn6425 + 1) = XX := (pd_A_cm (by omega) (by omega)).symm.trans hpd6428
                    refine nx_v (As := [.int v6556]) (rest := []) (n := 1) (d := 0) ⟨hx, hb, hml, hown, hts⟩ (c_X3_moveTo l E D G h0 hG0 v6556 ft fp fn TT (pn6425 + 1) nc Ln6426 (by first | omega | decide) (by omega)) wd_707 wd_709 wp_13 wd_5 wd_710 (by decide +kernel) ⟨by rw [hR]; show 0 + 1 ≤ 21 + 3 * k; omega, by rw [hR]; show 8 + (2 + 11) + 40 * (0) ≤ 40 * (21 + 3 * k); omega⟩ hI hN hK hS hG0 ((RC.to0 hRC6430)) rfl hl.1 rfl (Nat.le_of_ble_eq_true rfl) dX3_plain_132 ⟨Nat.zero_le _, Nat.zero_le _⟩ (fun H locs hI hp hS => ?_)
                    have hRC6560 := hp
                    obtain ⟨hT4, hpT, ⟨w6561, hg6562, k6563⟩, ⟨w6564, hg6565, k6566⟩⟩ := RC.tk hRC6560
                    clear hRC6430 hg6432 hg6435 k6437
                    have k6567 := TK.at hTK hpT
                    refine lv_aload_n hx hb dX3_plain_135 rfl (lv_at hl 3 rfl) ?_
                    refine lv_iload_n hx hb dX3_plain_136 rfl (lv_at hl 4 rfl) ?_
                    refine nx_i (As := [.int x1]) (rest := []) (n := 1) (d := 19) ⟨hx, hb, hml, hown, hts⟩ (c_X3_sum l E D G 8 h0 hG0 x1 ft fp fn TT (pn6425 + 1) nc Ln6426 ZZ YY nk XX hTK dd (by first | decide | omega) (by omega) (by omega) (2 :: fl) (by rw [pd_dp2, hdp]) hpd6558 (c_X3_part l E D G 8)) wd_715 wd_717 wp_15 wd_5 wd_718 (by decide +kernel) ⟨by rw [hR]; show 19 + 1 ≤ 21 + 3 * k; omega, by rw [hR]; show 8 + (7 + 11) + 40 * (19) ≤ 40 * (21 + 3 * k); omega⟩ hI hN hK hS hG0 (hRC6560) rfl hl.1 rfl (Nat.le_of_ble_eq_true rfl) dX3_plain_137 ⟨Nat.zero_le _, Nat.zero_le _⟩ (fun r6568 H locs hI hp hS => ?_)
                    rcases hp with ⟨rfl, hp⟩ | ⟨rfl, hp⟩
                    · skip
                      try simp only [rg, not_and, Int.not_le] at hp
                      have hp6569 := hp
                      obtain ⟨pn6570, Ln6571, hE, k6572, hpd6573, hno6574⟩ := hp6569
                      have hp6569 : True := trivial
                      have hRC6575 := hE
                      obtain ⟨hT4, hpT, ⟨w6576, hg6577, k6578⟩, ⟨w6579, hg6580, k6581⟩⟩ := RC.tk hRC6575
                      clear hRC6560 hg6562 hg6565 k6567
                      have k6582 := TK.at hTK hpT
                      have hpd6583 : pd_R ZZ YY TT (4, fl, nk, Ln6571) pn6570 = XX := (pd_A_rt (fun h9 => by unfold pd_op; unfold oc at hno6574; omega)).symm.trans hpd6573
                      refine lv_istore_n (lv' := [(3, .int 1), (4, .int 8), (2, .int v5995), (0, .ref h0), (1, .int x1)]) hx hb dX3_plain_140 rfl hl (by decide) rfl (fun ls hl => ?_)
                      refine lv_aload_n hx hb dX3_plain_141 rfl (lv_at hl 3 rfl) ?_
                      refine lv_iload hx hb dX3_plain_142 (lv_at hl 1 rfl) ?_
                      refine lv_iconst (v := 0) hx hb dX3_plain_144 (by decide) ?_
                      refine nx_i (As := [.int 8, .int 0]) (rest := []) (n := 2) (d := 0) ⟨hx, hb, hml, hown, hts⟩ (c_X3_emit l E D G h0 hG0 8 0 ft fp fn TT pn6570 nc Ln6571) wd_723 wd_725 wp_17 wd_5 wd_726 (by decide +kernel) ⟨by rw [hR]; show 0 + 1 ≤ 21 + 3 * k; omega, by rw [hR]; show 8 + (3 + 11) + 40 * (0) ≤ 40 * (21 + 3 * k); omega⟩ hI hN hK hS hG0 (hRC6575) rfl hl.1 rfl (Nat.le_of_ble_eq_true rfl) dX3_plain_145 ⟨Nat.zero_le _, Nat.zero_le _⟩ (fun r6584 H locs hI hp hS => ?_)
                      have hRC6585 := hp
                      obtain ⟨hT4, hpT, ⟨w6586, hg6587, k6588⟩, ⟨w6589, hg6590, k6591⟩⟩ := RC.tk hRC6585
                      clear hRC6575 hg6577 hg6580 k6582
                      have k6592 := TK.at hTK hpT
                      refine lv_pop hx hb dX3_plain_148 rfl ?_
                      refine lv_iload_n hx hb dX3_plain_149 rfl (lv_at hl 2 rfl) ?_
                      refine lv_if_eq (tgt := 161) hx hb dX3_plain_150 (by decide) (fun c6593 => ?_) (fun c6593 => ?_)
                      · skip
                        have k6594 := iv_eq (X := v5995.toInt) (Y := (0)) rfl (by decide) c6593
                        refine lv_iload_n hx hb dX3_plain_161 rfl (lv_at hl 0 rfl) ?_
                        have hpost : ((1 : Int32) = 1 ∧ ∃ p2 L2 : Nat, RC E D G h0 ft fp fn TT p2 nc L2 H ∧ pp + 1 ≤ p2 ∧ pd_R ZZ YY TT (4, fl, nk, L2) p2 = XX) ∨ ((1 : Int32) = 0 ∧ ∃ p2 L2 : Nat, RC E D G h0 ft fp fn TT p2 nc L2 H ∧ pp ≤ p2 ∧ XX = (p2, false)) := Or.inl ⟨rfl, pn6570, Ln6571, hRC6585, by omega, hpd6583⟩
                        rw [hQ]
                        exact W.zret (v := 1) hx hb hr (by decide) (fun t ht hW => ⟨⟨1, 1, rfl, rfl, ⟨by rw [ht]; exact hI, hN.warm hW, va_K.moved hW.alike hK⟩, by first | (rw [ht]; exact hpost) | exact hpost⟩, hS.F ht⟩) hS.2.2 dX3_plain_162
                      · skip
                        have k6595 := iv_ne (X := v5995.toInt) (Y := (0)) rfl (by decide) c6593
                        refine lv_aload_n hx hb dX3_plain_153 rfl (lv_at hl 3 rfl) ?_
                        refine lv_bipush (v := 10) hx hb dX3_plain_154 (by decide) ?_
                        refine lv_iconst (v := 0) hx hb dX3_plain_156 (by decide) ?_
                        refine nx_i (As := [.int 10, .int 0]) (rest := []) (n := 2) (d := 0) ⟨hx, hb, hml, hown, hts⟩ (c_X3_emit l E D G h0 hG0 10 0 ft fp fn TT pn6570 nc Ln6571) wd_723 wd_725 wp_17 wd_5 wd_726 (by decide +kernel) ⟨by rw [hR]; show 0 + 1 ≤ 21 + 3 * k; omega, by rw [hR]; show 8 + (3 + 11) + 40 * (0) ≤ 40 * (21 + 3 * k); omega⟩ hI hN hK hS hG0 (hRC6585) rfl hl.1 rfl (Nat.le_of_ble_eq_true rfl) dX3_plain_157 ⟨Nat.zero_le _, Nat.zero_le _⟩ (fun r6596 H locs hI hp hS => ?_)
                        have hRC6597 := hp
                        obtain ⟨hT4, hpT, ⟨w6598, hg6599, k6600⟩, ⟨w6601, hg6602, k6603⟩⟩ := RC.tk hRC6597
                        clear hRC6585 hg6587 hg6590 k6592
                        have k6604 := TK.at hTK hpT
                        refine lv_pop hx hb dX3_plain_160 rfl ?_
                        refine lv_iload_n hx hb dX3_plain_161 rfl (lv_at hl 0 rfl) ?_
                        have hpost : ((1 : Int32) = 1 ∧ ∃ p2 L2 : Nat, RC E D G h0 ft fp fn TT p2 nc L2 H ∧ pp + 1 ≤ p2 ∧ pd_R ZZ YY TT (4, fl, nk, L2) p2 = XX) ∨ ((1 : Int32) = 0 ∧ ∃ p2 L2 : Nat, RC E D G h0 ft fp fn TT p2 nc L2 H ∧ pp ≤ p2 ∧ XX = (p2, false)) := Or.inl ⟨rfl, pn6570, Ln6571, hRC6597, by omega, hpd6583⟩
                        rw [hQ]
                        exact W.zret (v := 1) hx hb hr (by decide) (fun t ht hW => ⟨⟨1, 1, rfl, rfl, ⟨by rw [ht]; exact hI, hN.warm hW, va_K.moved hW.alike hK⟩, by first | (rw [ht]; exact hpost) | exact hpost⟩, hS.F ht⟩) hS.2.2 dX3_plain_162
                    · skip
                      try simp only [rg, not_and, Int.not_le] at hp
                      have hp6605 := hp
                      obtain ⟨pn6606, Ln6607, hE, k6608, hfl6609⟩ := hp6605
                      have hp6605 : True := trivial
                      have hRC6610 := hE
                      obtain ⟨hT4, hpT, ⟨w6611, hg6612, k6613⟩, ⟨w6614, hg6615, k6616⟩⟩ := RC.tk hRC6610
                      clear hRC6560 hg6562 hg6565 k6567
                      have k6617 := TK.at hTK hpT
                      refine lv_istore_n (lv' := [(3, .int 0), (4, .int 8), (2, .int v5995), (0, .ref h0), (1, .int x1)]) hx hb dX3_plain_140 rfl hl (by decide) rfl (fun ls hl => ?_)
                      refine lv_aload_n hx hb dX3_plain_141 rfl (lv_at hl 3 rfl) ?_
                      refine lv_iload hx hb dX3_plain_142 (lv_at hl 1 rfl) ?_
                      refine lv_iconst (v := 0) hx hb dX3_plain_144 (by decide) ?_
                      refine nx_i (As := [.int 8, .int 0]) (rest := []) (n := 2) (d := 0) ⟨hx, hb, hml, hown, hts⟩ (c_X3_emit l E D G h0 hG0 8 0 ft fp fn TT pn6606 nc Ln6607) wd_723 wd_725 wp_17 wd_5 wd_726 (by decide +kernel) ⟨by rw [hR]; show 0 + 1 ≤ 21 + 3 * k; omega, by rw [hR]; show 8 + (3 + 11) + 40 * (0) ≤ 40 * (21 + 3 * k); omega⟩ hI hN hK hS hG0 (hRC6610) rfl hl.1 rfl (Nat.le_of_ble_eq_true rfl) dX3_plain_145 ⟨Nat.zero_le _, Nat.zero_le _⟩ (fun r6618 H locs hI hp hS => ?_)
                      have hRC6619 := hp
                      obtain ⟨hT4, hpT, ⟨w6620, hg6621, k6622⟩, ⟨w6623, hg6624, k6625⟩⟩ := RC.tk hRC6619
                      clear hRC6610 hg6612 hg6615 k6617
                      have k6626 := TK.at hTK hpT
                      refine lv_pop hx hb dX3_plain_148 rfl ?_
                      refine lv_iload_n hx hb dX3_plain_149 rfl (lv_at hl 2 rfl) ?_
                      refine lv_if_eq (tgt := 161) hx hb dX3_plain_150 (by decide) (fun c6627 => ?_) (fun c6627 => ?_)
                      · skip
                        have k6628 := iv_eq (X := v5995.toInt) (Y := (0)) rfl (by decide) c6627
                        refine lv_iload_n hx hb dX3_plain_161 rfl (lv_at hl 0 rfl) ?_
                        have hpost : ((0 : Int32) = 1 ∧ ∃ p2 L2 : Nat, RC E D G h0 ft fp fn TT p2 nc L2 H ∧ pp + 1 ≤ p2 ∧ pd_R ZZ YY TT (4, fl, nk, L2) p2 = XX) ∨ ((0 : Int32) = 0 ∧ ∃ p2 L2 : Nat, RC E D G h0 ft fp fn TT p2 nc L2 H ∧ pp ≤ p2 ∧ XX = (p2, false)) := Or.inr ⟨rfl, pn6606, Ln6607, hRC6619, by omega, hfl6609⟩
                        rw [hQ]
                        exact W.zret (v := 0) hx hb hr (by decide) (fun t ht hW => ⟨⟨0, 0, rfl, rfl, ⟨by rw [ht]; exact hI, hN.warm hW, va_K.moved hW.alike hK⟩, by first | (rw [ht]; exact hpost) | exact hpost⟩, hS.F ht⟩) hS.2.2 dX3_plain_162
                      · skip
                        have k6629 := iv_ne (X := v5995.toInt) (Y := (0)) rfl (by decide) c6627
                        refine lv_aload_n hx hb dX3_plain_153 rfl (lv_at hl 3 rfl) ?_
                        refine lv_bipush (v := 10) hx hb dX3_plain_154 (by decide) ?_
                        refine lv_iconst (v := 0) hx hb dX3_plain_156 (by decide) ?_
                        refine nx_i (As := [.int 10, .int 0]) (rest := []) (n := 2) (d := 0) ⟨hx, hb, hml, hown, hts⟩ (c_X3_emit l E D G h0 hG0 10 0 ft fp fn TT pn6606 nc Ln6607) wd_723 wd_725 wp_17 wd_5 wd_726 (by decide +kernel) ⟨by rw [hR]; show 0 + 1 ≤ 21 + 3 * k; omega, by rw [hR]; show 8 + (3 + 11) + 40 * (0) ≤ 40 * (21 + 3 * k); omega⟩ hI hN hK hS hG0 (hRC6619) rfl hl.1 rfl (Nat.le_of_ble_eq_true rfl) dX3_plain_157 ⟨Nat.zero_le _, Nat.zero_le _⟩ (fun r6630 H locs hI hp hS => ?_)
                        have hRC6631 := hp
                        obtain ⟨hT4, hpT, ⟨w6632, hg6633, k6634⟩, ⟨w6635, hg6636, k6637⟩⟩ := RC.tk hRC6631
                        clear hRC6619 hg6621 hg6624 k6626
                        have k6638 := TK.at hTK hpT
                        refine lv_pop hx hb dX3_plain_160 rfl ?_
                        refine lv_iload_n hx hb dX3_plain_161 rfl (lv_at hl 0 rfl) ?_
                        have hpost : ((0 : Int32) = 1 ∧ ∃ p2 L2 : Nat, RC E D G h0 ft fp fn TT p2 nc L2 H ∧ pp + 1 ≤ p2 ∧ pd_R ZZ YY TT (4, fl, nk, L2) p2 = XX) ∨ ((0 : Int32) = 0 ∧ ∃ p2 L2 : Nat, RC E D G h0 ft fp fn TT p2 nc L2 H ∧ pp ≤ p2 ∧ XX = (p2, false)) := Or.inr ⟨rfl, pn6606, Ln6607, hRC6631, by omega, hfl6609⟩
                        rw [hQ]
                        exact W.zret (v := 0) hx hb hr (by decide) (fun t ht hW => ⟨⟨0, 0, rfl, rfl, ⟨by rw [ht]; exact hI, hN.warm hW, va_K.moved hW.alike hK⟩, by first | (rw [ht]; exact hpost) | exact hpost⟩, hS.F ht⟩) hS.2.2 dX3_plain_162
                  · skip
                    have k6639 := iv_eq (X := (8)) (Y := (9)) (by decide) (by decide) c6550
                    exfalso; omega
              · skip
                have k6640 := iv_eq (X := w6434.toInt) (Y := (60)) rfl (by decide) c6444
                refine lv_bipush (v := 7) hx hb dX3_plain_80 (by decide) ?_
                refine lv_goto (tgt := 101) hx hb dX3_plain_82 (by decide) ?_
                refine lv_istore (lv' := [(4, .int 7), (3, .int 1), (2, .int v5995), (0, .ref h0), (1, .int x1)]) hx hb dX3_plain_101 hl (by decide) rfl (fun ls hl => ?_)
                refine lv_iload_n hx hb dX3_plain_103 rfl (lv_at hl 1 rfl) ?_
                refine lv_if_eq (tgt := 123) hx hb dX3_plain_104 (by decide) (fun c => absurd c (by decide)) (fun _ => ?_)
                refine lv_iload hx hb dX3_plain_107 (lv_at hl 0 rfl) ?_
                refine lv_bipush (v := 9) hx hb dX3_plain_109 (by decide) ?_
                refine lv_icmp_ne (tgt := 125) hx hb dX3_plain_111 (by decide) (fun c6641 => ?_) (fun c6641 => ?_)
                · skip
                  have k6642 := iv_ne (X := (7)) (Y := (9)) (by decide) (by decide) c6641
                  refine lv_aload_n hx hb dX3_plain_125 rfl (lv_at hl 3 rfl) ?_
                  refine lv_aload_n hx hb dX3_plain_126 rfl (lv_at hl 3 rfl) ?_
                  refine gmIC hx hb hts inT3 hown hK hI List.not_mem_nil hG0 10 (by decide) (hts _ (tb_c wd_139)) rfl rfl dX3_plain_127 (fun w6643 hg6644 k6645 k6646 => ?_)
                  obtain rfl := gfC.uniq (by decide) hg6432 hg6644
                  refine lv_iconst (v := 1) hx hb dX3_plain_130 (by decide) ?_
                  refine lv_iadd hx hb dX3_plain_131 ?_
                  refine lv_topi (fun v6647 e6648 => ?_)
                  have tv6647 : v6647.toInt = w6431.toInt + (1) := iv_add rfl (by decide) e6648 (by omega) (by omega)
                  have hpd6649 : pd_R ZZ YY TT (1, 2 :: fl, nk, Ln6426) (pn6425 + 1) = XX := (pd_A_cm (by omega) (by omega)).symm.trans hpd6428
                  refine nx_v (As := [.int v6647]) (rest := []) (n := 1) (d := 0) ⟨hx, hb, hml, hown, hts⟩ (c_X3_moveTo l E D G h0 hG0 v6647 ft fp fn TT (pn6425 + 1) nc Ln6426 (by first | omega | decide) (by omega)) wd_707 wd_709 wp_13 wd_5 wd_710 (by decide +kernel) ⟨by rw [hR]; show 0 + 1 ≤ 21 + 3 * k; omega, by rw [hR]; show 8 + (2 + 11) + 40 * (0) ≤ 40 * (21 + 3 * k); omega⟩ hI hN hK hS hG0 ((RC.to0 hRC6430)) rfl hl.1 rfl (Nat.le_of_ble_eq_true rfl) dX3_plain_132 ⟨Nat.zero_le _, Nat.zero_le _⟩ (fun H locs hI hp hS => ?_)
                  have hRC6651 := hp
                  obtain ⟨hT4, hpT, ⟨w6652, hg6653, k6654⟩, ⟨w6655, hg6656, k6657⟩⟩ := RC.tk hRC6651
                  clear hRC6430 hg6432 hg6435 k6437
                  have k6658 := TK.at hTK hpT
                  refine lv_aload_n hx hb dX3_plain_135 rfl (lv_at hl 3 rfl) ?_
                  refine lv_iload_n hx hb dX3_plain_136 rfl (lv_at hl 4 rfl) ?_
                  refine nx_i (As := [.int x1]) (rest := []) (n := 1) (d := 19) ⟨hx, hb, hml, hown, hts⟩ (c_X3_sum l E D G 8 h0 hG0 x1 ft fp fn TT (pn6425 + 1) nc Ln6426 ZZ YY nk XX hTK dd (by first | decide | omega) (by omega) (by omega) (2 :: fl) (by rw [pd_dp2, hdp]) hpd6649 (c_X3_part l E D G 8)) wd_715 wd_717 wp_15 wd_5 wd_718 (by decide +kernel) ⟨by rw [hR]; show 19 + 1 ≤ 21 + 3 * k; omega, by rw [hR]; show 8 + (7 + 11) + 40 * (19) ≤ 40 * (21 + 3 * k); omega⟩ hI hN hK hS hG0 (hRC6651) rfl hl.1 rfl (Nat.le_of_ble_eq_true rfl) dX3_plain_137 ⟨Nat.zero_le _, Nat.zero_le _⟩ (fun r6659 H locs hI hp hS => ?_)
                  rcases hp with ⟨rfl, hp⟩ | ⟨rfl, hp⟩
                  · skip
                    try simp only [rg, not_and, Int.not_le] at hp
                    have hp6660 := hp
                    obtain ⟨pn6661, Ln6662, hE, k6663, hpd6664, hno6665⟩ := hp6660
                    have hp6660 : True := trivial
                    have hRC6666 := hE
                    obtain ⟨hT4, hpT, ⟨w6667, hg6668, k6669⟩, ⟨w6670, hg6671, k6672⟩⟩ := RC.tk hRC6666
                    clear hRC6651 hg6653 hg6656 k6658
                    have k6673 := TK.at hTK hpT
                    have hpd6674 : pd_R ZZ YY TT (4, fl, nk, Ln6662) pn6661 = XX := (pd_A_rt (fun h9 => by unfold pd_op; unfold oc at hno6665; omega)).symm.trans hpd6664
                    refine lv_istore_n (lv' := [(3, .int 1), (4, .int 7), (2, .int v5995), (0, .ref h0), (1, .int x1)]) hx hb dX3_plain_140 rfl hl (by decide) rfl (fun ls hl => ?_)
                    refine lv_aload_n hx hb dX3_plain_141 rfl (lv_at hl 3 rfl) ?_
                    refine lv_iload hx hb dX3_plain_142 (lv_at hl 1 rfl) ?_
                    refine lv_iconst (v := 0) hx hb dX3_plain_144 (by decide) ?_
                    refine nx_i (As := [.int 7, .int 0]) (rest := []) (n := 2) (d := 0) ⟨hx, hb, hml, hown, hts⟩ (c_X3_emit l E D G h0 hG0 7 0 ft fp fn TT pn6661 nc Ln6662) wd_723 wd_725 wp_17 wd_5 wd_726 (by decide +kernel) ⟨by rw [hR]; show 0 + 1 ≤ 21 + 3 * k; omega, by rw [hR]; show 8 + (3 + 11) + 40 * (0) ≤ 40 * (21 + 3 * k); omega⟩ hI hN hK hS hG0 (hRC6666) rfl hl.1 rfl (Nat.le_of_ble_eq_true rfl) dX3_plain_145 ⟨Nat.zero_le _, Nat.zero_le _⟩ (fun r6675 H locs hI hp hS => ?_)
                    have hRC6676 := hp
                    obtain ⟨hT4, hpT, ⟨w6677, hg6678, k6679⟩, ⟨w6680, hg6681, k6682⟩⟩ := RC.tk hRC6676
                    clear hRC6666 hg6668 hg6671 k6673
                    have k6683 := TK.at hTK hpT
                    refine lv_pop hx hb dX3_plain_148 rfl ?_
                    refine lv_iload_n hx hb dX3_plain_149 rfl (lv_at hl 2 rfl) ?_
                    refine lv_if_eq (tgt := 161) hx hb dX3_plain_150 (by decide) (fun c6684 => ?_) (fun c6684 => ?_)
                    · skip
                      have k6685 := iv_eq (X := v5995.toInt) (Y := (0)) rfl (by decide) c6684
                      refine lv_iload_n hx hb dX3_plain_161 rfl (lv_at hl 0 rfl) ?_
                      have hpost : ((1 : Int32) = 1 ∧ ∃ p2 L2 : Nat, RC E D G h0 ft fp fn TT p2 nc L2 H ∧ pp + 1 ≤ p2 ∧ pd_R ZZ YY TT (4, fl, nk, L2) p2 = XX) ∨ ((1 : Int32) = 0 ∧ ∃ p2 L2 : Nat, RC E D G h0 ft fp fn TT p2 nc L2 H ∧ pp ≤ p2 ∧ XX = (p2, false)) := Or.inl ⟨rfl, pn6661, Ln6662, hRC6676, by omega, hpd6674⟩
                      rw [hQ]
                      exact W.zret (v := 1) hx hb hr (by decide) (fun t ht hW => ⟨⟨1, 1, rfl, rfl, ⟨by rw [ht]; exact hI, hN.warm hW, va_K.moved hW.alike hK⟩, by first | (rw [ht]; exact hpost) | exact hpost⟩, hS.F ht⟩) hS.2.2 dX3_plain_162
                    · skip
                      have k6686 := iv_ne (X := v5995.toInt) (Y := (0)) rfl (by decide) c6684
                      refine lv_aload_n hx hb dX3_plain_153 rfl (lv_at hl 3 rfl) ?_
                      refine lv_bipush (v := 10) hx hb dX3_plain_154 (by decide) ?_
                      refine lv_iconst (v := 0) hx hb dX3_plain_156 (by decide) ?_
                      refine nx_i (As := [.int 10, .int 0]) (rest := []) (n := 2) (d := 0) ⟨hx, hb, hml, hown, hts⟩ (c_X3_emit l E D G h0 hG0 10 0 ft fp fn TT pn6661 nc Ln6662) wd_723 wd_725 wp_17 wd_5 wd_726 (by decide +kernel) ⟨by rw [hR]; show 0 + 1 ≤ 21 + 3 * k; omega, by rw [hR]; show 8 + (3 + 11) + 40 * (0) ≤ 40 * (21 + 3 * k); omega⟩ hI hN hK hS hG0 (hRC6676) rfl hl.1 rfl (Nat.le_of_ble_eq_true rfl) dX3_plain_157 ⟨Nat.zero_le _, Nat.zero_le _⟩ (fun r6687 H locs hI hp hS => ?_)
                      have hRC6688 := hp
                      obtain ⟨hT4, hpT, ⟨w6689, hg6690, k6691⟩, ⟨w6692, hg6693, k6694⟩⟩ := RC.tk hRC6688
                      clear hRC6676 hg6678 hg6681 k6683
                      have k6695 := TK.at hTK hpT
                      refine lv_pop hx hb dX3_plain_160 rfl ?_
                      refine lv_iload_n hx hb dX3_plain_161 rfl (lv_at hl 0 rfl) ?_
                      have hpost : ((1 : Int32) = 1 ∧ ∃ p2 L2 : Nat, RC E D G h0 ft fp fn TT p2 nc L2 H ∧ pp + 1 ≤ p2 ∧ pd_R ZZ YY TT (4, fl, nk, L2) p2 = XX) ∨ ((1 : Int32) = 0 ∧ ∃ p2 L2 : Nat, RC E D G h0 ft fp fn TT p2 nc L2 H ∧ pp ≤ p2 ∧ XX = (p2, false)) := Or.inl ⟨rfl, pn6661, Ln6662, hRC6688, by omega, hpd6674⟩
                      rw [hQ]
                      exact W.zret (v := 1) hx hb hr (by decide) (fun t ht hW => ⟨⟨1, 1, rfl, rfl, ⟨by rw [ht]; exact hI, hN.warm hW, va_K.moved hW.alike hK⟩, by first | (rw [ht]; exact hpost) | exact hpost⟩, hS.F ht⟩) hS.2.2 dX3_plain_162
                  · skip
                    try simp only [rg, not_and, Int.not_le] at hp
                    have hp6696 := hp
                    obtain ⟨pn6697, Ln6698, hE, k6699, hfl6700⟩ := hp6696
                    have hp6696 : True := trivial
                    have hRC6701 := hE
                    obtain ⟨hT4, hpT, ⟨w6702, hg6703, k6704⟩, ⟨w6705, hg6706, k6707⟩⟩ := RC.tk hRC6701
                    clear hRC6651 hg6653 hg6656 k6658
                    have k6708 := TK.at hTK hpT
                    refine lv_istore_n (lv' := [(3, .int 0), (4, .int 7), (2, .int v5995), (0, .ref h0), (1, .int x1)]) hx hb dX3_plain_140 rfl hl (by decide) rfl (fun ls hl => ?_)
                    refine lv_aload_n hx hb dX3_plain_141 rfl (lv_at hl 3 rfl) ?_
                    refine lv_iload hx hb dX3_plain_142 (lv_at hl 1 rfl) ?_
                    refine lv_iconst (v := 0) hx hb dX3_plain_144 (by decide) ?_
                    refine nx_i (As := [.int 7, .int 0]) (rest := []) (n := 2) (d := 0) ⟨hx, hb, hml, hown, hts⟩ (c_X3_emit l E D G h0 hG0 7 0 ft fp fn TT pn6697 nc Ln6698) wd_723 wd_725 wp_17 wd_5 wd_726 (by decide +kernel) ⟨by rw [hR]; show 0 + 1 ≤ 21 + 3 * k; omega, by rw [hR]; show 8 + (3 + 11) + 40 * (0) ≤ 40 * (21 + 3 * k); omega⟩ hI hN hK hS hG0 (hRC6701) rfl hl.1 rfl (Nat.le_of_ble_eq_true rfl) dX3_plain_145 ⟨Nat.zero_le _, Nat.zero_le _⟩ (fun r6709 H locs hI hp hS => ?_)
                    have hRC6710 := hp
                    obtain ⟨hT4, hpT, ⟨w6711, hg6712, k6713⟩, ⟨w6714, hg6715, k6716⟩⟩ := RC.tk hRC6710
                    clear hRC6701 hg6703 hg6706 k6708
                    have k6717 := TK.at hTK hpT
                    refine lv_pop hx hb dX3_plain_148 rfl ?_
                    refine lv_iload_n hx hb dX3_plain_149 rfl (lv_at hl 2 rfl) ?_
                    refine lv_if_eq (tgt := 161) hx hb dX3_plain_150 (by decide) (fun c6718 => ?_) (fun c6718 => ?_)
                    · skip
                      have k6719 := iv_eq (X := v5995.toInt) (Y := (0)) rfl (by decide) c6718
                      refine lv_iload_n hx hb dX3_plain_161 rfl (lv_at hl 0 rfl) ?_
                      have hpost : ((0 : Int32) = 1 ∧ ∃ p2 L2 : Nat, RC E D G h0 ft fp fn TT p2 nc L2 H ∧ pp + 1 ≤ p2 ∧ pd_R ZZ YY TT (4, fl, nk, L2) p2 = XX) ∨ ((0 : Int32) = 0 ∧ ∃ p2 L2 : Nat, RC E D G h0 ft fp fn TT p2 nc L2 H ∧ pp ≤ p2 ∧ XX = (p2, false)) := Or.inr ⟨rfl, pn6697, Ln6698, hRC6710, by omega, hfl6700⟩
                      rw [hQ]
                      exact W.zret (v := 0) hx hb hr (by decide) (fun t ht hW => ⟨⟨0, 0, rfl, rfl, ⟨by rw [ht]; exact hI, hN.warm hW, va_K.moved hW.alike hK⟩, by first | (rw [ht]; exact hpost) | exact hpost⟩, hS.F ht⟩) hS.2.2 dX3_plain_162
                    · skip
                      have k6720 := iv_ne (X := v5995.toInt) (Y := (0)) rfl (by decide) c6718
                      refine lv_aload_n hx hb dX3_plain_153 rfl (lv_at hl 3 rfl) ?_
                      refine lv_bipush (v := 10) hx hb dX3_plain_154 (by decide) ?_
                      refine lv_iconst (v := 0) hx hb dX3_plain_156 (by decide) ?_
                      refine nx_i (As := [.int 10, .int 0]) (rest := []) (n := 2) (d := 0) ⟨hx, hb, hml, hown, hts⟩ (c_X3_emit l E D G h0 hG0 10 0 ft fp fn TT pn6697 nc Ln6698) wd_723 wd_725 wp_17 wd_5 wd_726 (by decide +kernel) ⟨by rw [hR]; show 0 + 1 ≤ 21 + 3 * k; omega, by rw [hR]; show 8 + (3 + 11) + 40 * (0) ≤ 40 * (21 + 3 * k); omega⟩ hI hN hK hS hG0 (hRC6710) rfl hl.1 rfl (Nat.le_of_ble_eq_true rfl) dX3_plain_157 ⟨Nat.zero_le _, Nat.zero_le _⟩ (fun r6721 H locs hI hp hS => ?_)
                      have hRC6722 := hp
                      obtain ⟨hT4, hpT, ⟨w6723, hg6724, k6725⟩, ⟨w6726, hg6727, k6728⟩⟩ := RC.tk hRC6722
                      clear hRC6710 hg6712 hg6715 k6717
                      have k6729 := TK.at hTK hpT
                      refine lv_pop hx hb dX3_plain_160 rfl ?_
                      refine lv_iload_n hx hb dX3_plain_161 rfl (lv_at hl 0 rfl) ?_
                      have hpost : ((0 : Int32) = 1 ∧ ∃ p2 L2 : Nat, RC E D G h0 ft fp fn TT p2 nc L2 H ∧ pp + 1 ≤ p2 ∧ pd_R ZZ YY TT (4, fl, nk, L2) p2 = XX) ∨ ((0 : Int32) = 0 ∧ ∃ p2 L2 : Nat, RC E D G h0 ft fp fn TT p2 nc L2 H ∧ pp ≤ p2 ∧ XX = (p2, false)) := Or.inr ⟨rfl, pn6697, Ln6698, hRC6722, by omega, hfl6700⟩
                      rw [hQ]
                      exact W.zret (v := 0) hx hb hr (by decide) (fun t ht hW => ⟨⟨0, 0, rfl, rfl, ⟨by rw [ht]; exact hI, hN.warm hW, va_K.moved hW.alike hK⟩, by first | (rw [ht]; exact hpost) | exact hpost⟩, hS.F ht⟩) hS.2.2 dX3_plain_162
                · skip
                  have k6730 := iv_eq (X := (7)) (Y := (9)) (by decide) (by decide) c6641
                  exfalso; omega
            · skip
              try simp only [rg, not_and, Int.not_le] at hp
              have hp6731 := hp
              obtain ⟨pn6732, Ln6733, hE, k6734, hfl6735⟩ := hp6731
              have hp6731 : True := trivial
              have hRC6736 := hE
              obtain ⟨hT4, hpT, ⟨w6737, hg6738, k6739⟩, ⟨w6740, hg6741, k6742⟩⟩ := RC.tk hRC6736
              clear hRC5999 hg6001 hg6004 k6006
              have k6743 := TK.at hTK hpT
              refine lv_istore_n (lv' := [(3, .int 0), (2, .int v5995), (0, .ref h0), (1, .int x1)]) hx hb dX3_plain_70 rfl hl (by decide) rfl (fun ls hl => ?_)
              refine lv_aload_n hx hb dX3_plain_71 rfl (lv_at hl 2 rfl) ?_
              refine gmIC hx hb hts inT3 hown hK hI List.not_mem_nil hG0 11 (by decide) (hts _ (tb_c wd_140)) rfl rfl dX3_plain_72 (fun w6744 hg6745 k6746 k6747 => ?_)
              obtain rfl := gfC.uniq (by decide) hg6741 hg6745
              refine lv_bipush (v := 60) hx hb dX3_plain_75 (by decide) ?_
              have k6748 := iv_lo w6740
              have k6749 := iv_hi w6740
              refine lv_icmp_ne (tgt := 85) hx hb dX3_plain_77 (by decide) (fun c6750 => ?_) (fun c6750 => ?_)
              · skip
                have k6751 := iv_ne (X := w6740.toInt) (Y := (60)) rfl (by decide) c6750
                refine lv_aload_n hx hb dX3_plain_85 rfl (lv_at hl 2 rfl) ?_
                refine gmIC hx hb hts inT3 hown hK hI List.not_mem_nil hG0 11 (by decide) (hts _ (tb_c wd_140)) rfl rfl dX3_plain_86 (fun w6752 hg6753 k6754 k6755 => ?_)
                obtain rfl := gfC.uniq (by decide) hg6741 hg6753
                refine lv_bipush (v := 62) hx hb dX3_plain_89 (by decide) ?_
                refine lv_icmp_ne (tgt := 99) hx hb dX3_plain_91 (by decide) (fun c6756 => ?_) (fun c6756 => ?_)
                · skip
                  have k6757 := iv_ne (X := w6740.toInt) (Y := (62)) rfl (by decide) c6756
                  refine lv_bipush (v := 9) hx hb dX3_plain_99 (by decide) ?_
                  refine lv_istore (lv' := [(4, .int 9), (3, .int 0), (2, .int v5995), (0, .ref h0), (1, .int x1)]) hx hb dX3_plain_101 hl (by decide) rfl (fun ls hl => ?_)
                  refine lv_iload_n hx hb dX3_plain_103 rfl (lv_at hl 1 rfl) ?_
                  refine lv_if_eq (tgt := 123) hx hb dX3_plain_104 (by decide) (fun _ => ?_) (fun c => absurd c (by decide))
                  refine lv_iconst (v := 0) hx hb dX3_plain_123 (by decide) ?_
                  have hpost : ((0 : Int32) = 1 ∧ ∃ p2 L2 : Nat, RC E D G h0 ft fp fn TT p2 nc L2 H ∧ pp + 1 ≤ p2 ∧ pd_R ZZ YY TT (4, fl, nk, L2) p2 = XX) ∨ ((0 : Int32) = 0 ∧ ∃ p2 L2 : Nat, RC E D G h0 ft fp fn TT p2 nc L2 H ∧ pp ≤ p2 ∧ XX = (p2, false)) := Or.inr ⟨rfl, pn6732, Ln6733, hRC6736, by omega, hfl6735⟩
                  rw [hQ]
                  exact W.zret (v := 0) hx hb hr (by decide) (fun t ht hW => ⟨⟨0, 0, rfl, rfl, ⟨by rw [ht]; exact hI, hN.warm hW, va_K.moved hW.alike hK⟩, by first | (rw [ht]; exact hpost) | exact hpost⟩, hS.F ht⟩) hS.2.2 dX3_plain_124
                · skip
                  have k6758 := iv_eq (X := w6740.toInt) (Y := (62)) rfl (by decide) c6756
                  refine lv_bipush (v := 8) hx hb dX3_plain_94 (by decide) ?_
                  refine lv_goto (tgt := 101) hx hb dX3_plain_96 (by decide) ?_
                  refine lv_istore (lv' := [(4, .int 8), (3, .int 0), (2, .int v5995), (0, .ref h0), (1, .int x1)]) hx hb dX3_plain_101 hl (by decide) rfl (fun ls hl => ?_)
                  refine lv_iload_n hx hb dX3_plain_103 rfl (lv_at hl 1 rfl) ?_
                  refine lv_if_eq (tgt := 123) hx hb dX3_plain_104 (by decide) (fun _ => ?_) (fun c => absurd c (by decide))
                  refine lv_iconst (v := 0) hx hb dX3_plain_123 (by decide) ?_
                  have hpost : ((0 : Int32) = 1 ∧ ∃ p2 L2 : Nat, RC E D G h0 ft fp fn TT p2 nc L2 H ∧ pp + 1 ≤ p2 ∧ pd_R ZZ YY TT (4, fl, nk, L2) p2 = XX) ∨ ((0 : Int32) = 0 ∧ ∃ p2 L2 : Nat, RC E D G h0 ft fp fn TT p2 nc L2 H ∧ pp ≤ p2 ∧ XX = (p2, false)) := Or.inr ⟨rfl, pn6732, Ln6733, hRC6736, by omega, hfl6735⟩
                  rw [hQ]
                  exact W.zret (v := 0) hx hb hr (by decide) (fun t ht hW => ⟨⟨0, 0, rfl, rfl, ⟨by rw [ht]; exact hI, hN.warm hW, va_K.moved hW.alike hK⟩, by first | (rw [ht]; exact hpost) | exact hpost⟩, hS.F ht⟩) hS.2.2 dX3_plain_124
              · skip
                have k6759 := iv_eq (X := w6740.toInt) (Y := (60)) rfl (by decide) c6750
                refine lv_bipush (v := 7) hx hb dX3_plain_80 (by decide) ?_
                refine lv_goto (tgt := 101) hx hb dX3_plain_82 (by decide) ?_
                refine lv_istore (lv' := [(4, .int 7), (3, .int 0), (2, .int v5995), (0, .ref h0), (1, .int x1)]) hx hb dX3_plain_101 hl (by decide) rfl (fun ls hl => ?_)
                refine lv_iload_n hx hb dX3_plain_103 rfl (lv_at hl 1 rfl) ?_
                refine lv_if_eq (tgt := 123) hx hb dX3_plain_104 (by decide) (fun _ => ?_) (fun c => absurd c (by decide))
                refine lv_iconst (v := 0) hx hb dX3_plain_123 (by decide) ?_
                have hpost : ((0 : Int32) = 1 ∧ ∃ p2 L2 : Nat, RC E D G h0 ft fp fn TT p2 nc L2 H ∧ pp + 1 ≤ p2 ∧ pd_R ZZ YY TT (4, fl, nk, L2) p2 = XX) ∨ ((0 : Int32) = 0 ∧ ∃ p2 L2 : Nat, RC E D G h0 ft fp fn TT p2 nc L2 H ∧ pp ≤ p2 ∧ XX = (p2, false)) := Or.inr ⟨rfl, pn6732, Ln6733, hRC6736, by omega, hfl6735⟩
                rw [hQ]
                exact W.zret (v := 0) hx hb hr (by decide) (fun t ht hW => ⟨⟨0, 0, rfl, rfl, ⟨by rw [ht]; exact hI, hN.warm hW, va_K.moved hW.alike hK⟩, by first | (rw [ht]; exact hpost) | exact hpost⟩, hS.F ht⟩) hS.2.2 dX3_plain_124
          · skip
            have k6760 := iv_eq (X := w6003.toInt) (Y := (40)) rfl (by decide) c6420
            refine lv_aload_n hx hb dX3_plain_56 rfl (lv_at hl 2 rfl) ?_
            refine lv_iload_n hx hb dX3_plain_57 rfl (lv_at hl 3 rfl) ?_
            refine nx_i (As := [.int x1]) (rest := []) (n := 1) (d := (20 + 3 * k)) ⟨hx, hb, hml, hown, hts⟩ (henc h0 hG0 x1 ft fp fn TT p1 nc LL ZZ YY nk XX hTK dd (by first | decide | omega) (by omega) (by omega) fl hdp hpi (by omega)) wd_739 wd_741 wp_21 wd_5 wd_742 (by decide +kernel) ⟨by rw [hR]; show (20 + 3 * k) + 1 ≤ 21 + 3 * k; omega, by rw [hR]; show 8 + (3 + 11) + 40 * ((20 + 3 * k)) ≤ 40 * (21 + 3 * k); omega⟩ hI hN hK hS hG0 (hRC5999) rfl hl.1 rfl (Nat.le_of_ble_eq_true rfl) dX3_plain_58 ⟨Nat.zero_le _, Nat.zero_le _⟩ (fun r6761 H locs hI hp hS => ?_)
            rcases hp with ⟨rfl, hp⟩ | ⟨rfl, hp⟩
            · skip
              try simp only [rg, not_and, Int.not_le] at hp
              have hp6762 := hp
              obtain ⟨pn6763, Ln6764, hE, k6765, hpd6766⟩ := hp6762
              have hp6762 : True := trivial
              have hRC6767 := hE
              obtain ⟨hT4, hpT, ⟨w6768, hg6769, k6770⟩, ⟨w6771, hg6772, k6773⟩⟩ := RC.tk hRC6767
              clear hRC5999 hg6001 hg6004 k6006
              have k6774 := TK.at hTK hpT
              refine lv_istore_n (lv' := [(3, .int 1), (2, .int v5995), (0, .ref h0), (1, .int x1)]) hx hb dX3_plain_61 rfl hl (by decide) rfl (fun ls hl => ?_)
              refine lv_goto (tgt := 149) hx hb dX3_plain_62 (by decide) ?_
              refine lv_iload_n hx hb dX3_plain_149 rfl (lv_at hl 1 rfl) ?_
              refine lv_if_eq (tgt := 161) hx hb dX3_plain_150 (by decide) (fun c6775 => ?_) (fun c6775 => ?_)
              · skip
                have k6776 := iv_eq (X := v5995.toInt) (Y := (0)) rfl (by decide) c6775
                refine lv_iload_n hx hb dX3_plain_161 rfl (lv_at hl 0 rfl) ?_
                have hpost : ((1 : Int32) = 1 ∧ ∃ p2 L2 : Nat, RC E D G h0 ft fp fn TT p2 nc L2 H ∧ pp + 1 ≤ p2 ∧ pd_R ZZ YY TT (4, fl, nk, L2) p2 = XX) ∨ ((1 : Int32) = 0 ∧ ∃ p2 L2 : Nat, RC E D G h0 ft fp fn TT p2 nc L2 H ∧ pp ≤ p2 ∧ XX = (p2, false)) := Or.inl ⟨rfl, pn6763, Ln6764, hRC6767, by omega, hpd6766⟩
                rw [hQ]
                exact W.zret (v := 1) hx hb hr (by decide) (fun t ht hW => ⟨⟨1, 1, rfl, rfl, ⟨by rw [ht]; exact hI, hN.warm hW, va_K.moved hW.alike hK⟩, by first | (rw [ht]; exact hpost) | exact hpost⟩, hS.F ht⟩) hS.2.2 dX3_plain_162
              · skip
                have k6777 := iv_ne (X := v5995.toInt) (Y := (0)) rfl (by decide) c6775
                refine lv_aload_n hx hb dX3_plain_153 rfl (lv_at hl 2 rfl) ?_
                refine lv_bipush (v := 10) hx hb dX3_plain_154 (by decide) ?_
                refine lv_iconst (v := 0) hx hb dX3_plain_156 (by decide) ?_
                refine nx_i (As := [.int 10, .int 0]) (rest := []) (n := 2) (d := 0) ⟨hx, hb, hml, hown, hts⟩ (c_X3_emit l E D G h0 hG0 10 0 ft fp fn TT pn6763 nc Ln6764) wd_723 wd_725 wp_17 wd_5 wd_726 (by decide +kernel) ⟨by rw [hR]; show 0 + 1 ≤ 21 + 3 * k; omega, by rw [hR]; show 8 + (3 + 11) + 40 * (0) ≤ 40 * (21 + 3 * k); omega⟩ hI hN hK hS hG0 (hRC6767) rfl hl.1 rfl (Nat.le_of_ble_eq_true rfl) dX3_plain_157 ⟨Nat.zero_le _, Nat.zero_le _⟩ (fun r6778 H locs hI hp hS => ?_)
                have hRC6779 := hp
                obtain ⟨hT4, hpT, ⟨w6780, hg6781, k6782⟩, ⟨w6783, hg6784, k6785⟩⟩ := RC.tk hRC6779
                clear hRC6767 hg6769 hg6772 k6774
                have k6786 := TK.at hTK hpT
                refine lv_pop hx hb dX3_plain_160 rfl ?_
                refine lv_iload_n hx hb dX3_plain_161 rfl (lv_at hl 0 rfl) ?_
                have hpost : ((1 : Int32) = 1 ∧ ∃ p2 L2 : Nat, RC E D G h0 ft fp fn TT p2 nc L2 H ∧ pp + 1 ≤ p2 ∧ pd_R ZZ YY TT (4, fl, nk, L2) p2 = XX) ∨ ((1 : Int32) = 0 ∧ ∃ p2 L2 : Nat, RC E D G h0 ft fp fn TT p2 nc L2 H ∧ pp ≤ p2 ∧ XX = (p2, false)) := Or.inl ⟨rfl, pn6763, Ln6764, hRC6779, by omega, hpd6766⟩
                rw [hQ]
                exact W.zret (v := 1) hx hb hr (by decide) (fun t ht hW => ⟨⟨1, 1, rfl, rfl, ⟨by rw [ht]; exact hI, hN.warm hW, va_K.moved hW.alike hK⟩, by first | (rw [ht]; exact hpost) | exact hpost⟩, hS.F ht⟩) hS.2.2 dX3_plain_162
            · skip
              try simp only [rg, not_and, Int.not_le] at hp
              have hp6787 := hp
              obtain ⟨pn6788, Ln6789, hE, k6790, hfl6791⟩ := hp6787
              have hp6787 : True := trivial
              have hRC6792 := hE
              obtain ⟨hT4, hpT, ⟨w6793, hg6794, k6795⟩, ⟨w6796, hg6797, k6798⟩⟩ := RC.tk hRC6792
              clear hRC5999 hg6001 hg6004 k6006
              have k6799 := TK.at hTK hpT
              refine lv_istore_n (lv' := [(3, .int 0), (2, .int v5995), (0, .ref h0), (1, .int x1)]) hx hb dX3_plain_61 rfl hl (by decide) rfl (fun ls hl => ?_)
              refine lv_goto (tgt := 149) hx hb dX3_plain_62 (by decide) ?_
              refine lv_iload_n hx hb dX3_plain_149 rfl (lv_at hl 1 rfl) ?_
              refine lv_if_eq (tgt := 161) hx hb dX3_plain_150 (by decide) (fun c6800 => ?_) (fun c6800 => ?_)
              · skip
                have k6801 := iv_eq (X := v5995.toInt) (Y := (0)) rfl (by decide) c6800
                refine lv_iload_n hx hb dX3_plain_161 rfl (lv_at hl 0 rfl) ?_
                have hpost : ((0 : Int32) = 1 ∧ ∃ p2 L2 : Nat, RC E D G h0 ft fp fn TT p2 nc L2 H ∧ pp + 1 ≤ p2 ∧ pd_R ZZ YY TT (4, fl, nk, L2) p2 = XX) ∨ ((0 : Int32) = 0 ∧ ∃ p2 L2 : Nat, RC E D G h0 ft fp fn TT p2 nc L2 H ∧ pp ≤ p2 ∧ XX = (p2, false)) := Or.inr ⟨rfl, pn6788, Ln6789, hRC6792, by omega, hfl6791⟩
                rw [hQ]
                exact W.zret (v := 0) hx hb hr (by decide) (fun t ht hW => ⟨⟨0, 0, rfl, rfl, ⟨by rw [ht]; exact hI, hN.warm hW, va_K.moved hW.alike hK⟩, by first | (rw [ht]; exact hpost) | exact hpost⟩, hS.F ht⟩) hS.2.2 dX3_plain_162
              · skip
                have k6802 := iv_ne (X := v5995.toInt) (Y := (0)) rfl (by decide) c6800
                refine lv_aload_n hx hb dX3_plain_153 rfl (lv_at hl 2 rfl) ?_
                refine lv_bipush (v := 10) hx hb dX3_plain_154 (by decide) ?_
                refine lv_iconst (v := 0) hx hb dX3_plain_156 (by decide) ?_
                refine nx_i (As := [.int 10, .int 0]) (rest := []) (n := 2) (d := 0) ⟨hx, hb, hml, hown, hts⟩ (c_X3_emit l E D G h0 hG0 10 0 ft fp fn TT pn6788 nc Ln6789) wd_723 wd_725 wp_17 wd_5 wd_726 (by decide +kernel) ⟨by rw [hR]; show 0 + 1 ≤ 21 + 3 * k; omega, by rw [hR]; show 8 + (3 + 11) + 40 * (0) ≤ 40 * (21 + 3 * k); omega⟩ hI hN hK hS hG0 (hRC6792) rfl hl.1 rfl (Nat.le_of_ble_eq_true rfl) dX3_plain_157 ⟨Nat.zero_le _, Nat.zero_le _⟩ (fun r6803 H locs hI hp hS => ?_)
                have hRC6804 := hp
                obtain ⟨hT4, hpT, ⟨w6805, hg6806, k6807⟩, ⟨w6808, hg6809, k6810⟩⟩ := RC.tk hRC6804
                clear hRC6792 hg6794 hg6797 k6799
                have k6811 := TK.at hTK hpT
                refine lv_pop hx hb dX3_plain_160 rfl ?_
                refine lv_iload_n hx hb dX3_plain_161 rfl (lv_at hl 0 rfl) ?_
                have hpost : ((0 : Int32) = 1 ∧ ∃ p2 L2 : Nat, RC E D G h0 ft fp fn TT p2 nc L2 H ∧ pp + 1 ≤ p2 ∧ pd_R ZZ YY TT (4, fl, nk, L2) p2 = XX) ∨ ((0 : Int32) = 0 ∧ ∃ p2 L2 : Nat, RC E D G h0 ft fp fn TT p2 nc L2 H ∧ pp ≤ p2 ∧ XX = (p2, false)) := Or.inr ⟨rfl, pn6788, Ln6789, hRC6804, by omega, hfl6791⟩
                rw [hQ]
                exact W.zret (v := 0) hx hb hr (by decide) (fun t ht hW => ⟨⟨0, 0, rfl, rfl, ⟨by rw [ht]; exact hI, hN.warm hW, va_K.moved hW.alike hK⟩, by first | (rw [ht]; exact hpost) | exact hpost⟩, hS.F ht⟩) hS.2.2 dX3_plain_162
        · skip
          have k6812 := iv_eq (X := w6003.toInt) (Y := (263)) rfl (by decide) c6414
          refine lv_iload_n hx hb dX3_plain_21 rfl (lv_at hl 1 rfl) ?_
          refine lv_if_ne (tgt := 29) hx hb dX3_plain_22 (by decide) (fun c6813 => ?_) (fun c6813 => ?_)
          · skip
            have k6814 := iv_ne (X := v5995.toInt) (Y := (0)) rfl (by decide) c6813
            refine lv_iconst (v := 0) hx hb dX3_plain_29 (by decide) ?_
            refine lv_istore_n (lv' := [(2, .int 0), (3, .int v5994), (0, .ref h0), (1, .int x1)]) hx hb dX3_plain_30 rfl hl (by decide) rfl (fun ls hl => ?_)
            refine lv_aload_n hx hb dX3_plain_31 rfl (lv_at hl 2 rfl) ?_
            refine lv_aload_n hx hb dX3_plain_32 rfl (lv_at hl 2 rfl) ?_
            refine gmIC hx hb hts inT3 hown hK hI List.not_mem_nil hG0 10 (by decide) (hts _ (tb_c wd_139)) rfl rfl dX3_plain_33 (fun w6815 hg6816 k6817 k6818 => ?_)
            obtain rfl := gfC.uniq (by decide) hg6001 hg6816
            refine lv_iconst (v := 1) hx hb dX3_plain_36 (by decide) ?_
            refine lv_iadd hx hb dX3_plain_37 ?_
            refine lv_topi (fun v6819 e6820 => ?_)
            have tv6819 : v6819.toInt = w6000.toInt + (1) := iv_add rfl (by decide) e6820 (by omega) (by omega)
            have hpd6821 : pd_R ZZ YY TT (3, fl, nk, LL) (p1 + 1) = XX := (pd_Q_nt (by omega) (by omega)).symm.trans hpi
            refine nx_v (As := [.int v6819]) (rest := []) (n := 1) (d := 0) ⟨hx, hb, hml, hown, hts⟩ (c_X3_moveTo l E D G h0 hG0 v6819 ft fp fn TT (p1 + 1) nc LL (by first | omega | decide) (by omega)) wd_707 wd_709 wp_13 wd_5 wd_710 (by decide +kernel) ⟨by rw [hR]; show 0 + 1 ≤ 21 + 3 * k; omega, by rw [hR]; show 8 + (2 + 11) + 40 * (0) ≤ 40 * (21 + 3 * k); omega⟩ hI hN hK hS hG0 ((RC.to0 hRC5999)) rfl hl.1 rfl (Nat.le_of_ble_eq_true rfl) dX3_plain_38 ⟨Nat.zero_le _, Nat.zero_le _⟩ (fun H locs hI hp hS => ?_)
            have hRC6823 := hp
            obtain ⟨hT4, hpT, ⟨w6824, hg6825, k6826⟩, ⟨w6827, hg6828, k6829⟩⟩ := RC.tk hRC6823
            clear hRC5999 hg6001 hg6004 k6006
            have k6830 := TK.at hTK hpT
            obtain ⟨v6831, e6832⟩ : ∃ y : Int32, y = v5994 + (1) := ⟨_, rfl⟩
            have tv6831 : v6831.toInt = v5994.toInt + (1) := iv_add rfl (by decide) e6832 (by omega) (by omega)
            refine lv_iinc (v := v6831) (lv' := [(3, .int v6831), (2, .int 0), (0, .ref h0), (1, .int x1)]) hx hb dX3_plain_41 hl (k := 1) rfl (by rw [e6832]; rfl) (by decide) rfl (fun ls hl => ?_)
            refine lv_goto (tgt := 4) hx hb dX3_plain_44 (by decide) ?_
            exact ih_4 _ (by omega) H locs ls v6831 0 (p1 + 1) rfl (lv_sub hl [0, 1, 2, 3] rfl) ⟨by omega, by omega⟩ ⟨by decide, by decide⟩ ⟨by omega, by omega⟩ (by omega) (by first | omega | (rw [show (0 : Int32).toInt = 0 from by decide]; omega)) (hpd6821) (hRC6823) hI hS
          · skip
            have k6833 := iv_eq (X := v5995.toInt) (Y := (0)) rfl (by decide) c6813
            refine lv_iconst (v := 1) hx hb dX3_plain_25 (by decide) ?_
            refine lv_goto (tgt := 30) hx hb dX3_plain_26 (by decide) ?_
            refine lv_istore_n (lv' := [(2, .int 1), (3, .int v5994), (0, .ref h0), (1, .int x1)]) hx hb dX3_plain_30 rfl hl (by decide) rfl (fun ls hl => ?_)
            refine lv_aload_n hx hb dX3_plain_31 rfl (lv_at hl 2 rfl) ?_
            refine lv_aload_n hx hb dX3_plain_32 rfl (lv_at hl 2 rfl) ?_
            refine gmIC hx hb hts inT3 hown hK hI List.not_mem_nil hG0 10 (by decide) (hts _ (tb_c wd_139)) rfl rfl dX3_plain_33 (fun w6834 hg6835 k6836 k6837 => ?_)
            obtain rfl := gfC.uniq (by decide) hg6001 hg6835
            refine lv_iconst (v := 1) hx hb dX3_plain_36 (by decide) ?_
            refine lv_iadd hx hb dX3_plain_37 ?_
            refine lv_topi (fun v6838 e6839 => ?_)
            have tv6838 : v6838.toInt = w6000.toInt + (1) := iv_add rfl (by decide) e6839 (by omega) (by omega)
            have hpd6840 : pd_R ZZ YY TT (3, fl, nk, LL) (p1 + 1) = XX := (pd_Q_nt (by omega) (by omega)).symm.trans hpi
            refine nx_v (As := [.int v6838]) (rest := []) (n := 1) (d := 0) ⟨hx, hb, hml, hown, hts⟩ (c_X3_moveTo l E D G h0 hG0 v6838 ft fp fn TT (p1 + 1) nc LL (by first | omega | decide) (by omega)) wd_707 wd_709 wp_13 wd_5 wd_710 (by decide +kernel) ⟨by rw [hR]; show 0 + 1 ≤ 21 + 3 * k; omega, by rw [hR]; show 8 + (2 + 11) + 40 * (0) ≤ 40 * (21 + 3 * k); omega⟩ hI hN hK hS hG0 ((RC.to0 hRC5999)) rfl hl.1 rfl (Nat.le_of_ble_eq_true rfl) dX3_plain_38 ⟨Nat.zero_le _, Nat.zero_le _⟩ (fun H locs hI hp hS => ?_)
            have hRC6842 := hp
            obtain ⟨hT4, hpT, ⟨w6843, hg6844, k6845⟩, ⟨w6846, hg6847, k6848⟩⟩ := RC.tk hRC6842
            clear hRC5999 hg6001 hg6004 k6006
            have k6849 := TK.at hTK hpT
            obtain ⟨v6850, e6851⟩ : ∃ y : Int32, y = v5994 + (1) := ⟨_, rfl⟩
            have tv6850 : v6850.toInt = v5994.toInt + (1) := iv_add rfl (by decide) e6851 (by omega) (by omega)
            refine lv_iinc (v := v6850) (lv' := [(3, .int v6850), (2, .int 1), (0, .ref h0), (1, .int x1)]) hx hb dX3_plain_41 hl (k := 1) rfl (by rw [e6851]; rfl) (by decide) rfl (fun ls hl => ?_)
            refine lv_goto (tgt := 4) hx hb dX3_plain_44 (by decide) ?_
            exact ih_4 _ (by omega) H locs ls v6850 1 (p1 + 1) rfl (lv_sub hl [0, 1, 2, 3] rfl) ⟨by omega, by omega⟩ ⟨by decide, by decide⟩ ⟨by omega, by omega⟩ (by omega) (by first | omega | (rw [show (0 : Int32).toInt = 0 from by decide]; omega)) (hpd6840) (hRC6842) hI hS
  refine lv_iconst (v := 0) hx hb dX3_plain_0 (by decide) ?_
  refine lv_istore_n (lv' := [(2, .int 0), (0, .ref h0), (1, .int x1)]) hx hb dX3_plain_1 rfl hl (by decide) rfl (fun ls hl => ?_)
  refine lv_iconst (v := 0) hx hb dX3_plain_2 (by decide) ?_
  refine lv_istore_n (lv' := [(3, .int 0), (2, .int 0), (0, .ref h0), (1, .int x1)]) hx hb dX3_plain_3 rfl hl (by decide) rfl (fun ls hl => ?_)
  have zl : (0 : Int32).toInt = 0 := by decide
  exact J_4 _ s.heap [] ls 0 0 pp rfl (lv_sub hl [0, 1, 2, 3] rfl) ⟨by decide, by decide⟩ ⟨by decide, by decide⟩ ⟨by omega, by omega⟩ (by omega) (by first | omega | (rw [show (0 : Int32).toInt = 0 from by decide]; omega)) (hpd) (hRC1) hI hS
