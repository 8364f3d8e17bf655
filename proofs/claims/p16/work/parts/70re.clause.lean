
theorem dX3_clause_0g : (decode cX3_clause 0 = .ok (.aload_n 0, 1)) ∧ (decode cX3_clause 1 = .ok (.getfield 34, 3)) ∧ (decode cX3_clause 4 = .ok (.bipush 12, 2)) ∧ (decode cX3_clause 6 = .ok (.if_icmp .ge 23, 3)) ∧ (decode cX3_clause 9 = .ok (.aload_n 0, 1)) ∧ (decode cX3_clause 10 = .ok (.getfield 46, 3)) ∧ (decode cX3_clause 13 = .ok (.sipush 256, 3)) ∧ (decode cX3_clause 16 = .ok (.if_icmp .lt 13, 3)) ∧ (decode cX3_clause 19 = .ok (.aload_n 0, 1)) ∧ (decode cX3_clause 20 = .ok (.getfield 46, 3)) := by decide +kernel
theorem dX3_clause_0 : decode cX3_clause 0 = .ok (.aload_n 0, 1) := dX3_clause_0g.1
theorem dX3_clause_1 : decode cX3_clause 1 = .ok (.getfield 34, 3) := dX3_clause_0g.2.1
theorem dX3_clause_4 : decode cX3_clause 4 = .ok (.bipush 12, 2) := dX3_clause_0g.2.2.1
theorem dX3_clause_6 : decode cX3_clause 6 = .ok (.if_icmp .ge 23, 3) := dX3_clause_0g.2.2.2.1
theorem dX3_clause_9 : decode cX3_clause 9 = .ok (.aload_n 0, 1) := dX3_clause_0g.2.2.2.2.1
theorem dX3_clause_10 : decode cX3_clause 10 = .ok (.getfield 46, 3) := dX3_clause_0g.2.2.2.2.2.1
theorem dX3_clause_13 : decode cX3_clause 13 = .ok (.sipush 256, 3) := dX3_clause_0g.2.2.2.2.2.2.1
theorem dX3_clause_16 : decode cX3_clause 16 = .ok (.if_icmp .lt 13, 3) := dX3_clause_0g.2.2.2.2.2.2.2.1
theorem dX3_clause_19 : decode cX3_clause 19 = .ok (.aload_n 0, 1) := dX3_clause_0g.2.2.2.2.2.2.2.2.1
theorem dX3_clause_20 : decode cX3_clause 20 = .ok (.getfield 46, 3) := dX3_clause_0g.2.2.2.2.2.2.2.2.2
theorem dX3_clause_23g : (decode cX3_clause 23 = .ok (.sipush 259, 3)) ∧ (decode cX3_clause 26 = .ok (.if_icmp .le 5, 3)) ∧ (decode cX3_clause 29 = .ok (.iconst 0, 1)) ∧ (decode cX3_clause 30 = .ok (.ireturn, 1)) ∧ (decode cX3_clause 31 = .ok (.aload_n 0, 1)) ∧ (decode cX3_clause 32 = .ok (.getfield 11, 3)) ∧ (decode cX3_clause 35 = .ok (.aload_n 0, 1)) ∧ (decode cX3_clause 36 = .ok (.getfield 34, 3)) ∧ (decode cX3_clause 39 = .ok (.aload_n 0, 1)) ∧ (decode cX3_clause 40 = .ok (.getfield 46, 3)) := by decide +kernel
theorem dX3_clause_23 : decode cX3_clause 23 = .ok (.sipush 259, 3) := dX3_clause_23g.1
theorem dX3_clause_26 : decode cX3_clause 26 = .ok (.if_icmp .le 5, 3) := dX3_clause_23g.2.1
theorem dX3_clause_29 : decode cX3_clause 29 = .ok (.iconst 0, 1) := dX3_clause_23g.2.2.1
theorem dX3_clause_30 : decode cX3_clause 30 = .ok (.ireturn, 1) := dX3_clause_23g.2.2.2.1
theorem dX3_clause_31 : decode cX3_clause 31 = .ok (.aload_n 0, 1) := dX3_clause_23g.2.2.2.2.1
theorem dX3_clause_32 : decode cX3_clause 32 = .ok (.getfield 11, 3) := dX3_clause_23g.2.2.2.2.2.1
theorem dX3_clause_35 : decode cX3_clause 35 = .ok (.aload_n 0, 1) := dX3_clause_23g.2.2.2.2.2.2.1
theorem dX3_clause_36 : decode cX3_clause 36 = .ok (.getfield 34, 3) := dX3_clause_23g.2.2.2.2.2.2.2.1
theorem dX3_clause_39 : decode cX3_clause 39 = .ok (.aload_n 0, 1) := dX3_clause_23g.2.2.2.2.2.2.2.2.1
theorem dX3_clause_40 : decode cX3_clause 40 = .ok (.getfield 46, 3) := dX3_clause_23g.2.2.2.2.2.2.2.2.2
theorem dX3_clause_43g : (decode cX3_clause 43 = .ok (.sipush 256, 3)) ∧ (decode cX3_clause 46 = .ok (.isub, 1)) ∧ (decode cX3_clause 47 = .ok (.iastore, 1)) ∧ (decode cX3_clause 48 = .ok (.aload_n 0, 1)) ∧ (decode cX3_clause 49 = .ok (.getfield 46, 3)) ∧ (decode cX3_clause 52 = .ok (.sipush 259, 3)) ∧ (decode cX3_clause 55 = .ok (.if_icmp .eq 7, 3)) ∧ (decode cX3_clause 58 = .ok (.iconst 1, 1)) ∧ (decode cX3_clause 59 = .ok (.goto 4, 3)) ∧ (decode cX3_clause 62 = .ok (.iconst 0, 1)) := by decide +kernel
theorem dX3_clause_43 : decode cX3_clause 43 = .ok (.sipush 256, 3) := dX3_clause_43g.1
theorem dX3_clause_46 : decode cX3_clause 46 = .ok (.isub, 1) := dX3_clause_43g.2.1
theorem dX3_clause_47 : decode cX3_clause 47 = .ok (.iastore, 1) := dX3_clause_43g.2.2.1
theorem dX3_clause_48 : decode cX3_clause 48 = .ok (.aload_n 0, 1) := dX3_clause_43g.2.2.2.1
theorem dX3_clause_49 : decode cX3_clause 49 = .ok (.getfield 46, 3) := dX3_clause_43g.2.2.2.2.1
theorem dX3_clause_52 : decode cX3_clause 52 = .ok (.sipush 259, 3) := dX3_clause_43g.2.2.2.2.2.1
theorem dX3_clause_55 : decode cX3_clause 55 = .ok (.if_icmp .eq 7, 3) := dX3_clause_43g.2.2.2.2.2.2.1
theorem dX3_clause_58 : decode cX3_clause 58 = .ok (.iconst 1, 1) := dX3_clause_43g.2.2.2.2.2.2.2.1
theorem dX3_clause_59 : decode cX3_clause 59 = .ok (.goto 4, 3) := dX3_clause_43g.2.2.2.2.2.2.2.2.1
theorem dX3_clause_62 : decode cX3_clause 62 = .ok (.iconst 0, 1) := dX3_clause_43g.2.2.2.2.2.2.2.2.2
theorem dX3_clause_63g : (decode cX3_clause 63 = .ok (.istore_n 1, 1)) ∧ (decode cX3_clause 64 = .ok (.aload_n 0, 1)) ∧ (decode cX3_clause 65 = .ok (.getfield 15, 3)) ∧ (decode cX3_clause 68 = .ok (.iconst 2, 1)) ∧ (decode cX3_clause 69 = .ok (.aload_n 0, 1)) ∧ (decode cX3_clause 70 = .ok (.getfield 34, 3)) ∧ (decode cX3_clause 73 = .ok (.imul, 1)) ∧ (decode cX3_clause 74 = .ok (.aload_n 0, 1)) ∧ (decode cX3_clause 75 = .ok (.getfield 40, 3)) ∧ (decode cX3_clause 78 = .ok (.iastore, 1)) := by decide +kernel
theorem dX3_clause_63 : decode cX3_clause 63 = .ok (.istore_n 1, 1) := dX3_clause_63g.1
theorem dX3_clause_64 : decode cX3_clause 64 = .ok (.aload_n 0, 1) := dX3_clause_63g.2.1
theorem dX3_clause_65 : decode cX3_clause 65 = .ok (.getfield 15, 3) := dX3_clause_63g.2.2.1
theorem dX3_clause_68 : decode cX3_clause 68 = .ok (.iconst 2, 1) := dX3_clause_63g.2.2.2.1
theorem dX3_clause_69 : decode cX3_clause 69 = .ok (.aload_n 0, 1) := dX3_clause_63g.2.2.2.2.1
theorem dX3_clause_70 : decode cX3_clause 70 = .ok (.getfield 34, 3) := dX3_clause_63g.2.2.2.2.2.1
theorem dX3_clause_73 : decode cX3_clause 73 = .ok (.imul, 1) := dX3_clause_63g.2.2.2.2.2.2.1
theorem dX3_clause_74 : decode cX3_clause 74 = .ok (.aload_n 0, 1) := dX3_clause_63g.2.2.2.2.2.2.2.1
theorem dX3_clause_75 : decode cX3_clause 75 = .ok (.getfield 40, 3) := dX3_clause_63g.2.2.2.2.2.2.2.2.1
theorem dX3_clause_78 : decode cX3_clause 78 = .ok (.iastore, 1) := dX3_clause_63g.2.2.2.2.2.2.2.2.2
theorem dX3_clause_79g : (decode cX3_clause 79 = .ok (.aload_n 0, 1)) ∧ (decode cX3_clause 80 = .ok (.aload_n 0, 1)) ∧ (decode cX3_clause 81 = .ok (.getfield 43, 3)) ∧ (decode cX3_clause 84 = .ok (.iconst 1, 1)) ∧ (decode cX3_clause 85 = .ok (.iadd, 1)) ∧ (decode cX3_clause 86 = .ok (.invokevirtual 66, 3)) ∧ (decode cX3_clause 89 = .ok (.iload_n 1, 1)) ∧ (decode cX3_clause 90 = .ok (.ifCond .eq 13, 3)) ∧ (decode cX3_clause 93 = .ok (.aload_n 0, 1)) ∧ (decode cX3_clause 94 = .ok (.iconst 0, 1)) := by decide +kernel
theorem dX3_clause_79 : decode cX3_clause 79 = .ok (.aload_n 0, 1) := dX3_clause_79g.1
theorem dX3_clause_80 : decode cX3_clause 80 = .ok (.aload_n 0, 1) := dX3_clause_79g.2.1
theorem dX3_clause_81 : decode cX3_clause 81 = .ok (.getfield 43, 3) := dX3_clause_79g.2.2.1
theorem dX3_clause_84 : decode cX3_clause 84 = .ok (.iconst 1, 1) := dX3_clause_79g.2.2.2.1
theorem dX3_clause_85 : decode cX3_clause 85 = .ok (.iadd, 1) := dX3_clause_79g.2.2.2.2.1
theorem dX3_clause_86 : decode cX3_clause 86 = .ok (.invokevirtual 66, 3) := dX3_clause_79g.2.2.2.2.2.1
theorem dX3_clause_89 : decode cX3_clause 89 = .ok (.iload_n 1, 1) := dX3_clause_79g.2.2.2.2.2.2.1
theorem dX3_clause_90 : decode cX3_clause 90 = .ok (.ifCond .eq 13, 3) := dX3_clause_79g.2.2.2.2.2.2.2.1
theorem dX3_clause_93 : decode cX3_clause 93 = .ok (.aload_n 0, 1) := dX3_clause_79g.2.2.2.2.2.2.2.2.1
theorem dX3_clause_94 : decode cX3_clause 94 = .ok (.iconst 0, 1) := dX3_clause_79g.2.2.2.2.2.2.2.2.2
theorem dX3_clause_95g : (decode cX3_clause 95 = .ok (.invokevirtual 97, 3)) ∧ (decode cX3_clause 98 = .ok (.ifCond .ne 5, 3)) ∧ (decode cX3_clause 101 = .ok (.iconst 0, 1)) ∧ (decode cX3_clause 102 = .ok (.ireturn, 1)) ∧ (decode cX3_clause 103 = .ok (.aload_n 0, 1)) ∧ (decode cX3_clause 104 = .ok (.getfield 15, 3)) ∧ (decode cX3_clause 107 = .ok (.iconst 2, 1)) ∧ (decode cX3_clause 108 = .ok (.aload_n 0, 1)) ∧ (decode cX3_clause 109 = .ok (.getfield 34, 3)) ∧ (decode cX3_clause 112 = .ok (.imul, 1)) := by decide +kernel
theorem dX3_clause_95 : decode cX3_clause 95 = .ok (.invokevirtual 97, 3) := dX3_clause_95g.1
theorem dX3_clause_98 : decode cX3_clause 98 = .ok (.ifCond .ne 5, 3) := dX3_clause_95g.2.1
theorem dX3_clause_101 : decode cX3_clause 101 = .ok (.iconst 0, 1) := dX3_clause_95g.2.2.1
theorem dX3_clause_102 : decode cX3_clause 102 = .ok (.ireturn, 1) := dX3_clause_95g.2.2.2.1
theorem dX3_clause_103 : decode cX3_clause 103 = .ok (.aload_n 0, 1) := dX3_clause_95g.2.2.2.2.1
theorem dX3_clause_104 : decode cX3_clause 104 = .ok (.getfield 15, 3) := dX3_clause_95g.2.2.2.2.2.1
theorem dX3_clause_107 : decode cX3_clause 107 = .ok (.iconst 2, 1) := dX3_clause_95g.2.2.2.2.2.2.1
theorem dX3_clause_108 : decode cX3_clause 108 = .ok (.aload_n 0, 1) := dX3_clause_95g.2.2.2.2.2.2.2.1
theorem dX3_clause_109 : decode cX3_clause 109 = .ok (.getfield 34, 3) := dX3_clause_95g.2.2.2.2.2.2.2.2.1
theorem dX3_clause_112 : decode cX3_clause 112 = .ok (.imul, 1) := dX3_clause_95g.2.2.2.2.2.2.2.2.2
theorem dX3_clause_113g : (decode cX3_clause 113 = .ok (.iconst 1, 1)) ∧ (decode cX3_clause 114 = .ok (.iadd, 1)) ∧ (decode cX3_clause 115 = .ok (.aload_n 0, 1)) ∧ (decode cX3_clause 116 = .ok (.getfield 40, 3)) ∧ (decode cX3_clause 119 = .ok (.iastore, 1)) ∧ (decode cX3_clause 120 = .ok (.aload_n 0, 1)) ∧ (decode cX3_clause 121 = .ok (.getfield 46, 3)) ∧ (decode cX3_clause 124 = .ok (.sipush 260, 3)) ∧ (decode cX3_clause 127 = .ok (.if_icmp .ne 23, 3)) ∧ (decode cX3_clause 130 = .ok (.aload_n 0, 1)) := by decide +kernel
theorem dX3_clause_113 : decode cX3_clause 113 = .ok (.iconst 1, 1) := dX3_clause_113g.1
theorem dX3_clause_114 : decode cX3_clause 114 = .ok (.iadd, 1) := dX3_clause_113g.2.1
theorem dX3_clause_115 : decode cX3_clause 115 = .ok (.aload_n 0, 1) := dX3_clause_113g.2.2.1
theorem dX3_clause_116 : decode cX3_clause 116 = .ok (.getfield 40, 3) := dX3_clause_113g.2.2.2.1
theorem dX3_clause_119 : decode cX3_clause 119 = .ok (.iastore, 1) := dX3_clause_113g.2.2.2.2.1
theorem dX3_clause_120 : decode cX3_clause 120 = .ok (.aload_n 0, 1) := dX3_clause_113g.2.2.2.2.2.1
theorem dX3_clause_121 : decode cX3_clause 121 = .ok (.getfield 46, 3) := dX3_clause_113g.2.2.2.2.2.2.1
theorem dX3_clause_124 : decode cX3_clause 124 = .ok (.sipush 260, 3) := dX3_clause_113g.2.2.2.2.2.2.2.1
theorem dX3_clause_127 : decode cX3_clause 127 = .ok (.if_icmp .ne 23, 3) := dX3_clause_113g.2.2.2.2.2.2.2.2.1
theorem dX3_clause_130 : decode cX3_clause 130 = .ok (.aload_n 0, 1) := dX3_clause_113g.2.2.2.2.2.2.2.2.2
theorem dX3_clause_131g : (decode cX3_clause 131 = .ok (.aload_n 0, 1)) ∧ (decode cX3_clause 132 = .ok (.getfield 43, 3)) ∧ (decode cX3_clause 135 = .ok (.iconst 1, 1)) ∧ (decode cX3_clause 136 = .ok (.iadd, 1)) ∧ (decode cX3_clause 137 = .ok (.invokevirtual 66, 3)) ∧ (decode cX3_clause 140 = .ok (.aload_n 0, 1)) ∧ (decode cX3_clause 141 = .ok (.iconst 0, 1)) ∧ (decode cX3_clause 142 = .ok (.invokevirtual 100, 3)) ∧ (decode cX3_clause 145 = .ok (.ifCond .ne 5, 3)) ∧ (decode cX3_clause 148 = .ok (.iconst 0, 1)) := by decide +kernel
theorem dX3_clause_131 : decode cX3_clause 131 = .ok (.aload_n 0, 1) := dX3_clause_131g.1
theorem dX3_clause_132 : decode cX3_clause 132 = .ok (.getfield 43, 3) := dX3_clause_131g.2.1
theorem dX3_clause_135 : decode cX3_clause 135 = .ok (.iconst 1, 1) := dX3_clause_131g.2.2.1
theorem dX3_clause_136 : decode cX3_clause 136 = .ok (.iadd, 1) := dX3_clause_131g.2.2.2.1
theorem dX3_clause_137 : decode cX3_clause 137 = .ok (.invokevirtual 66, 3) := dX3_clause_131g.2.2.2.2.1
theorem dX3_clause_140 : decode cX3_clause 140 = .ok (.aload_n 0, 1) := dX3_clause_131g.2.2.2.2.2.1
theorem dX3_clause_141 : decode cX3_clause 141 = .ok (.iconst 0, 1) := dX3_clause_131g.2.2.2.2.2.2.1
theorem dX3_clause_142 : decode cX3_clause 142 = .ok (.invokevirtual 100, 3) := dX3_clause_131g.2.2.2.2.2.2.2.1
theorem dX3_clause_145 : decode cX3_clause 145 = .ok (.ifCond .ne 5, 3) := dX3_clause_131g.2.2.2.2.2.2.2.2.1
theorem dX3_clause_148 : decode cX3_clause 148 = .ok (.iconst 0, 1) := dX3_clause_131g.2.2.2.2.2.2.2.2.2
theorem dX3_clause_149g : (decode cX3_clause 149 = .ok (.ireturn, 1)) ∧ (decode cX3_clause 150 = .ok (.aload_n 0, 1)) ∧ (decode cX3_clause 151 = .ok (.dup, 1)) ∧ (decode cX3_clause 152 = .ok (.getfield 34, 3)) ∧ (decode cX3_clause 155 = .ok (.iconst 1, 1)) ∧ (decode cX3_clause 156 = .ok (.iadd, 1)) ∧ (decode cX3_clause 157 = .ok (.putfield 34, 3)) ∧ (decode cX3_clause 160 = .ok (.aload_n 0, 1)) ∧ (decode cX3_clause 161 = .ok (.getfield 15, 3)) ∧ (decode cX3_clause 164 = .ok (.iconst 2, 1)) := by decide +kernel
theorem dX3_clause_149 : decode cX3_clause 149 = .ok (.ireturn, 1) := dX3_clause_149g.1
theorem dX3_clause_150 : decode cX3_clause 150 = .ok (.aload_n 0, 1) := dX3_clause_149g.2.1
theorem dX3_clause_151 : decode cX3_clause 151 = .ok (.dup, 1) := dX3_clause_149g.2.2.1
theorem dX3_clause_152 : decode cX3_clause 152 = .ok (.getfield 34, 3) := dX3_clause_149g.2.2.2.1
theorem dX3_clause_155 : decode cX3_clause 155 = .ok (.iconst 1, 1) := dX3_clause_149g.2.2.2.2.1
theorem dX3_clause_156 : decode cX3_clause 156 = .ok (.iadd, 1) := dX3_clause_149g.2.2.2.2.2.1
theorem dX3_clause_157 : decode cX3_clause 157 = .ok (.putfield 34, 3) := dX3_clause_149g.2.2.2.2.2.2.1
theorem dX3_clause_160 : decode cX3_clause 160 = .ok (.aload_n 0, 1) := dX3_clause_149g.2.2.2.2.2.2.2.1
theorem dX3_clause_161 : decode cX3_clause 161 = .ok (.getfield 15, 3) := dX3_clause_149g.2.2.2.2.2.2.2.2.1
theorem dX3_clause_164 : decode cX3_clause 164 = .ok (.iconst 2, 1) := dX3_clause_149g.2.2.2.2.2.2.2.2.2
theorem dX3_clause_165g : (decode cX3_clause 165 = .ok (.aload_n 0, 1)) ∧ (decode cX3_clause 166 = .ok (.getfield 34, 3)) ∧ (decode cX3_clause 169 = .ok (.imul, 1)) ∧ (decode cX3_clause 170 = .ok (.aload_n 0, 1)) ∧ (decode cX3_clause 171 = .ok (.getfield 40, 3)) ∧ (decode cX3_clause 174 = .ok (.iastore, 1)) ∧ (decode cX3_clause 175 = .ok (.iconst 1, 1)) ∧ (decode cX3_clause 176 = .ok (.ireturn, 1)) := by decide +kernel
theorem dX3_clause_165 : decode cX3_clause 165 = .ok (.aload_n 0, 1) := dX3_clause_165g.1
theorem dX3_clause_166 : decode cX3_clause 166 = .ok (.getfield 34, 3) := dX3_clause_165g.2.1
theorem dX3_clause_169 : decode cX3_clause 169 = .ok (.imul, 1) := dX3_clause_165g.2.2.1
theorem dX3_clause_170 : decode cX3_clause 170 = .ok (.aload_n 0, 1) := dX3_clause_165g.2.2.2.1
theorem dX3_clause_171 : decode cX3_clause 171 = .ok (.getfield 40, 3) := dX3_clause_165g.2.2.2.2.1
theorem dX3_clause_174 : decode cX3_clause 174 = .ok (.iastore, 1) := dX3_clause_165g.2.2.2.2.2.1
theorem dX3_clause_175 : decode cX3_clause 175 = .ok (.iconst 1, 1) := dX3_clause_165g.2.2.2.2.2.2.1
theorem dX3_clause_176 : decode cX3_clause 176 = .ok (.ireturn, 1) := dX3_clause_165g.2.2.2.2.2.2.2
set_option maxHeartbeats 4000000 in
set_option maxRecDepth 100000 in
theorem c_X3_clause (l : Launch) (E : Nat → Nat) (D : va_G) (G : th_G) (h0 : Nat) (hG0 : G h0 = some (7, 12)) (ft fp fn : Nat → Int32) (TT pp nc LL : Nat) (ZZ : Nat → Int) (YY : Nat → Bool) (nk : Nat) (XX : Nat × Bool) (hTK : TK ft fn TT ZZ YY) (hnk : nk = nc) (hpd : pd_R ZZ YY TT (0, [], nk, LL) pp = XX) : Met l yX3_clause (tb (.code yX3_clause cX3_clause 2 (some .boolean))) (rm 47) (va_Pc [.ref h0] (PCx E D G (fun H => RC E D G h0 ft fp fn TT pp nc LL H))) (QCi E D G (fun r H => ((r : Int32) = 1 ∧ ∃ p2 L2 : Nat, RC E D G h0 ft fp fn TT p2 (nc + 1) L2 H ∧ pp + 1 ≤ p2 ∧ pd_R ZZ YY TT (5, [], nk + 1, L2) p2 = XX) ∨ ((r : Int32) = 0 ∧ ∃ p2 L2 : Nat, RC E D G h0 ft fp fn TT p2 nc L2 H ∧ pp ≤ p2 ∧ XX = (p2, false)))) 0 0 (th_A G) := by
  refine Met.ofW (cc := cX3_clause) (maxL := 2) (ret := (some .boolean)) (by decide) rfl ?_
  intro p e s m args below meth c s₁ B hml hv
  obtain ⟨hav, ⟨hI, hN, hK⟩, hX⟩ := hv
  have hx := B.exec
  have hb := B.bytes
  have hr := B.returns
  have hts := atoms_spec (ws := tb (.code yX3_clause cX3_clause 2 (some .boolean))) B.pre
  have hown : s.vm.findClass RX3 = some m.cls := findClass_of_methodNamed B.named
  have hlocks := B.notSynchronized
  have hS : va_S (th_A G) s.heap s.heap [] := va_S.rf
  have hl := lv_entry ([.ref h0]) (n := 2) (Nat.le_of_ble_eq_true rfl)
  rw [show entryFrame m args 2 = entryFrame m ([.ref h0] : List Value).toArray 2 from by rw [hav], lg_entry_eq]
  generalize (lg_sl ([.ref h0]) ++ List.replicate (2 - (lg_sl ([.ref h0])).length) Slot.unset).toArray = ls at hl ⊢
  have hl : lv_has ls 2 [(0, .ref h0)] := hl
  generalize hR : (headSpec (tb (.code yX3_clause cX3_clause 2 (some .boolean))) (rm 47)).room = R
  have hR := hR.symm
  generalize hQ : MQ below (QCi E D G (fun r H => ((r : Int32) = 1 ∧ ∃ p2 L2 : Nat, RC E D G h0 ft fp fn TT p2 (nc + 1) L2 H ∧ pp + 1 ≤ p2 ∧ pd_R ZZ YY TT (5, [], nk + 1, L2) p2 = XX) ∨ ((r : Int32) = 0 ∧ ∃ p2 L2 : Nat, RC E D G h0 ft fp fn TT p2 nc L2 H ∧ pp ≤ p2 ∧ XX = (p2, false)))) args s 0 0 (th_A G) = QF
  have hQ := hQ.symm
  obtain ⟨hT4, hn12, ⟨a1, hf2, hq3, hA4⟩, ⟨a5, hf6, hq7, hA8⟩, ⟨a9, hf10, hq11, hA12⟩, ⟨w13, hg14, k15⟩, ⟨w16, hg17, k18⟩, ⟨w19, hg20, k21⟩, hpT, ⟨w22, hg23, k24⟩, ⟨w25, hg26, k27⟩⟩ := hX
  have k28 := iv_lo w19
  have k29 := iv_hi w19
  have k30 := TK.at hTK hpT
  refine lv_aload_n hx hb dX3_clause_0 rfl (lv_at hl 0 rfl) ?_
  refine gmIC hx hb hts inT3 hown hK hI List.not_mem_nil hG0 7 (by decide) (hts _ (tb_c wd_136)) rfl rfl dX3_clause_1 (fun w31 hg32 k33 k34 => ?_)
  obtain rfl := gfC.uniq (by decide) hg17 hg32
  refine lv_bipush (v := 12) hx hb dX3_clause_4 (by decide) ?_
  refine lv_icmp_ge (tgt := 29) hx hb dX3_clause_6 (by decide) (fun c35 => ?_) (fun c35 => ?_)
  · skip
    have k36 := iv_le (X := (12)) (Y := w16.toInt) (by decide) rfl c35
    refine lv_iconst (v := 0) hx hb dX3_clause_29 (by decide) ?_
    have hpost : ((0 : Int32) = 1 ∧ ∃ p2 L2 : Nat, RC E D G h0 ft fp fn TT p2 (nc + 1) L2 s.heap ∧ pp + 1 ≤ p2 ∧ pd_R ZZ YY TT (5, [], nk + 1, L2) p2 = XX) ∨ ((0 : Int32) = 0 ∧ ∃ p2 L2 : Nat, RC E D G h0 ft fp fn TT p2 nc L2 s.heap ∧ pp ≤ p2 ∧ XX = (p2, false)) := Or.inr ⟨rfl, pp, LL, ⟨by omega, by omega, ⟨a1, hf2, hq3, hA4⟩, ⟨a5, hf6, hq7, hA8⟩, ⟨a9, hf10, hq11, hA12⟩, ⟨w13, hg14, by first | omega | decide⟩, ⟨w16, hg17, by first | omega | decide⟩, ⟨w19, hg20, by first | omega | decide⟩, by omega, ⟨w22, hg23, by first | omega | decide⟩, ⟨w25, hg26, by first | omega | decide⟩⟩, by omega, (hpd.symm.trans (pd_H_no (fun h9 h10 => by omega)))⟩
    rw [hQ]
    exact W.zret (v := 0) hx hb hr (by decide) (fun t ht hW => ⟨⟨0, 0, rfl, rfl, ⟨by rw [ht]; exact hI, hN.warm hW, va_K.moved hW.alike hK⟩, by first | (rw [ht]; exact hpost) | exact hpost⟩, hS.F ht⟩) hS.2.2 dX3_clause_30
  · skip
    have k37 := iv_nle (X := (12)) (Y := w16.toInt) (by decide) rfl c35
    refine lv_aload_n hx hb dX3_clause_9 rfl (lv_at hl 0 rfl) ?_
    refine gmIC hx hb hts inT3 hown hK hI List.not_mem_nil hG0 11 (by decide) (hts _ (tb_c wd_140)) rfl rfl dX3_clause_10 (fun w38 hg39 k40 k41 => ?_)
    obtain rfl := gfC.uniq (by decide) hg26 hg39
    refine lv_sipush (v := 256) hx hb dX3_clause_13 (by decide) ?_
    have k42 := iv_lo w25
    have k43 := iv_hi w25
    refine lv_icmp_lt (tgt := 29) hx hb dX3_clause_16 (by decide) (fun c44 => ?_) (fun c44 => ?_)
    · skip
      have k45 := iv_lt (X := w25.toInt) (Y := (256)) rfl (by decide) c44
      refine lv_iconst (v := 0) hx hb dX3_clause_29 (by decide) ?_
      have hpost : ((0 : Int32) = 1 ∧ ∃ p2 L2 : Nat, RC E D G h0 ft fp fn TT p2 (nc + 1) L2 s.heap ∧ pp + 1 ≤ p2 ∧ pd_R ZZ YY TT (5, [], nk + 1, L2) p2 = XX) ∨ ((0 : Int32) = 0 ∧ ∃ p2 L2 : Nat, RC E D G h0 ft fp fn TT p2 nc L2 s.heap ∧ pp ≤ p2 ∧ XX = (p2, false)) := Or.inr ⟨rfl, pp, LL, ⟨by omega, by omega, ⟨a1, hf2, hq3, hA4⟩, ⟨a5, hf6, hq7, hA8⟩, ⟨a9, hf10, hq11, hA12⟩, ⟨w13, hg14, by first | omega | decide⟩, ⟨w16, hg17, by first | omega | decide⟩, ⟨w19, hg20, by first | omega | decide⟩, by omega, ⟨w22, hg23, by first | omega | decide⟩, ⟨w25, hg26, by first | omega | decide⟩⟩, by omega, (hpd.symm.trans (pd_H_no (fun h9 h10 => by omega)))⟩
      rw [hQ]
      exact W.zret (v := 0) hx hb hr (by decide) (fun t ht hW => ⟨⟨0, 0, rfl, rfl, ⟨by rw [ht]; exact hI, hN.warm hW, va_K.moved hW.alike hK⟩, by first | (rw [ht]; exact hpost) | exact hpost⟩, hS.F ht⟩) hS.2.2 dX3_clause_30
    · skip
      have k46 := iv_nlt (X := w25.toInt) (Y := (256)) rfl (by decide) c44
      refine lv_aload_n hx hb dX3_clause_19 rfl (lv_at hl 0 rfl) ?_
      refine gmIC hx hb hts inT3 hown hK hI List.not_mem_nil hG0 11 (by decide) (hts _ (tb_c wd_140)) rfl rfl dX3_clause_20 (fun w47 hg48 k49 k50 => ?_)
      obtain rfl := gfC.uniq (by decide) hg26 hg48
      refine lv_sipush (v := 259) hx hb dX3_clause_23 (by decide) ?_
      refine lv_icmp_le (tgt := 31) hx hb dX3_clause_26 (by decide) (fun c51 => ?_) (fun c51 => ?_)
      · skip
        have k52 := iv_le (X := w25.toInt) (Y := (259)) rfl (by decide) c51
        refine lv_aload_n hx hb dX3_clause_31 rfl (lv_at hl 0 rfl) ?_
        refine gmAC hx hb hts inT3 hown hK hI List.not_mem_nil hG0 0 (by decide) (hts _ (tb_c wd_129)) rfl rfl dX3_clause_32 (fun a53 hq54 hf55 => ?_)
        refine lv_aload_n hx hb dX3_clause_35 rfl (lv_at hl 0 rfl) ?_
        refine gmIC hx hb hts inT3 hown hK hI List.not_mem_nil hG0 7 (by decide) (hts _ (tb_c wd_136)) rfl rfl dX3_clause_36 (fun w56 hg57 k58 k59 => ?_)
        obtain rfl := gfC.uniq (by decide) hg17 hg57
        refine lv_aload_n hx hb dX3_clause_39 rfl (lv_at hl 0 rfl) ?_
        refine gmIC hx hb hts inT3 hown hK hI List.not_mem_nil hG0 11 (by decide) (hts _ (tb_c wd_140)) rfl rfl dX3_clause_40 (fun w60 hg61 k62 k63 => ?_)
        obtain rfl := gfC.uniq (by decide) hg26 hg61
        refine lv_sipush (v := 256) hx hb dX3_clause_43 (by decide) ?_
        refine lv_isub hx hb dX3_clause_46 ?_
        refine lv_topi (fun v64 e65 => ?_)
        have tv64 : v64.toInt = w25.toInt - (256) := iv_sub rfl (by decide) e65 (by omega) (by omega)
        obtain ⟨F66, hA67⟩ := op_0 hI hq54 List.not_mem_nil
        refine th_iast hx hb hK hA67 0 rfl hS ⟨_, hq54⟩ (iv_in (X := w16.toInt) rfl (by omega) (by omega)) dX3_clause_47 (fun H locs hA68 oq hS => ?_)
        have hI := th_I.put hI hq54 hA68 ok_0 oq
        have hg14 := gfC.arr hG0 hq54 (by decide) oq hg14
        have hg17 := gfC.arr hG0 hq54 (by decide) oq hg17
        have hg20 := gfC.arr hG0 hq54 (by decide) oq hg20
        have hg23 := gfC.arr hG0 hq54 (by decide) oq hg23
        have hg26 := gfC.arr hG0 hq54 (by decide) oq hg26
        have hf2 := frC.arr hG0 hq54 (by decide) oq hf2
        have hf6 := frC.arr hG0 hq54 (by decide) oq hf6
        have hf10 := frC.arr hG0 hq54 (by decide) oq hf10
        have hf55 := frC.arr hG0 hq54 (by decide) oq hf55
        have hA4 := va_at.kept hA4 (oq _ (m_ne hq3 hq54 (by first | decide | (dsimp only; decide))))
        have hA8 := va_at.kept hA8 (oq _ (m_ne hq7 hq54 (by first | decide | (dsimp only; decide))))
        have hA12 := va_at.kept hA12 (oq _ (m_ne hq11 hq54 (by first | decide | (dsimp only; decide))))
        have e69 : v64 = (upd F66 (w16 : Int32).toNatClampNeg v64) (w16 : Int32).toNatClampNeg := rd_us
        refine lv_aload_n hx hb dX3_clause_48 rfl (lv_at hl 0 rfl) ?_
        refine gmIC hx hb hts inT3 hown hK hI List.not_mem_nil hG0 11 (by decide) (hts _ (tb_c wd_140)) rfl rfl dX3_clause_49 (fun w70 hg71 k72 k73 => ?_)
        obtain rfl := gfC.uniq (by decide) hg26 hg71
        refine lv_sipush (v := 259) hx hb dX3_clause_52 (by decide) ?_
        refine lv_icmp_eq (tgt := 62) hx hb dX3_clause_55 (by decide) (fun c74 => ?_) (fun c74 => ?_)
        · skip
          have k75 := iv_eq (X := w25.toInt) (Y := (259)) rfl (by decide) c74
          refine lv_iconst (v := 0) hx hb dX3_clause_62 (by decide) ?_
          refine lv_istore_n (lv' := [(1, .int 0), (0, .ref h0)]) hx hb dX3_clause_63 rfl hl (by decide) rfl (fun ls hl => ?_)
          refine lv_aload_n hx hb dX3_clause_64 rfl (lv_at hl 1 rfl) ?_
          refine gmAC hx hb hts inT3 hown hK hI List.not_mem_nil hG0 1 (by decide) (hts _ (tb_c wd_130)) rfl rfl dX3_clause_65 (fun a76 hq77 hf78 => ?_)
          refine lv_iconst (v := 2) hx hb dX3_clause_68 (by decide) ?_
          refine lv_aload_n hx hb dX3_clause_69 rfl (lv_at hl 1 rfl) ?_
          refine gmIC hx hb hts inT3 hown hK hI List.not_mem_nil hG0 7 (by decide) (hts _ (tb_c wd_136)) rfl rfl dX3_clause_70 (fun w79 hg80 k81 k82 => ?_)
          obtain rfl := gfC.uniq (by decide) hg17 hg80
          refine lv_imul hx hb dX3_clause_73 ?_
          refine lv_topi (fun v83 e84 => ?_)
          have tv83 : v83.toInt = (2) * w16.toInt := iv_mul (by decide) rfl e84 (by omega) (by omega)
          refine lv_aload_n hx hb dX3_clause_74 rfl (lv_at hl 1 rfl) ?_
          refine gmIC hx hb hts inT3 hown hK hI List.not_mem_nil hG0 9 (by decide) (hts _ (tb_c wd_138)) rfl rfl dX3_clause_75 (fun w85 hg86 k87 k88 => ?_)
          obtain ⟨F89, hA90⟩ := op_0 hI hq77 List.not_mem_nil
          refine th_iast hx hb hK hA90 0 rfl hS ⟨_, hq77⟩ (iv_in (X := v83.toInt) rfl (by omega) (by omega)) dX3_clause_78 (fun H locs hA91 oq hS => ?_)
          have hI := th_I.put hI hq77 hA91 ok_0 oq
          have hg14 := gfC.arr hG0 hq77 (by decide) oq hg14
          have hg17 := gfC.arr hG0 hq77 (by decide) oq hg17
          have hg20 := gfC.arr hG0 hq77 (by decide) oq hg20
          have hg23 := gfC.arr hG0 hq77 (by decide) oq hg23
          have hg26 := gfC.arr hG0 hq77 (by decide) oq hg26
          have hg86 := gfC.arr hG0 hq77 (by decide) oq hg86
          have hf2 := frC.arr hG0 hq77 (by decide) oq hf2
          have hf6 := frC.arr hG0 hq77 (by decide) oq hf6
          have hf10 := frC.arr hG0 hq77 (by decide) oq hf10
          have hf55 := frC.arr hG0 hq77 (by decide) oq hf55
          have hf78 := frC.arr hG0 hq77 (by decide) oq hf78
          have hA4 := va_at.kept hA4 (oq _ (m_ne hq3 hq77 (by first | decide | (dsimp only; decide))))
          have hA8 := va_at.kept hA8 (oq _ (m_ne hq7 hq77 (by first | decide | (dsimp only; decide))))
          have hA12 := va_at.kept hA12 (oq _ (m_ne hq11 hq77 (by first | decide | (dsimp only; decide))))
          have e92 : w85 = (upd F89 (v83 : Int32).toNatClampNeg w85) (v83 : Int32).toNatClampNeg := rd_us
          refine lv_aload_n hx hb dX3_clause_79 rfl (lv_at hl 1 rfl) ?_
          refine lv_aload_n hx hb dX3_clause_80 rfl (lv_at hl 1 rfl) ?_
          refine gmIC hx hb hts inT3 hown hK hI List.not_mem_nil hG0 10 (by decide) (hts _ (tb_c wd_139)) rfl rfl dX3_clause_81 (fun w93 hg94 k95 k96 => ?_)
          obtain rfl := gfC.uniq (by decide) hg23 hg94
          refine lv_iconst (v := 1) hx hb dX3_clause_84 (by decide) ?_
          refine lv_iadd hx hb dX3_clause_85 ?_
          refine lv_topi (fun v97 e98 => ?_)
          have tv97 : v97.toInt = w22.toInt + (1) := iv_add rfl (by decide) e98 (by omega) (by omega)
          have hpd99 : pd_R ZZ YY TT (4, [0], nk + 1, LL) (pp + 1) = XX := (pd_H_ba (by omega) (by omega) (by omega)).symm.trans hpd
          refine nx_v (As := [.int v97]) (rest := []) (n := 1) (d := 0) ⟨hx, hb, hml, hown, hts⟩ (c_X3_moveTo l E D G h0 hG0 v97 ft fp fn TT (pp + 1) nc LL (by first | omega | decide) (by omega)) wd_707 wd_709 wp_13 wd_5 wd_710 (by decide +kernel) ⟨by rw [hR]; exact Nat.le_of_ble_eq_true rfl, by rw [hR]; exact Nat.le_of_ble_eq_true rfl⟩ hI hN hK hS hG0 (⟨by omega, by omega, ⟨a1, hf2, hq3, hA4⟩, ⟨a5, hf6, hq7, hA8⟩, ⟨a9, hf10, hq11, hA12⟩, ⟨w13, hg14, by first | omega | decide⟩, ⟨w16, hg17, by first | omega | decide⟩, ⟨w19, hg20, by first | omega | decide⟩⟩) rfl hl.1 rfl (Nat.le_of_ble_eq_true rfl) dX3_clause_86 ⟨Nat.zero_le _, Nat.zero_le _⟩ (fun H locs hI hp hS => ?_)
          obtain ⟨hT4, hn12, ⟨a101, hf102, hq103, hA104⟩, ⟨a105, hf106, hq107, hA108⟩, ⟨a109, hf110, hq111, hA112⟩, ⟨w113, hg114, k115⟩, ⟨w116, hg117, k118⟩, ⟨w119, hg120, k121⟩, hpT, ⟨w122, hg123, k124⟩, ⟨w125, hg126, k127⟩⟩ := hp
          have k128 := iv_lo w119
          have k129 := iv_hi w119
          have k130 := TK.at hTK hpT
          refine lv_iload_n hx hb dX3_clause_89 rfl (lv_at hl 0 rfl) ?_
          refine lv_if_eq (tgt := 103) hx hb dX3_clause_90 (by decide) (fun _ => ?_) (fun c => absurd c (by decide))
          refine lv_aload_n hx hb dX3_clause_103 rfl (lv_at hl 1 rfl) ?_
          refine gmAC hx hb hts inT3 hown hK hI List.not_mem_nil hG0 1 (by decide) (hts _ (tb_c wd_130)) rfl rfl dX3_clause_104 (fun a131 hq132 hf133 => ?_)
          refine lv_iconst (v := 2) hx hb dX3_clause_107 (by decide) ?_
          refine lv_aload_n hx hb dX3_clause_108 rfl (lv_at hl 1 rfl) ?_
          refine gmIC hx hb hts inT3 hown hK hI List.not_mem_nil hG0 7 (by decide) (hts _ (tb_c wd_136)) rfl rfl dX3_clause_109 (fun w134 hg135 k136 k137 => ?_)
          obtain rfl := gfC.uniq (by decide) hg117 hg135
          refine lv_imul hx hb dX3_clause_112 ?_
          refine lv_topi (fun v138 e139 => ?_)
          have tv138 : v138.toInt = (2) * w116.toInt := iv_mul (by decide) rfl e139 (by omega) (by omega)
          refine lv_iconst (v := 1) hx hb dX3_clause_113 (by decide) ?_
          refine lv_iadd hx hb dX3_clause_114 ?_
          refine lv_topi (fun v140 e141 => ?_)
          have tv140 : v140.toInt = v138.toInt + (1) := iv_add rfl (by decide) e141 (by omega) (by omega)
          refine lv_aload_n hx hb dX3_clause_115 rfl (lv_at hl 1 rfl) ?_
          refine gmIC hx hb hts inT3 hown hK hI List.not_mem_nil hG0 9 (by decide) (hts _ (tb_c wd_138)) rfl rfl dX3_clause_116 (fun w142 hg143 k144 k145 => ?_)
          obtain ⟨F146, hA147⟩ := op_0 hI hq132 List.not_mem_nil
          refine th_iast hx hb hK hA147 0 rfl hS ⟨_, hq132⟩ (iv_in (X := v140.toInt) rfl (by omega) (by omega)) dX3_clause_119 (fun H locs hA148 oq hS => ?_)
          have hI := th_I.put hI hq132 hA148 ok_0 oq
          have hg114 := gfC.arr hG0 hq132 (by decide) oq hg114
          have hg117 := gfC.arr hG0 hq132 (by decide) oq hg117
          have hg120 := gfC.arr hG0 hq132 (by decide) oq hg120
          have hg123 := gfC.arr hG0 hq132 (by decide) oq hg123
          have hg126 := gfC.arr hG0 hq132 (by decide) oq hg126
          have hg143 := gfC.arr hG0 hq132 (by decide) oq hg143
          have hf102 := frC.arr hG0 hq132 (by decide) oq hf102
          have hf106 := frC.arr hG0 hq132 (by decide) oq hf106
          have hf110 := frC.arr hG0 hq132 (by decide) oq hf110
          have hf133 := frC.arr hG0 hq132 (by decide) oq hf133
          have hA104 := va_at.kept hA104 (oq _ (m_ne hq103 hq132 (by first | decide | (dsimp only; decide))))
          have hA108 := va_at.kept hA108 (oq _ (m_ne hq107 hq132 (by first | decide | (dsimp only; decide))))
          have hA112 := va_at.kept hA112 (oq _ (m_ne hq111 hq132 (by first | decide | (dsimp only; decide))))
          have e149 : w142 = (upd F146 (v140 : Int32).toNatClampNeg w142) (v140 : Int32).toNatClampNeg := rd_us
          refine lv_aload_n hx hb dX3_clause_120 rfl (lv_at hl 1 rfl) ?_
          refine gmIC hx hb hts inT3 hown hK hI List.not_mem_nil hG0 11 (by decide) (hts _ (tb_c wd_140)) rfl rfl dX3_clause_121 (fun w150 hg151 k152 k153 => ?_)
          obtain rfl := gfC.uniq (by decide) hg126 hg151
          refine lv_sipush (v := 260) hx hb dX3_clause_124 (by decide) ?_
          have k154 := iv_lo w125
          have k155 := iv_hi w125
          refine lv_icmp_ne (tgt := 150) hx hb dX3_clause_127 (by decide) (fun c156 => ?_) (fun c156 => ?_)
          · skip
            have k157 := iv_ne (X := w125.toInt) (Y := (260)) rfl (by decide) c156
            have hpd158 : pd_R ZZ YY TT (5, [], nk + 1, LL) (pp + 1) = XX := (pd_D_c0 (fun h9 => by omega)).symm.trans hpd99
            refine lv_aload_n hx hb dX3_clause_150 rfl (lv_at hl 1 rfl) ?_
            refine lv_dup hx hb dX3_clause_151 rfl ?_
            refine gmIC hx hb hts inT3 hown hK hI List.not_mem_nil hG0 7 (by decide) (hts _ (tb_c wd_136)) rfl rfl dX3_clause_152 (fun w159 hg160 k161 k162 => ?_)
            obtain rfl := gfC.uniq (by decide) hg117 hg160
            refine lv_iconst (v := 1) hx hb dX3_clause_155 (by decide) ?_
            refine lv_iadd hx hb dX3_clause_156 ?_
            refine lv_topi (fun v163 e164 => ?_)
            have tv163 : v163.toInt = w116.toInt + (1) := iv_add rfl (by decide) e164 (by omega) (by omega)
            refine pmIC (ty := .int) hx hb hts inT3 hown hK hI List.not_mem_nil hG0 hS ⟨_, hG0⟩ 7 (by decide) (hts _ (tb_c wd_136)) rfl rfl (by decide +kernel) rfl rfl rfl (by omega) (by omega) dX3_clause_157 (fun H locs hI hgP hS => ?_)
            have hg114 := hgP.2.2.1 6 _ (by decide) (by decide) hg114
            have hg120 := hgP.2.2.1 8 _ (by decide) (by decide) hg120
            have hg123 := hgP.2.2.1 10 _ (by decide) (by decide) hg123
            have hg126 := hgP.2.2.1 11 _ (by decide) (by decide) hg126
            have hg143 := hgP.2.2.1 9 _ (by decide) (by decide) hg143
            have hg165 := hgP.2.1
            have hf102 := hgP.2.2.2 3 _ (by decide) (by decide) hf102
            have hf106 := hgP.2.2.2 4 _ (by decide) (by decide) hf106
            have hf110 := hgP.2.2.2 5 _ (by decide) (by decide) hf110
            have hf133 := hgP.2.2.2 1 _ (by decide) (by decide) hf133
            have hA104 := va_at.kept hA104 (hgP.1 _ (m_ne hq103 hG0 (by first | decide | (dsimp only; decide))))
            have hA108 := va_at.kept hA108 (hgP.1 _ (m_ne hq107 hG0 (by first | decide | (dsimp only; decide))))
            have hA112 := va_at.kept hA112 (hgP.1 _ (m_ne hq111 hG0 (by first | decide | (dsimp only; decide))))
            have hA148 := va_at.kept hA148 (hgP.1 _ (m_ne hq132 hG0 (by first | decide | (dsimp only; decide))))
            refine lv_aload_n hx hb dX3_clause_160 rfl (lv_at hl 1 rfl) ?_
            refine gmAC hx hb hts inT3 hown hK hI List.not_mem_nil hG0 1 (by decide) (hts _ (tb_c wd_130)) rfl rfl dX3_clause_161 (fun a166 hq167 hf168 => ?_)
            obtain rfl := frC.uniq (by decide) hf133 hf168
            refine lv_iconst (v := 2) hx hb dX3_clause_164 (by decide) ?_
            refine lv_aload_n hx hb dX3_clause_165 rfl (lv_at hl 1 rfl) ?_
            refine gmIC hx hb hts inT3 hown hK hI List.not_mem_nil hG0 7 (by decide) (hts _ (tb_c wd_136)) rfl rfl dX3_clause_166 (fun w169 hg170 k171 k172 => ?_)
            obtain rfl := gfC.uniq (by decide) hg165 hg170
            refine lv_imul hx hb dX3_clause_169 ?_
            refine lv_topi (fun v173 e174 => ?_)
            have tv173 : v173.toInt = (2) * v163.toInt := iv_mul (by decide) rfl e174 (by omega) (by omega)
            refine lv_aload_n hx hb dX3_clause_170 rfl (lv_at hl 1 rfl) ?_
            refine gmIC hx hb hts inT3 hown hK hI List.not_mem_nil hG0 9 (by decide) (hts _ (tb_c wd_138)) rfl rfl dX3_clause_171 (fun w175 hg176 k177 k178 => ?_)
            obtain rfl := gfC.uniq (by decide) hg143 hg176
            refine th_iast hx hb hK hA148 0 rfl hS ⟨_, hq132⟩ (iv_in (X := v173.toInt) rfl (by omega) (by omega)) dX3_clause_174 (fun H locs hA179 oq hS => ?_)
            have hI := th_I.put hI hq132 hA179 ok_0 oq
            have hg114 := gfC.arr hG0 hq132 (by decide) oq hg114
            have hg165 := gfC.arr hG0 hq132 (by decide) oq hg165
            have hg120 := gfC.arr hG0 hq132 (by decide) oq hg120
            have hg123 := gfC.arr hG0 hq132 (by decide) oq hg123
            have hg126 := gfC.arr hG0 hq132 (by decide) oq hg126
            have hg143 := gfC.arr hG0 hq132 (by decide) oq hg143
            have hf102 := frC.arr hG0 hq132 (by decide) oq hf102
            have hf106 := frC.arr hG0 hq132 (by decide) oq hf106
            have hf110 := frC.arr hG0 hq132 (by decide) oq hf110
            have hf133 := frC.arr hG0 hq132 (by decide) oq hf133
            have hA104 := va_at.kept hA104 (oq _ (m_ne hq103 hq132 (by first | decide | (dsimp only; decide))))
            have hA108 := va_at.kept hA108 (oq _ (m_ne hq107 hq132 (by first | decide | (dsimp only; decide))))
            have hA112 := va_at.kept hA112 (oq _ (m_ne hq111 hq132 (by first | decide | (dsimp only; decide))))
            have e180 := rd_un (i := v140) (j := v173) (v := w142) e149 (X := v140.toInt) (Y := v173.toInt) rfl rfl (by omega) (by omega) (by omega)
            have e181 : w142 = (upd (upd F146 (v140 : Int32).toNatClampNeg w142) (v173 : Int32).toNatClampNeg w142) (v173 : Int32).toNatClampNeg := rd_us
            refine lv_iconst (v := 1) hx hb dX3_clause_175 (by decide) ?_
            have hpost : ((1 : Int32) = 1 ∧ ∃ p2 L2 : Nat, RC E D G h0 ft fp fn TT p2 (nc + 1) L2 H ∧ pp + 1 ≤ p2 ∧ pd_R ZZ YY TT (5, [], nk + 1, L2) p2 = XX) ∨ ((1 : Int32) = 0 ∧ ∃ p2 L2 : Nat, RC E D G h0 ft fp fn TT p2 nc L2 H ∧ pp ≤ p2 ∧ XX = (p2, false)) := Or.inl ⟨rfl, (pp + 1), LL, ⟨by omega, by omega, ⟨a101, hf102, hq103, hA104⟩, ⟨a105, hf106, hq107, hA108⟩, ⟨a109, hf110, hq111, hA112⟩, ⟨w113, hg114, by first | omega | decide⟩, ⟨v163, hg165, by first | omega | decide⟩, ⟨w119, hg120, by first | omega | decide⟩, by omega, ⟨w122, hg123, by first | omega | decide⟩, ⟨w125, hg126, by first | omega | decide⟩⟩, by omega, hpd158⟩
            rw [hQ]
            exact W.zret (v := 1) hx hb hr (by decide) (fun t ht hW => ⟨⟨1, 1, rfl, rfl, ⟨by rw [ht]; exact hI, hN.warm hW, va_K.moved hW.alike hK⟩, by first | (rw [ht]; exact hpost) | exact hpost⟩, hS.F ht⟩) hS.2.2 dX3_clause_176
          · skip
            have k182 := iv_eq (X := w125.toInt) (Y := (260)) rfl (by decide) c156
            refine lv_aload_n hx hb dX3_clause_130 rfl (lv_at hl 1 rfl) ?_
            refine lv_aload_n hx hb dX3_clause_131 rfl (lv_at hl 1 rfl) ?_
            refine gmIC hx hb hts inT3 hown hK hI List.not_mem_nil hG0 10 (by decide) (hts _ (tb_c wd_139)) rfl rfl dX3_clause_132 (fun w183 hg184 k185 k186 => ?_)
            obtain rfl := gfC.uniq (by decide) hg123 hg184
            refine lv_iconst (v := 1) hx hb dX3_clause_135 (by decide) ?_
            refine lv_iadd hx hb dX3_clause_136 ?_
            refine lv_topi (fun v187 e188 => ?_)
            have tv187 : v187.toInt = w122.toInt + (1) := iv_add rfl (by decide) e188 (by omega) (by omega)
            have hpd189 : pd_R ZZ YY TT (3, [5], nk + 1, LL) ((pp + 1) + 1) = XX := (pd_D_if (by omega) (by omega)).symm.trans hpd99
            refine nx_v (As := [.int v187]) (rest := []) (n := 1) (d := 0) ⟨hx, hb, hml, hown, hts⟩ (c_X3_moveTo l E D G h0 hG0 v187 ft fp fn TT ((pp + 1) + 1) nc LL (by first | omega | decide) (by omega)) wd_707 wd_709 wp_13 wd_5 wd_710 (by decide +kernel) ⟨by rw [hR]; exact Nat.le_of_ble_eq_true rfl, by rw [hR]; exact Nat.le_of_ble_eq_true rfl⟩ hI hN hK hS hG0 (⟨by omega, by omega, ⟨a101, hf102, hq103, hA104⟩, ⟨a105, hf106, hq107, hA108⟩, ⟨a109, hf110, hq111, hA112⟩, ⟨w113, hg114, by first | omega | decide⟩, ⟨w116, hg117, by first | omega | decide⟩, ⟨w119, hg120, by first | omega | decide⟩⟩) rfl hl.1 rfl (Nat.le_of_ble_eq_true rfl) dX3_clause_137 ⟨Nat.zero_le _, Nat.zero_le _⟩ (fun H locs hI hp hS => ?_)
            obtain ⟨hT4, hn12, ⟨a191, hf192, hq193, hA194⟩, ⟨a195, hf196, hq197, hA198⟩, ⟨a199, hf200, hq201, hA202⟩, ⟨w203, hg204, k205⟩, ⟨w206, hg207, k208⟩, ⟨w209, hg210, k211⟩, hpT, ⟨w212, hg213, k214⟩, ⟨w215, hg216, k217⟩⟩ := hp
            have k218 := iv_lo w209
            have k219 := iv_hi w209
            have k220 := TK.at hTK hpT
            refine lv_aload_n hx hb dX3_clause_140 rfl (lv_at hl 1 rfl) ?_
            refine lv_iconst (v := 0) hx hb dX3_clause_141 (by decide) ?_
            refine nx_i (As := [.int 0]) (rest := []) (n := 1) (d := 46) ⟨hx, hb, hml, hown, hts⟩ (c_X3_test l E D G 8 h0 hG0 0 ft fp fn TT ((pp + 1) + 1) nc LL ZZ YY (nk + 1) XX hTK 0 (by first | decide | omega) (by omega) (by omega) 5 [] (Or.inr rfl) rfl hpd189 (fun h9 g9 x9 f1 f2 f3 T9 p9 c9 L9 Z9 Y9 n9 X9 t9 d9 e1 e2 e3 l9 e4 e5 => c_X3_plain l E D G 8 h9 g9 x9 f1 f2 f3 T9 p9 c9 L9 Z9 Y9 n9 X9 t9 d9 e1 e2 e3 l9 e4 e5 (c_X3_enclosed l E D G 8))) wd_731 wd_733 wp_19 wd_5 wd_734 (by decide +kernel) ⟨by rw [hR]; exact Nat.le_of_ble_eq_true rfl, by rw [hR]; exact Nat.le_of_ble_eq_true rfl⟩ hI hN hK hS hG0 (⟨by omega, by omega, ⟨a191, hf192, hq193, hA194⟩, ⟨a195, hf196, hq197, hA198⟩, ⟨a199, hf200, hq201, hA202⟩, ⟨w203, hg204, by first | omega | decide⟩, ⟨w206, hg207, by first | omega | decide⟩, ⟨w209, hg210, by first | omega | decide⟩, by omega, ⟨w212, hg213, by first | omega | decide⟩, ⟨w215, hg216, by first | omega | decide⟩⟩) rfl hl.1 rfl (Nat.le_of_ble_eq_true rfl) dX3_clause_142 ⟨Nat.zero_le _, Nat.zero_le _⟩ (fun r221 H locs hI hp hS => ?_)
            rcases hp with ⟨rfl, hp⟩ | ⟨rfl, hp⟩
            · skip
              try simp only [rg, not_and, Int.not_le] at hp
              have hp222 := hp
              obtain ⟨pn223, Ln224, hE, k225, hpd226, hno227⟩ := hp222
              have hp222 : True := trivial
              obtain ⟨hT4, hn12, ⟨a228, hf229, hq230, hA231⟩, ⟨a232, hf233, hq234, hA235⟩, ⟨a236, hf237, hq238, hA239⟩, ⟨w240, hg241, k242⟩, ⟨w243, hg244, k245⟩, ⟨w246, hg247, k248⟩, hpT, ⟨w249, hg250, k251⟩, ⟨w252, hg253, k254⟩⟩ := hE
              have k255 := iv_lo w246
              have k256 := iv_hi w246
              have k257 := TK.at hTK hpT
              have hpd258 : pd_R ZZ YY TT (5, [], nk + 1, Ln224) pn223 = XX := (pd_D_c5 (fun h9 => ⟨by omega, by omega⟩)).symm.trans hpd226
              try rw [show (0 : Int32).toInt = 0 from by decide] at hp222
              refine lv_if_ne (tgt := 150) hx hb dX3_clause_145 (by decide) (fun _ => ?_) (fun c => absurd c (by decide))
              refine lv_aload_n hx hb dX3_clause_150 rfl (lv_at hl 1 rfl) ?_
              refine lv_dup hx hb dX3_clause_151 rfl ?_
              refine gmIC hx hb hts inT3 hown hK hI List.not_mem_nil hG0 7 (by decide) (hts _ (tb_c wd_136)) rfl rfl dX3_clause_152 (fun w259 hg260 k261 k262 => ?_)
              obtain rfl := gfC.uniq (by decide) hg244 hg260
              refine lv_iconst (v := 1) hx hb dX3_clause_155 (by decide) ?_
              refine lv_iadd hx hb dX3_clause_156 ?_
              refine lv_topi (fun v263 e264 => ?_)
              have tv263 : v263.toInt = w243.toInt + (1) := iv_add rfl (by decide) e264 (by omega) (by omega)
              refine pmIC (ty := .int) hx hb hts inT3 hown hK hI List.not_mem_nil hG0 hS ⟨_, hG0⟩ 7 (by decide) (hts _ (tb_c wd_136)) rfl rfl (by decide +kernel) rfl rfl rfl (by omega) (by omega) dX3_clause_157 (fun H locs hI hgP hS => ?_)
              have hg241 := hgP.2.2.1 6 _ (by decide) (by decide) hg241
              have hg247 := hgP.2.2.1 8 _ (by decide) (by decide) hg247
              have hg250 := hgP.2.2.1 10 _ (by decide) (by decide) hg250
              have hg253 := hgP.2.2.1 11 _ (by decide) (by decide) hg253
              have hg265 := hgP.2.1
              have hf229 := hgP.2.2.2 3 _ (by decide) (by decide) hf229
              have hf233 := hgP.2.2.2 4 _ (by decide) (by decide) hf233
              have hf237 := hgP.2.2.2 5 _ (by decide) (by decide) hf237
              have hA231 := va_at.kept hA231 (hgP.1 _ (m_ne hq230 hG0 (by first | decide | (dsimp only; decide))))
              have hA235 := va_at.kept hA235 (hgP.1 _ (m_ne hq234 hG0 (by first | decide | (dsimp only; decide))))
              have hA239 := va_at.kept hA239 (hgP.1 _ (m_ne hq238 hG0 (by first | decide | (dsimp only; decide))))
              refine lv_aload_n hx hb dX3_clause_160 rfl (lv_at hl 1 rfl) ?_
              refine gmAC hx hb hts inT3 hown hK hI List.not_mem_nil hG0 1 (by decide) (hts _ (tb_c wd_130)) rfl rfl dX3_clause_161 (fun a266 hq267 hf268 => ?_)
              refine lv_iconst (v := 2) hx hb dX3_clause_164 (by decide) ?_
              refine lv_aload_n hx hb dX3_clause_165 rfl (lv_at hl 1 rfl) ?_
              refine gmIC hx hb hts inT3 hown hK hI List.not_mem_nil hG0 7 (by decide) (hts _ (tb_c wd_136)) rfl rfl dX3_clause_166 (fun w269 hg270 k271 k272 => ?_)
              obtain rfl := gfC.uniq (by decide) hg265 hg270
              refine lv_imul hx hb dX3_clause_169 ?_
              refine lv_topi (fun v273 e274 => ?_)
              have tv273 : v273.toInt = (2) * v263.toInt := iv_mul (by decide) rfl e274 (by omega) (by omega)
              refine lv_aload_n hx hb dX3_clause_170 rfl (lv_at hl 1 rfl) ?_
              refine gmIC hx hb hts inT3 hown hK hI List.not_mem_nil hG0 9 (by decide) (hts _ (tb_c wd_138)) rfl rfl dX3_clause_171 (fun w275 hg276 k277 k278 => ?_)
              obtain ⟨F279, hA280⟩ := op_0 hI hq267 List.not_mem_nil
              refine th_iast hx hb hK hA280 0 rfl hS ⟨_, hq267⟩ (iv_in (X := v273.toInt) rfl (by omega) (by omega)) dX3_clause_174 (fun H locs hA281 oq hS => ?_)
              have hI := th_I.put hI hq267 hA281 ok_0 oq
              have hg241 := gfC.arr hG0 hq267 (by decide) oq hg241
              have hg265 := gfC.arr hG0 hq267 (by decide) oq hg265
              have hg247 := gfC.arr hG0 hq267 (by decide) oq hg247
              have hg250 := gfC.arr hG0 hq267 (by decide) oq hg250
              have hg253 := gfC.arr hG0 hq267 (by decide) oq hg253
              have hg276 := gfC.arr hG0 hq267 (by decide) oq hg276
              have hf229 := frC.arr hG0 hq267 (by decide) oq hf229
              have hf233 := frC.arr hG0 hq267 (by decide) oq hf233
              have hf237 := frC.arr hG0 hq267 (by decide) oq hf237
              have hf268 := frC.arr hG0 hq267 (by decide) oq hf268
              have hA231 := va_at.kept hA231 (oq _ (m_ne hq230 hq267 (by first | decide | (dsimp only; decide))))
              have hA235 := va_at.kept hA235 (oq _ (m_ne hq234 hq267 (by first | decide | (dsimp only; decide))))
              have hA239 := va_at.kept hA239 (oq _ (m_ne hq238 hq267 (by first | decide | (dsimp only; decide))))
              have e282 : w275 = (upd F279 (v273 : Int32).toNatClampNeg w275) (v273 : Int32).toNatClampNeg := rd_us
              refine lv_iconst (v := 1) hx hb dX3_clause_175 (by decide) ?_
              have hpost : ((1 : Int32) = 1 ∧ ∃ p2 L2 : Nat, RC E D G h0 ft fp fn TT p2 (nc + 1) L2 H ∧ pp + 1 ≤ p2 ∧ pd_R ZZ YY TT (5, [], nk + 1, L2) p2 = XX) ∨ ((1 : Int32) = 0 ∧ ∃ p2 L2 : Nat, RC E D G h0 ft fp fn TT p2 nc L2 H ∧ pp ≤ p2 ∧ XX = (p2, false)) := Or.inl ⟨rfl, pn223, Ln224, ⟨by omega, by omega, ⟨a228, hf229, hq230, hA231⟩, ⟨a232, hf233, hq234, hA235⟩, ⟨a236, hf237, hq238, hA239⟩, ⟨w240, hg241, by first | omega | decide⟩, ⟨v263, hg265, by first | omega | decide⟩, ⟨w246, hg247, by first | omega | decide⟩, by omega, ⟨w249, hg250, by first | omega | decide⟩, ⟨w252, hg253, by first | omega | decide⟩⟩, by omega, hpd258⟩
              rw [hQ]
              exact W.zret (v := 1) hx hb hr (by decide) (fun t ht hW => ⟨⟨1, 1, rfl, rfl, ⟨by rw [ht]; exact hI, hN.warm hW, va_K.moved hW.alike hK⟩, by first | (rw [ht]; exact hpost) | exact hpost⟩, hS.F ht⟩) hS.2.2 dX3_clause_176
            · skip
              try simp only [rg, not_and, Int.not_le] at hp
              have hp283 := hp
              obtain ⟨pn284, Ln285, hE, k286, hfl287⟩ := hp283
              have hp283 : True := trivial
              obtain ⟨hT4, hn12, ⟨a288, hf289, hq290, hA291⟩, ⟨a292, hf293, hq294, hA295⟩, ⟨a296, hf297, hq298, hA299⟩, ⟨w300, hg301, k302⟩, ⟨w303, hg304, k305⟩, ⟨w306, hg307, k308⟩, hpT, ⟨w309, hg310, k311⟩, ⟨w312, hg313, k314⟩⟩ := hE
              have k315 := iv_lo w306
              have k316 := iv_hi w306
              have k317 := TK.at hTK hpT
              try rw [show (0 : Int32).toInt = 0 from by decide] at hp283
              refine lv_if_ne (tgt := 150) hx hb dX3_clause_145 (by decide) (fun c => absurd c (by decide)) (fun _ => ?_)
              refine lv_iconst (v := 0) hx hb dX3_clause_148 (by decide) ?_
              have hpost : ((0 : Int32) = 1 ∧ ∃ p2 L2 : Nat, RC E D G h0 ft fp fn TT p2 (nc + 1) L2 H ∧ pp + 1 ≤ p2 ∧ pd_R ZZ YY TT (5, [], nk + 1, L2) p2 = XX) ∨ ((0 : Int32) = 0 ∧ ∃ p2 L2 : Nat, RC E D G h0 ft fp fn TT p2 nc L2 H ∧ pp ≤ p2 ∧ XX = (p2, false)) := Or.inr ⟨rfl, pn284, Ln285, ⟨by omega, by omega, ⟨a288, hf289, hq290, hA291⟩, ⟨a292, hf293, hq294, hA295⟩, ⟨a296, hf297, hq298, hA299⟩, ⟨w300, hg301, by first | omega | decide⟩, ⟨w303, hg304, by first | omega | decide⟩, ⟨w306, hg307, by first | omega | decide⟩, by omega, ⟨w309, hg310, by first | omega | decide⟩, ⟨w312, hg313, by first | omega | decide⟩⟩, by omega, hfl287⟩
              rw [hQ]
              exact W.zret (v := 0) hx hb hr (by decide) (fun t ht hW => ⟨⟨0, 0, rfl, rfl, ⟨by rw [ht]; exact hI, hN.warm hW, va_K.moved hW.alike hK⟩, by first | (rw [ht]; exact hpost) | exact hpost⟩, hS.F ht⟩) hS.2.2 dX3_clause_149
        · skip
          have k318 := iv_ne (X := w25.toInt) (Y := (259)) rfl (by decide) c74
          refine lv_iconst (v := 1) hx hb dX3_clause_58 (by decide) ?_
          refine lv_goto (tgt := 63) hx hb dX3_clause_59 (by decide) ?_
          refine lv_istore_n (lv' := [(1, .int 1), (0, .ref h0)]) hx hb dX3_clause_63 rfl hl (by decide) rfl (fun ls hl => ?_)
          refine lv_aload_n hx hb dX3_clause_64 rfl (lv_at hl 1 rfl) ?_
          refine gmAC hx hb hts inT3 hown hK hI List.not_mem_nil hG0 1 (by decide) (hts _ (tb_c wd_130)) rfl rfl dX3_clause_65 (fun a319 hq320 hf321 => ?_)
          refine lv_iconst (v := 2) hx hb dX3_clause_68 (by decide) ?_
          refine lv_aload_n hx hb dX3_clause_69 rfl (lv_at hl 1 rfl) ?_
          refine gmIC hx hb hts inT3 hown hK hI List.not_mem_nil hG0 7 (by decide) (hts _ (tb_c wd_136)) rfl rfl dX3_clause_70 (fun w322 hg323 k324 k325 => ?_)
          obtain rfl := gfC.uniq (by decide) hg17 hg323
          refine lv_imul hx hb dX3_clause_73 ?_
          refine lv_topi (fun v326 e327 => ?_)
          have tv326 : v326.toInt = (2) * w16.toInt := iv_mul (by decide) rfl e327 (by omega) (by omega)
          refine lv_aload_n hx hb dX3_clause_74 rfl (lv_at hl 1 rfl) ?_
          refine gmIC hx hb hts inT3 hown hK hI List.not_mem_nil hG0 9 (by decide) (hts _ (tb_c wd_138)) rfl rfl dX3_clause_75 (fun w328 hg329 k330 k331 => ?_)
          obtain ⟨F332, hA333⟩ := op_0 hI hq320 List.not_mem_nil
          refine th_iast hx hb hK hA333 0 rfl hS ⟨_, hq320⟩ (iv_in (X := v326.toInt) rfl (by omega) (by omega)) dX3_clause_78 (fun H locs hA334 oq hS => ?_)
          have hI := th_I.put hI hq320 hA334 ok_0 oq
          have hg14 := gfC.arr hG0 hq320 (by decide) oq hg14
          have hg17 := gfC.arr hG0 hq320 (by decide) oq hg17
          have hg20 := gfC.arr hG0 hq320 (by decide) oq hg20
          have hg23 := gfC.arr hG0 hq320 (by decide) oq hg23
          have hg26 := gfC.arr hG0 hq320 (by decide) oq hg26
          have hg329 := gfC.arr hG0 hq320 (by decide) oq hg329
          have hf2 := frC.arr hG0 hq320 (by decide) oq hf2
          have hf6 := frC.arr hG0 hq320 (by decide) oq hf6
          have hf10 := frC.arr hG0 hq320 (by decide) oq hf10
          have hf55 := frC.arr hG0 hq320 (by decide) oq hf55
          have hf321 := frC.arr hG0 hq320 (by decide) oq hf321
          have hA4 := va_at.kept hA4 (oq _ (m_ne hq3 hq320 (by first | decide | (dsimp only; decide))))
          have hA8 := va_at.kept hA8 (oq _ (m_ne hq7 hq320 (by first | decide | (dsimp only; decide))))
          have hA12 := va_at.kept hA12 (oq _ (m_ne hq11 hq320 (by first | decide | (dsimp only; decide))))
          have e335 : w328 = (upd F332 (v326 : Int32).toNatClampNeg w328) (v326 : Int32).toNatClampNeg := rd_us
          refine lv_aload_n hx hb dX3_clause_79 rfl (lv_at hl 1 rfl) ?_
          refine lv_aload_n hx hb dX3_clause_80 rfl (lv_at hl 1 rfl) ?_
          refine gmIC hx hb hts inT3 hown hK hI List.not_mem_nil hG0 10 (by decide) (hts _ (tb_c wd_139)) rfl rfl dX3_clause_81 (fun w336 hg337 k338 k339 => ?_)
          obtain rfl := gfC.uniq (by decide) hg23 hg337
          refine lv_iconst (v := 1) hx hb dX3_clause_84 (by decide) ?_
          refine lv_iadd hx hb dX3_clause_85 ?_
          refine lv_topi (fun v340 e341 => ?_)
          have tv340 : v340.toInt = w22.toInt + (1) := iv_add rfl (by decide) e341 (by omega) (by omega)
          have hpd342 : pd_R ZZ YY TT (1, [0], nk + 1, LL) (pp + 1) = XX := (pd_H_sm (by omega) (by omega) (by omega)).symm.trans hpd
          refine nx_v (As := [.int v340]) (rest := []) (n := 1) (d := 0) ⟨hx, hb, hml, hown, hts⟩ (c_X3_moveTo l E D G h0 hG0 v340 ft fp fn TT (pp + 1) nc LL (by first | omega | decide) (by omega)) wd_707 wd_709 wp_13 wd_5 wd_710 (by decide +kernel) ⟨by rw [hR]; exact Nat.le_of_ble_eq_true rfl, by rw [hR]; exact Nat.le_of_ble_eq_true rfl⟩ hI hN hK hS hG0 (⟨by omega, by omega, ⟨a1, hf2, hq3, hA4⟩, ⟨a5, hf6, hq7, hA8⟩, ⟨a9, hf10, hq11, hA12⟩, ⟨w13, hg14, by first | omega | decide⟩, ⟨w16, hg17, by first | omega | decide⟩, ⟨w19, hg20, by first | omega | decide⟩⟩) rfl hl.1 rfl (Nat.le_of_ble_eq_true rfl) dX3_clause_86 ⟨Nat.zero_le _, Nat.zero_le _⟩ (fun H locs hI hp hS => ?_)
          obtain ⟨hT4, hn12, ⟨a344, hf345, hq346, hA347⟩, ⟨a348, hf349, hq350, hA351⟩, ⟨a352, hf353, hq354, hA355⟩, ⟨w356, hg357, k358⟩, ⟨w359, hg360, k361⟩, ⟨w362, hg363, k364⟩, hpT, ⟨w365, hg366, k367⟩, ⟨w368, hg369, k370⟩⟩ := hp
          have k371 := iv_lo w362
          have k372 := iv_hi w362
          have k373 := TK.at hTK hpT
          refine lv_iload_n hx hb dX3_clause_89 rfl (lv_at hl 0 rfl) ?_
          refine lv_if_eq (tgt := 103) hx hb dX3_clause_90 (by decide) (fun c => absurd c (by decide)) (fun _ => ?_)
          refine lv_aload_n hx hb dX3_clause_93 rfl (lv_at hl 1 rfl) ?_
          refine lv_iconst (v := 0) hx hb dX3_clause_94 (by decide) ?_
          refine nx_i (As := [.int 0]) (rest := []) (n := 1) (d := 19) ⟨hx, hb, hml, hown, hts⟩ (c_X3_sum l E D G 8 h0 hG0 0 ft fp fn TT (pp + 1) nc LL ZZ YY (nk + 1) XX hTK 0 (by first | decide | omega) (by omega) (by omega) [0] rfl hpd342 (c_X3_part l E D G 8)) wd_715 wd_717 wp_15 wd_5 wd_718 (by decide +kernel) ⟨by rw [hR]; exact Nat.le_of_ble_eq_true rfl, by rw [hR]; exact Nat.le_of_ble_eq_true rfl⟩ hI hN hK hS hG0 (⟨by omega, by omega, ⟨a344, hf345, hq346, hA347⟩, ⟨a348, hf349, hq350, hA351⟩, ⟨a352, hf353, hq354, hA355⟩, ⟨w356, hg357, by first | omega | decide⟩, ⟨w359, hg360, by first | omega | decide⟩, ⟨w362, hg363, by first | omega | decide⟩, by omega, ⟨w365, hg366, by first | omega | decide⟩, ⟨w368, hg369, by first | omega | decide⟩⟩) rfl hl.1 rfl (Nat.le_of_ble_eq_true rfl) dX3_clause_95 ⟨Nat.zero_le _, Nat.zero_le _⟩ (fun r374 H locs hI hp hS => ?_)
          rcases hp with ⟨rfl, hp⟩ | ⟨rfl, hp⟩
          · skip
            try simp only [rg, not_and, Int.not_le] at hp
            have hp375 := hp
            obtain ⟨pn376, Ln377, hE, k378, hpd379, hno380⟩ := hp375
            have hp375 : True := trivial
            obtain ⟨hT4, hn12, ⟨a381, hf382, hq383, hA384⟩, ⟨a385, hf386, hq387, hA388⟩, ⟨a389, hf390, hq391, hA392⟩, ⟨w393, hg394, k395⟩, ⟨w396, hg397, k398⟩, ⟨w399, hg400, k401⟩, hpT, ⟨w402, hg403, k404⟩, ⟨w405, hg406, k407⟩⟩ := hE
            have k408 := iv_lo w399
            have k409 := iv_hi w399
            have k410 := TK.at hTK hpT
            have hpd411 : pd_R ZZ YY TT (4, [0], nk + 1, Ln377) pn376 = XX := (pd_A_s (fun h9 => by unfold pd_op; unfold oc at hno380; omega)).symm.trans hpd379
            try rw [show (0 : Int32).toInt = 0 from by decide] at hp375
            refine lv_if_ne (tgt := 103) hx hb dX3_clause_98 (by decide) (fun _ => ?_) (fun c => absurd c (by decide))
            refine lv_aload_n hx hb dX3_clause_103 rfl (lv_at hl 1 rfl) ?_
            refine gmAC hx hb hts inT3 hown hK hI List.not_mem_nil hG0 1 (by decide) (hts _ (tb_c wd_130)) rfl rfl dX3_clause_104 (fun a412 hq413 hf414 => ?_)
            refine lv_iconst (v := 2) hx hb dX3_clause_107 (by decide) ?_
            refine lv_aload_n hx hb dX3_clause_108 rfl (lv_at hl 1 rfl) ?_
            refine gmIC hx hb hts inT3 hown hK hI List.not_mem_nil hG0 7 (by decide) (hts _ (tb_c wd_136)) rfl rfl dX3_clause_109 (fun w415 hg416 k417 k418 => ?_)
            obtain rfl := gfC.uniq (by decide) hg397 hg416
            refine lv_imul hx hb dX3_clause_112 ?_
            refine lv_topi (fun v419 e420 => ?_)
            have tv419 : v419.toInt = (2) * w396.toInt := iv_mul (by decide) rfl e420 (by omega) (by omega)
            refine lv_iconst (v := 1) hx hb dX3_clause_113 (by decide) ?_
            refine lv_iadd hx hb dX3_clause_114 ?_
            refine lv_topi (fun v421 e422 => ?_)
            have tv421 : v421.toInt = v419.toInt + (1) := iv_add rfl (by decide) e422 (by omega) (by omega)
            refine lv_aload_n hx hb dX3_clause_115 rfl (lv_at hl 1 rfl) ?_
            refine gmIC hx hb hts inT3 hown hK hI List.not_mem_nil hG0 9 (by decide) (hts _ (tb_c wd_138)) rfl rfl dX3_clause_116 (fun w423 hg424 k425 k426 => ?_)
            obtain ⟨F427, hA428⟩ := op_0 hI hq413 List.not_mem_nil
            refine th_iast hx hb hK hA428 0 rfl hS ⟨_, hq413⟩ (iv_in (X := v421.toInt) rfl (by omega) (by omega)) dX3_clause_119 (fun H locs hA429 oq hS => ?_)
            have hI := th_I.put hI hq413 hA429 ok_0 oq
            have hg394 := gfC.arr hG0 hq413 (by decide) oq hg394
            have hg397 := gfC.arr hG0 hq413 (by decide) oq hg397
            have hg400 := gfC.arr hG0 hq413 (by decide) oq hg400
            have hg403 := gfC.arr hG0 hq413 (by decide) oq hg403
            have hg406 := gfC.arr hG0 hq413 (by decide) oq hg406
            have hg424 := gfC.arr hG0 hq413 (by decide) oq hg424
            have hf382 := frC.arr hG0 hq413 (by decide) oq hf382
            have hf386 := frC.arr hG0 hq413 (by decide) oq hf386
            have hf390 := frC.arr hG0 hq413 (by decide) oq hf390
            have hf414 := frC.arr hG0 hq413 (by decide) oq hf414
            have hA384 := va_at.kept hA384 (oq _ (m_ne hq383 hq413 (by first | decide | (dsimp only; decide))))
            have hA388 := va_at.kept hA388 (oq _ (m_ne hq387 hq413 (by first | decide | (dsimp only; decide))))
            have hA392 := va_at.kept hA392 (oq _ (m_ne hq391 hq413 (by first | decide | (dsimp only; decide))))
            have e430 : w423 = (upd F427 (v421 : Int32).toNatClampNeg w423) (v421 : Int32).toNatClampNeg := rd_us
            refine lv_aload_n hx hb dX3_clause_120 rfl (lv_at hl 1 rfl) ?_
            refine gmIC hx hb hts inT3 hown hK hI List.not_mem_nil hG0 11 (by decide) (hts _ (tb_c wd_140)) rfl rfl dX3_clause_121 (fun w431 hg432 k433 k434 => ?_)
            obtain rfl := gfC.uniq (by decide) hg406 hg432
            refine lv_sipush (v := 260) hx hb dX3_clause_124 (by decide) ?_
            have k435 := iv_lo w405
            have k436 := iv_hi w405
            refine lv_icmp_ne (tgt := 150) hx hb dX3_clause_127 (by decide) (fun c437 => ?_) (fun c437 => ?_)
            · skip
              have k438 := iv_ne (X := w405.toInt) (Y := (260)) rfl (by decide) c437
              have hpd439 : pd_R ZZ YY TT (5, [], nk + 1, Ln377) pn376 = XX := (pd_D_c0 (fun h9 => by omega)).symm.trans hpd411
              refine lv_aload_n hx hb dX3_clause_150 rfl (lv_at hl 1 rfl) ?_
              refine lv_dup hx hb dX3_clause_151 rfl ?_
              refine gmIC hx hb hts inT3 hown hK hI List.not_mem_nil hG0 7 (by decide) (hts _ (tb_c wd_136)) rfl rfl dX3_clause_152 (fun w440 hg441 k442 k443 => ?_)
              obtain rfl := gfC.uniq (by decide) hg397 hg441
              refine lv_iconst (v := 1) hx hb dX3_clause_155 (by decide) ?_
              refine lv_iadd hx hb dX3_clause_156 ?_
              refine lv_topi (fun v444 e445 => ?_)
              have tv444 : v444.toInt = w396.toInt + (1) := iv_add rfl (by decide) e445 (by omega) (by omega)
              refine pmIC (ty := .int) hx hb hts inT3 hown hK hI List.not_mem_nil hG0 hS ⟨_, hG0⟩ 7 (by decide) (hts _ (tb_c wd_136)) rfl rfl (by decide +kernel) rfl rfl rfl (by omega) (by omega) dX3_clause_157 (fun H locs hI hgP hS => ?_)
              have hg394 := hgP.2.2.1 6 _ (by decide) (by decide) hg394
              have hg400 := hgP.2.2.1 8 _ (by decide) (by decide) hg400
              have hg403 := hgP.2.2.1 10 _ (by decide) (by decide) hg403
              have hg406 := hgP.2.2.1 11 _ (by decide) (by decide) hg406
              have hg424 := hgP.2.2.1 9 _ (by decide) (by decide) hg424
              have hg446 := hgP.2.1
              have hf382 := hgP.2.2.2 3 _ (by decide) (by decide) hf382
              have hf386 := hgP.2.2.2 4 _ (by decide) (by decide) hf386
              have hf390 := hgP.2.2.2 5 _ (by decide) (by decide) hf390
              have hf414 := hgP.2.2.2 1 _ (by decide) (by decide) hf414
              have hA384 := va_at.kept hA384 (hgP.1 _ (m_ne hq383 hG0 (by first | decide | (dsimp only; decide))))
              have hA388 := va_at.kept hA388 (hgP.1 _ (m_ne hq387 hG0 (by first | decide | (dsimp only; decide))))
              have hA392 := va_at.kept hA392 (hgP.1 _ (m_ne hq391 hG0 (by first | decide | (dsimp only; decide))))
              have hA429 := va_at.kept hA429 (hgP.1 _ (m_ne hq413 hG0 (by first | decide | (dsimp only; decide))))
              refine lv_aload_n hx hb dX3_clause_160 rfl (lv_at hl 1 rfl) ?_
              refine gmAC hx hb hts inT3 hown hK hI List.not_mem_nil hG0 1 (by decide) (hts _ (tb_c wd_130)) rfl rfl dX3_clause_161 (fun a447 hq448 hf449 => ?_)
              obtain rfl := frC.uniq (by decide) hf414 hf449
              refine lv_iconst (v := 2) hx hb dX3_clause_164 (by decide) ?_
              refine lv_aload_n hx hb dX3_clause_165 rfl (lv_at hl 1 rfl) ?_
              refine gmIC hx hb hts inT3 hown hK hI List.not_mem_nil hG0 7 (by decide) (hts _ (tb_c wd_136)) rfl rfl dX3_clause_166 (fun w450 hg451 k452 k453 => ?_)
              obtain rfl := gfC.uniq (by decide) hg446 hg451
              refine lv_imul hx hb dX3_clause_169 ?_
              refine lv_topi (fun v454 e455 => ?_)
              have tv454 : v454.toInt = (2) * v444.toInt := iv_mul (by decide) rfl e455 (by omega) (by omega)
              refine lv_aload_n hx hb dX3_clause_170 rfl (lv_at hl 1 rfl) ?_
              refine gmIC hx hb hts inT3 hown hK hI List.not_mem_nil hG0 9 (by decide) (hts _ (tb_c wd_138)) rfl rfl dX3_clause_171 (fun w456 hg457 k458 k459 => ?_)
              obtain rfl := gfC.uniq (by decide) hg424 hg457
              refine th_iast hx hb hK hA429 0 rfl hS ⟨_, hq413⟩ (iv_in (X := v454.toInt) rfl (by omega) (by omega)) dX3_clause_174 (fun H locs hA460 oq hS => ?_)
              have hI := th_I.put hI hq413 hA460 ok_0 oq
              have hg394 := gfC.arr hG0 hq413 (by decide) oq hg394
              have hg446 := gfC.arr hG0 hq413 (by decide) oq hg446
              have hg400 := gfC.arr hG0 hq413 (by decide) oq hg400
              have hg403 := gfC.arr hG0 hq413 (by decide) oq hg403
              have hg406 := gfC.arr hG0 hq413 (by decide) oq hg406
              have hg424 := gfC.arr hG0 hq413 (by decide) oq hg424
              have hf382 := frC.arr hG0 hq413 (by decide) oq hf382
              have hf386 := frC.arr hG0 hq413 (by decide) oq hf386
              have hf390 := frC.arr hG0 hq413 (by decide) oq hf390
              have hf414 := frC.arr hG0 hq413 (by decide) oq hf414
              have hA384 := va_at.kept hA384 (oq _ (m_ne hq383 hq413 (by first | decide | (dsimp only; decide))))
              have hA388 := va_at.kept hA388 (oq _ (m_ne hq387 hq413 (by first | decide | (dsimp only; decide))))
              have hA392 := va_at.kept hA392 (oq _ (m_ne hq391 hq413 (by first | decide | (dsimp only; decide))))
              have e461 := rd_un (i := v421) (j := v454) (v := w423) e430 (X := v421.toInt) (Y := v454.toInt) rfl rfl (by omega) (by omega) (by omega)
              have e462 : w423 = (upd (upd F427 (v421 : Int32).toNatClampNeg w423) (v454 : Int32).toNatClampNeg w423) (v454 : Int32).toNatClampNeg := rd_us
              refine lv_iconst (v := 1) hx hb dX3_clause_175 (by decide) ?_
              have hpost : ((1 : Int32) = 1 ∧ ∃ p2 L2 : Nat, RC E D G h0 ft fp fn TT p2 (nc + 1) L2 H ∧ pp + 1 ≤ p2 ∧ pd_R ZZ YY TT (5, [], nk + 1, L2) p2 = XX) ∨ ((1 : Int32) = 0 ∧ ∃ p2 L2 : Nat, RC E D G h0 ft fp fn TT p2 nc L2 H ∧ pp ≤ p2 ∧ XX = (p2, false)) := Or.inl ⟨rfl, pn376, Ln377, ⟨by omega, by omega, ⟨a381, hf382, hq383, hA384⟩, ⟨a385, hf386, hq387, hA388⟩, ⟨a389, hf390, hq391, hA392⟩, ⟨w393, hg394, by first | omega | decide⟩, ⟨v444, hg446, by first | omega | decide⟩, ⟨w399, hg400, by first | omega | decide⟩, by omega, ⟨w402, hg403, by first | omega | decide⟩, ⟨w405, hg406, by first | omega | decide⟩⟩, by omega, hpd439⟩
              rw [hQ]
              exact W.zret (v := 1) hx hb hr (by decide) (fun t ht hW => ⟨⟨1, 1, rfl, rfl, ⟨by rw [ht]; exact hI, hN.warm hW, va_K.moved hW.alike hK⟩, by first | (rw [ht]; exact hpost) | exact hpost⟩, hS.F ht⟩) hS.2.2 dX3_clause_176
            · skip
              have k463 := iv_eq (X := w405.toInt) (Y := (260)) rfl (by decide) c437
              refine lv_aload_n hx hb dX3_clause_130 rfl (lv_at hl 1 rfl) ?_
              refine lv_aload_n hx hb dX3_clause_131 rfl (lv_at hl 1 rfl) ?_
              refine gmIC hx hb hts inT3 hown hK hI List.not_mem_nil hG0 10 (by decide) (hts _ (tb_c wd_139)) rfl rfl dX3_clause_132 (fun w464 hg465 k466 k467 => ?_)
              obtain rfl := gfC.uniq (by decide) hg403 hg465
              refine lv_iconst (v := 1) hx hb dX3_clause_135 (by decide) ?_
              refine lv_iadd hx hb dX3_clause_136 ?_
              refine lv_topi (fun v468 e469 => ?_)
              have tv468 : v468.toInt = w402.toInt + (1) := iv_add rfl (by decide) e469 (by omega) (by omega)
              have hpd470 : pd_R ZZ YY TT (3, [5], nk + 1, Ln377) (pn376 + 1) = XX := (pd_D_if (by omega) (by omega)).symm.trans hpd411
              refine nx_v (As := [.int v468]) (rest := []) (n := 1) (d := 0) ⟨hx, hb, hml, hown, hts⟩ (c_X3_moveTo l E D G h0 hG0 v468 ft fp fn TT (pn376 + 1) nc Ln377 (by first | omega | decide) (by omega)) wd_707 wd_709 wp_13 wd_5 wd_710 (by decide +kernel) ⟨by rw [hR]; exact Nat.le_of_ble_eq_true rfl, by rw [hR]; exact Nat.le_of_ble_eq_true rfl⟩ hI hN hK hS hG0 (⟨by omega, by omega, ⟨a381, hf382, hq383, hA384⟩, ⟨a385, hf386, hq387, hA388⟩, ⟨a389, hf390, hq391, hA392⟩, ⟨w393, hg394, by first | omega | decide⟩, ⟨w396, hg397, by first | omega | decide⟩, ⟨w399, hg400, by first | omega | decide⟩⟩) rfl hl.1 rfl (Nat.le_of_ble_eq_true rfl) dX3_clause_137 ⟨Nat.zero_le _, Nat.zero_le _⟩ (fun H locs hI hp hS => ?_)
              obtain ⟨hT4, hn12, ⟨a472, hf473, hq474, hA475⟩, ⟨a476, hf477, hq478, hA479⟩, ⟨a480, hf481, hq482, hA483⟩, ⟨w484, hg485, k486⟩, ⟨w487, hg488, k489⟩, ⟨w490, hg491, k492⟩, hpT, ⟨w493, hg494, k495⟩, ⟨w496, hg497, k498⟩⟩ := hp
              have k499 := iv_lo w490
              have k500 := iv_hi w490
              have k501 := TK.at hTK hpT
              refine lv_aload_n hx hb dX3_clause_140 rfl (lv_at hl 1 rfl) ?_
              refine lv_iconst (v := 0) hx hb dX3_clause_141 (by decide) ?_
              refine nx_i (As := [.int 0]) (rest := []) (n := 1) (d := 46) ⟨hx, hb, hml, hown, hts⟩ (c_X3_test l E D G 8 h0 hG0 0 ft fp fn TT (pn376 + 1) nc Ln377 ZZ YY (nk + 1) XX hTK 0 (by first | decide | omega) (by omega) (by omega) 5 [] (Or.inr rfl) rfl hpd470 (fun h9 g9 x9 f1 f2 f3 T9 p9 c9 L9 Z9 Y9 n9 X9 t9 d9 e1 e2 e3 l9 e4 e5 => c_X3_plain l E D G 8 h9 g9 x9 f1 f2 f3 T9 p9 c9 L9 Z9 Y9 n9 X9 t9 d9 e1 e2 e3 l9 e4 e5 (c_X3_enclosed l E D G 8))) wd_731 wd_733 wp_19 wd_5 wd_734 (by decide +kernel) ⟨by rw [hR]; exact Nat.le_of_ble_eq_true rfl, by rw [hR]; exact Nat.le_of_ble_eq_true rfl⟩ hI hN hK hS hG0 (⟨by omega, by omega, ⟨a472, hf473, hq474, hA475⟩, ⟨a476, hf477, hq478, hA479⟩, ⟨a480, hf481, hq482, hA483⟩, ⟨w484, hg485, by first | omega | decide⟩, ⟨w487, hg488, by first | omega | decide⟩, ⟨w490, hg491, by first | omega | decide⟩, by omega, ⟨w493, hg494, by first | omega | decide⟩, ⟨w496, hg497, by first | omega | decide⟩⟩) rfl hl.1 rfl (Nat.le_of_ble_eq_true rfl) dX3_clause_142 ⟨Nat.zero_le _, Nat.zero_le _⟩ (fun r502 H locs hI hp hS => ?_)
              rcases hp with ⟨rfl, hp⟩ | ⟨rfl, hp⟩
              · skip
                try simp only [rg, not_and, Int.not_le] at hp
                have hp503 := hp
                obtain ⟨pn504, Ln505, hE, k506, hpd507, hno508⟩ := hp503
                have hp503 : True := trivial
                obtain ⟨hT4, hn12, ⟨a509, hf510, hq511, hA512⟩, ⟨a513, hf514, hq515, hA516⟩, ⟨a517, hf518, hq519, hA520⟩, ⟨w521, hg522, k523⟩, ⟨w524, hg525, k526⟩, ⟨w527, hg528, k529⟩, hpT, ⟨w530, hg531, k532⟩, ⟨w533, hg534, k535⟩⟩ := hE
                have k536 := iv_lo w527
                have k537 := iv_hi w527
                have k538 := TK.at hTK hpT
                have hpd539 : pd_R ZZ YY TT (5, [], nk + 1, Ln505) pn504 = XX := (pd_D_c5 (fun h9 => ⟨by omega, by omega⟩)).symm.trans hpd507
                try rw [show (0 : Int32).toInt = 0 from by decide] at hp503
                refine lv_if_ne (tgt := 150) hx hb dX3_clause_145 (by decide) (fun _ => ?_) (fun c => absurd c (by decide))
                refine lv_aload_n hx hb dX3_clause_150 rfl (lv_at hl 1 rfl) ?_
                refine lv_dup hx hb dX3_clause_151 rfl ?_
                refine gmIC hx hb hts inT3 hown hK hI List.not_mem_nil hG0 7 (by decide) (hts _ (tb_c wd_136)) rfl rfl dX3_clause_152 (fun w540 hg541 k542 k543 => ?_)
                obtain rfl := gfC.uniq (by decide) hg525 hg541
                refine lv_iconst (v := 1) hx hb dX3_clause_155 (by decide) ?_
                refine lv_iadd hx hb dX3_clause_156 ?_
                refine lv_topi (fun v544 e545 => ?_)
                have tv544 : v544.toInt = w524.toInt + (1) := iv_add rfl (by decide) e545 (by omega) (by omega)
                refine pmIC (ty := .int) hx hb hts inT3 hown hK hI List.not_mem_nil hG0 hS ⟨_, hG0⟩ 7 (by decide) (hts _ (tb_c wd_136)) rfl rfl (by decide +kernel) rfl rfl rfl (by omega) (by omega) dX3_clause_157 (fun H locs hI hgP hS => ?_)
                have hg522 := hgP.2.2.1 6 _ (by decide) (by decide) hg522
                have hg528 := hgP.2.2.1 8 _ (by decide) (by decide) hg528
                have hg531 := hgP.2.2.1 10 _ (by decide) (by decide) hg531
                have hg534 := hgP.2.2.1 11 _ (by decide) (by decide) hg534
                have hg546 := hgP.2.1
                have hf510 := hgP.2.2.2 3 _ (by decide) (by decide) hf510
                have hf514 := hgP.2.2.2 4 _ (by decide) (by decide) hf514
                have hf518 := hgP.2.2.2 5 _ (by decide) (by decide) hf518
                have hA512 := va_at.kept hA512 (hgP.1 _ (m_ne hq511 hG0 (by first | decide | (dsimp only; decide))))
                have hA516 := va_at.kept hA516 (hgP.1 _ (m_ne hq515 hG0 (by first | decide | (dsimp only; decide))))
                have hA520 := va_at.kept hA520 (hgP.1 _ (m_ne hq519 hG0 (by first | decide | (dsimp only; decide))))
                refine lv_aload_n hx hb dX3_clause_160 rfl (lv_at hl 1 rfl) ?_
                refine gmAC hx hb hts inT3 hown hK hI List.not_mem_nil hG0 1 (by decide) (hts _ (tb_c wd_130)) rfl rfl dX3_clause_161 (fun a547 hq548 hf549 => ?_)
                refine lv_iconst (v := 2) hx hb dX3_clause_164 (by decide) ?_
                refine lv_aload_n hx hb dX3_clause_165 rfl (lv_at hl 1 rfl) ?_
                refine gmIC hx hb hts inT3 hown hK hI List.not_mem_nil hG0 7 (by decide) (hts _ (tb_c wd_136)) rfl rfl dX3_clause_166 (fun w550 hg551 k552 k553 => ?_)
                obtain rfl := gfC.uniq (by decide) hg546 hg551
                refine lv_imul hx hb dX3_clause_169 ?_
                refine lv_topi (fun v554 e555 => ?_)
                have tv554 : v554.toInt = (2) * v544.toInt := iv_mul (by decide) rfl e555 (by omega) (by omega)
                refine lv_aload_n hx hb dX3_clause_170 rfl (lv_at hl 1 rfl) ?_
                refine gmIC hx hb hts inT3 hown hK hI List.not_mem_nil hG0 9 (by decide) (hts _ (tb_c wd_138)) rfl rfl dX3_clause_171 (fun w556 hg557 k558 k559 => ?_)
                obtain ⟨F560, hA561⟩ := op_0 hI hq548 List.not_mem_nil
                refine th_iast hx hb hK hA561 0 rfl hS ⟨_, hq548⟩ (iv_in (X := v554.toInt) rfl (by omega) (by omega)) dX3_clause_174 (fun H locs hA562 oq hS => ?_)
                have hI := th_I.put hI hq548 hA562 ok_0 oq
                have hg522 := gfC.arr hG0 hq548 (by decide) oq hg522
                have hg546 := gfC.arr hG0 hq548 (by decide) oq hg546
                have hg528 := gfC.arr hG0 hq548 (by decide) oq hg528
                have hg531 := gfC.arr hG0 hq548 (by decide) oq hg531
                have hg534 := gfC.arr hG0 hq548 (by decide) oq hg534
                have hg557 := gfC.arr hG0 hq548 (by decide) oq hg557
                have hf510 := frC.arr hG0 hq548 (by decide) oq hf510
                have hf514 := frC.arr hG0 hq548 (by decide) oq hf514
                have hf518 := frC.arr hG0 hq548 (by decide) oq hf518
                have hf549 := frC.arr hG0 hq548 (by decide) oq hf549
                have hA512 := va_at.kept hA512 (oq _ (m_ne hq511 hq548 (by first | decide | (dsimp only; decide))))
                have hA516 := va_at.kept hA516 (oq _ (m_ne hq515 hq548 (by first | decide | (dsimp only; decide))))
                have hA520 := va_at.kept hA520 (oq _ (m_ne hq519 hq548 (by first | decide | (dsimp only; decide))))
                have e563 : w556 = (upd F560 (v554 : Int32).toNatClampNeg w556) (v554 : Int32).toNatClampNeg := rd_us
                refine lv_iconst (v := 1) hx hb dX3_clause_175 (by decide) ?_
                have hpost : ((1 : Int32) = 1 ∧ ∃ p2 L2 : Nat, RC E D G h0 ft fp fn TT p2 (nc + 1) L2 H ∧ pp + 1 ≤ p2 ∧ pd_R ZZ YY TT (5, [], nk + 1, L2) p2 = XX) ∨ ((1 : Int32) = 0 ∧ ∃ p2 L2 : Nat, RC E D G h0 ft fp fn TT p2 nc L2 H ∧ pp ≤ p2 ∧ XX = (p2, false)) := Or.inl ⟨rfl, pn504, Ln505, ⟨by omega, by omega, ⟨a509, hf510, hq511, hA512⟩, ⟨a513, hf514, hq515, hA516⟩, ⟨a517, hf518, hq519, hA520⟩, ⟨w521, hg522, by first | omega | decide⟩, ⟨v544, hg546, by first | omega | decide⟩, ⟨w527, hg528, by first | omega | decide⟩, by omega, ⟨w530, hg531, by first | omega | decide⟩, ⟨w533, hg534, by first | omega | decide⟩⟩, by omega, hpd539⟩
                rw [hQ]
                exact W.zret (v := 1) hx hb hr (by decide) (fun t ht hW => ⟨⟨1, 1, rfl, rfl, ⟨by rw [ht]; exact hI, hN.warm hW, va_K.moved hW.alike hK⟩, by first | (rw [ht]; exact hpost) | exact hpost⟩, hS.F ht⟩) hS.2.2 dX3_clause_176
              · skip
                try simp only [rg, not_and, Int.not_le] at hp
                have hp564 := hp
                obtain ⟨pn565, Ln566, hE, k567, hfl568⟩ := hp564
                have hp564 : True := trivial
                obtain ⟨hT4, hn12, ⟨a569, hf570, hq571, hA572⟩, ⟨a573, hf574, hq575, hA576⟩, ⟨a577, hf578, hq579, hA580⟩, ⟨w581, hg582, k583⟩, ⟨w584, hg585, k586⟩, ⟨w587, hg588, k589⟩, hpT, ⟨w590, hg591, k592⟩, ⟨w593, hg594, k595⟩⟩ := hE
                have k596 := iv_lo w587
                have k597 := iv_hi w587
                have k598 := TK.at hTK hpT
                try rw [show (0 : Int32).toInt = 0 from by decide] at hp564
                refine lv_if_ne (tgt := 150) hx hb dX3_clause_145 (by decide) (fun c => absurd c (by decide)) (fun _ => ?_)
                refine lv_iconst (v := 0) hx hb dX3_clause_148 (by decide) ?_
                have hpost : ((0 : Int32) = 1 ∧ ∃ p2 L2 : Nat, RC E D G h0 ft fp fn TT p2 (nc + 1) L2 H ∧ pp + 1 ≤ p2 ∧ pd_R ZZ YY TT (5, [], nk + 1, L2) p2 = XX) ∨ ((0 : Int32) = 0 ∧ ∃ p2 L2 : Nat, RC E D G h0 ft fp fn TT p2 nc L2 H ∧ pp ≤ p2 ∧ XX = (p2, false)) := Or.inr ⟨rfl, pn565, Ln566, ⟨by omega, by omega, ⟨a569, hf570, hq571, hA572⟩, ⟨a573, hf574, hq575, hA576⟩, ⟨a577, hf578, hq579, hA580⟩, ⟨w581, hg582, by first | omega | decide⟩, ⟨w584, hg585, by first | omega | decide⟩, ⟨w587, hg588, by first | omega | decide⟩, by omega, ⟨w590, hg591, by first | omega | decide⟩, ⟨w593, hg594, by first | omega | decide⟩⟩, by omega, hfl568⟩
                rw [hQ]
                exact W.zret (v := 0) hx hb hr (by decide) (fun t ht hW => ⟨⟨0, 0, rfl, rfl, ⟨by rw [ht]; exact hI, hN.warm hW, va_K.moved hW.alike hK⟩, by first | (rw [ht]; exact hpost) | exact hpost⟩, hS.F ht⟩) hS.2.2 dX3_clause_149
          · skip
            try simp only [rg, not_and, Int.not_le] at hp
            have hp599 := hp
            obtain ⟨pn600, Ln601, hE, k602, hfl603⟩ := hp599
            have hp599 : True := trivial
            obtain ⟨hT4, hn12, ⟨a604, hf605, hq606, hA607⟩, ⟨a608, hf609, hq610, hA611⟩, ⟨a612, hf613, hq614, hA615⟩, ⟨w616, hg617, k618⟩, ⟨w619, hg620, k621⟩, ⟨w622, hg623, k624⟩, hpT, ⟨w625, hg626, k627⟩, ⟨w628, hg629, k630⟩⟩ := hE
            have k631 := iv_lo w622
            have k632 := iv_hi w622
            have k633 := TK.at hTK hpT
            try rw [show (0 : Int32).toInt = 0 from by decide] at hp599
            refine lv_if_ne (tgt := 103) hx hb dX3_clause_98 (by decide) (fun c => absurd c (by decide)) (fun _ => ?_)
            refine lv_iconst (v := 0) hx hb dX3_clause_101 (by decide) ?_
            have hpost : ((0 : Int32) = 1 ∧ ∃ p2 L2 : Nat, RC E D G h0 ft fp fn TT p2 (nc + 1) L2 H ∧ pp + 1 ≤ p2 ∧ pd_R ZZ YY TT (5, [], nk + 1, L2) p2 = XX) ∨ ((0 : Int32) = 0 ∧ ∃ p2 L2 : Nat, RC E D G h0 ft fp fn TT p2 nc L2 H ∧ pp ≤ p2 ∧ XX = (p2, false)) := Or.inr ⟨rfl, pn600, Ln601, ⟨by omega, by omega, ⟨a604, hf605, hq606, hA607⟩, ⟨a608, hf609, hq610, hA611⟩, ⟨a612, hf613, hq614, hA615⟩, ⟨w616, hg617, by first | omega | decide⟩, ⟨w619, hg620, by first | omega | decide⟩, ⟨w622, hg623, by first | omega | decide⟩, by omega, ⟨w625, hg626, by first | omega | decide⟩, ⟨w628, hg629, by first | omega | decide⟩⟩, by omega, hfl603⟩
            rw [hQ]
            exact W.zret (v := 0) hx hb hr (by decide) (fun t ht hW => ⟨⟨0, 0, rfl, rfl, ⟨by rw [ht]; exact hI, hN.warm hW, va_K.moved hW.alike hK⟩, by first | (rw [ht]; exact hpost) | exact hpost⟩, hS.F ht⟩) hS.2.2 dX3_clause_102
      · skip
        have k634 := iv_nle (X := w25.toInt) (Y := (259)) rfl (by decide) c51
        refine lv_iconst (v := 0) hx hb dX3_clause_29 (by decide) ?_
        have hpost : ((0 : Int32) = 1 ∧ ∃ p2 L2 : Nat, RC E D G h0 ft fp fn TT p2 (nc + 1) L2 s.heap ∧ pp + 1 ≤ p2 ∧ pd_R ZZ YY TT (5, [], nk + 1, L2) p2 = XX) ∨ ((0 : Int32) = 0 ∧ ∃ p2 L2 : Nat, RC E D G h0 ft fp fn TT p2 nc L2 s.heap ∧ pp ≤ p2 ∧ XX = (p2, false)) := Or.inr ⟨rfl, pp, LL, ⟨by omega, by omega, ⟨a1, hf2, hq3, hA4⟩, ⟨a5, hf6, hq7, hA8⟩, ⟨a9, hf10, hq11, hA12⟩, ⟨w13, hg14, by first | omega | decide⟩, ⟨w16, hg17, by first | omega | decide⟩, ⟨w19, hg20, by first | omega | decide⟩, by omega, ⟨w22, hg23, by first | omega | decide⟩, ⟨w25, hg26, by first | omega | decide⟩⟩, by omega, (hpd.symm.trans (pd_H_no (fun h9 h10 => by omega)))⟩
        rw [hQ]
        exact W.zret (v := 0) hx hb hr (by decide) (fun t ht hW => ⟨⟨0, 0, rfl, rfl, ⟨by rw [ht]; exact hI, hN.warm hW, va_K.moved hW.alike hK⟩, by first | (rw [ht]; exact hpost) | exact hpost⟩, hS.F ht⟩) hS.2.2 dX3_clause_30
