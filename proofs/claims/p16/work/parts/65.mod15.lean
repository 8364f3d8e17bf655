theorem wp_64 : Cond.selects RX12 yX12_wordOf yX12_wordOf ∈ TB := tv 64 (by decide +kernel) (by decide +kernel)
theorem wd_1248 : (Cond.fieldLink RX12 (145 : Nat) "NineRiverModel" "tokens" "I") ∈ TB := tw 1248 (by decide +kernel) (by decide +kernel)
theorem wd_1572 : (Cond.methodLink RX12 (148 : Nat) yX12_isSmall) ∈ TB := tw 1572 (by decide +kernel) (by decide +kernel)
theorem wd_1573 : (Jvm.Cond.static yX12_isSmall) ∈ TB := tw 1573 (by decide +kernel) (by decide +kernel)
theorem wd_1574 : (Cond.code yX12_isSmall cX12_isSmall 1 (Option.some Jvm.ClassFile.FieldType.boolean)) ∈ TB := tw 1574 (by decide +kernel) (by decide +kernel)
theorem wd_1575 : (Cond.methodLink RX12 (151 : Nat) yX12_isDigit) ∈ TB := tw 1575 (by decide +kernel) (by decide +kernel)
theorem wd_1576 : (Jvm.Cond.static yX12_isDigit) ∈ TB := tw 1576 (by decide +kernel) (by decide +kernel)
theorem wd_1577 : (Cond.code yX12_isDigit cX12_isDigit 1 (Option.some Jvm.ClassFile.FieldType.boolean)) ∈ TB := tw 1577 (by decide +kernel) (by decide +kernel)
theorem wd_1578 : (Cond.methodLink RX12 (154 : Nat) yX12_wordOf) ∈ TB := tw 1578 (by decide +kernel) (by decide +kernel)
theorem wd_1580 : (Jvm.Cond.instanceMethod yX12_wordOf) ∈ TB := tw 1580 (by decide +kernel) (by decide +kernel)
theorem wd_1581 : (Cond.code yX12_wordOf cX12_wordOf 8 (Option.some Jvm.ClassFile.FieldType.int)) ∈ TB := tw 1581 (by decide +kernel) (by decide +kernel)
theorem dX12_splits_0g : (decode cX12_splits 0 = .ok (.aload_n 0, 1)) ∧ (decode cX12_splits 1 = .ok (.iconst 0, 1)) ∧ (decode cX12_splits 2 = .ok (.putfield 145, 3)) ∧ (decode cX12_splits 5 = .ok (.iconst 0, 1)) ∧ (decode cX12_splits 6 = .ok (.istore_n 2, 1)) ∧ (decode cX12_splits 7 = .ok (.iload_n 2, 1)) ∧ (decode cX12_splits 8 = .ok (.iload_n 1, 1)) ∧ (decode cX12_splits 9 = .ok (.if_icmp .ge 254, 3)) ∧ (decode cX12_splits 12 = .ok (.aload_n 0, 1)) ∧ (decode cX12_splits 13 = .ok (.getfield 34, 3)) := by decide +kernel
theorem dX12_splits_0 : decode cX12_splits 0 = .ok (.aload_n 0, 1) := dX12_splits_0g.1
theorem dX12_splits_1 : decode cX12_splits 1 = .ok (.iconst 0, 1) := dX12_splits_0g.2.1
theorem dX12_splits_2 : decode cX12_splits 2 = .ok (.putfield 145, 3) := dX12_splits_0g.2.2.1
theorem dX12_splits_5 : decode cX12_splits 5 = .ok (.iconst 0, 1) := dX12_splits_0g.2.2.2.1
theorem dX12_splits_6 : decode cX12_splits 6 = .ok (.istore_n 2, 1) := dX12_splits_0g.2.2.2.2.1
theorem dX12_splits_7 : decode cX12_splits 7 = .ok (.iload_n 2, 1) := dX12_splits_0g.2.2.2.2.2.1
theorem dX12_splits_8 : decode cX12_splits 8 = .ok (.iload_n 1, 1) := dX12_splits_0g.2.2.2.2.2.2.1
theorem dX12_splits_9 : decode cX12_splits 9 = .ok (.if_icmp .ge 254, 3) := dX12_splits_0g.2.2.2.2.2.2.2.1
theorem dX12_splits_12 : decode cX12_splits 12 = .ok (.aload_n 0, 1) := dX12_splits_0g.2.2.2.2.2.2.2.2.1
theorem dX12_splits_13 : decode cX12_splits 13 = .ok (.getfield 34, 3) := dX12_splits_0g.2.2.2.2.2.2.2.2.2
theorem dX12_splits_16g : (decode cX12_splits 16 = .ok (.iload_n 2, 1)) ∧ (decode cX12_splits 17 = .ok (.baload, 1)) ∧ (decode cX12_splits 18 = .ok (.istore_n 3, 1)) ∧ (decode cX12_splits 19 = .ok (.iload_n 3, 1)) ∧ (decode cX12_splits 20 = .ok (.bipush 32, 2)) ∧ (decode cX12_splits 22 = .ok (.if_icmp .ne 9, 3)) ∧ (decode cX12_splits 25 = .ok (.iinc 2 1, 3)) ∧ (decode cX12_splits 28 = .ok (.goto (-21), 3)) ∧ (decode cX12_splits 31 = .ok (.iload_n 2, 1)) ∧ (decode cX12_splits 32 = .ok (.iconst 1, 1)) := by decide +kernel
theorem dX12_splits_16 : decode cX12_splits 16 = .ok (.iload_n 2, 1) := dX12_splits_16g.1
theorem dX12_splits_17 : decode cX12_splits 17 = .ok (.baload, 1) := dX12_splits_16g.2.1
theorem dX12_splits_18 : decode cX12_splits 18 = .ok (.istore_n 3, 1) := dX12_splits_16g.2.2.1
theorem dX12_splits_19 : decode cX12_splits 19 = .ok (.iload_n 3, 1) := dX12_splits_16g.2.2.2.1
theorem dX12_splits_20 : decode cX12_splits 20 = .ok (.bipush 32, 2) := dX12_splits_16g.2.2.2.2.1
theorem dX12_splits_22 : decode cX12_splits 22 = .ok (.if_icmp .ne 9, 3) := dX12_splits_16g.2.2.2.2.2.1
theorem dX12_splits_25 : decode cX12_splits 25 = .ok (.iinc 2 1, 3) := dX12_splits_16g.2.2.2.2.2.2.1
theorem dX12_splits_28 : decode cX12_splits 28 = .ok (.goto (-21), 3) := dX12_splits_16g.2.2.2.2.2.2.2.1
theorem dX12_splits_31 : decode cX12_splits 31 = .ok (.iload_n 2, 1) := dX12_splits_16g.2.2.2.2.2.2.2.2.1
theorem dX12_splits_32 : decode cX12_splits 32 = .ok (.iconst 1, 1) := dX12_splits_16g.2.2.2.2.2.2.2.2.2
theorem dX12_splits_33g : (decode cX12_splits 33 = .ok (.iadd, 1)) ∧ (decode cX12_splits 34 = .ok (.istore 4, 2)) ∧ (decode cX12_splits 36 = .ok (.iload_n 3, 1)) ∧ (decode cX12_splits 37 = .ok (.invokestatic 148, 3)) ∧ (decode cX12_splits 40 = .ok (.ifCond .eq 28, 3)) ∧ (decode cX12_splits 43 = .ok (.iload 4, 2)) ∧ (decode cX12_splits 45 = .ok (.iload_n 1, 1)) ∧ (decode cX12_splits 46 = .ok (.if_icmp .ge 22, 3)) ∧ (decode cX12_splits 49 = .ok (.aload_n 0, 1)) ∧ (decode cX12_splits 50 = .ok (.getfield 34, 3)) := by decide +kernel
theorem dX12_splits_33 : decode cX12_splits 33 = .ok (.iadd, 1) := dX12_splits_33g.1
theorem dX12_splits_34 : decode cX12_splits 34 = .ok (.istore 4, 2) := dX12_splits_33g.2.1
theorem dX12_splits_36 : decode cX12_splits 36 = .ok (.iload_n 3, 1) := dX12_splits_33g.2.2.1
theorem dX12_splits_37 : decode cX12_splits 37 = .ok (.invokestatic 148, 3) := dX12_splits_33g.2.2.2.1
theorem dX12_splits_40 : decode cX12_splits 40 = .ok (.ifCond .eq 28, 3) := dX12_splits_33g.2.2.2.2.1
theorem dX12_splits_43 : decode cX12_splits 43 = .ok (.iload 4, 2) := dX12_splits_33g.2.2.2.2.2.1
theorem dX12_splits_45 : decode cX12_splits 45 = .ok (.iload_n 1, 1) := dX12_splits_33g.2.2.2.2.2.2.1
theorem dX12_splits_46 : decode cX12_splits 46 = .ok (.if_icmp .ge 22, 3) := dX12_splits_33g.2.2.2.2.2.2.2.1
theorem dX12_splits_49 : decode cX12_splits 49 = .ok (.aload_n 0, 1) := dX12_splits_33g.2.2.2.2.2.2.2.2.1
theorem dX12_splits_50 : decode cX12_splits 50 = .ok (.getfield 34, 3) := dX12_splits_33g.2.2.2.2.2.2.2.2.2
theorem dX12_splits_53g : (decode cX12_splits 53 = .ok (.iload 4, 2)) ∧ (decode cX12_splits 55 = .ok (.baload, 1)) ∧ (decode cX12_splits 56 = .ok (.invokestatic 148, 3)) ∧ (decode cX12_splits 59 = .ok (.ifCond .eq 9, 3)) ∧ (decode cX12_splits 62 = .ok (.iinc 4 1, 3)) ∧ (decode cX12_splits 65 = .ok (.goto (-22), 3)) ∧ (decode cX12_splits 68 = .ok (.iload_n 3, 1)) ∧ (decode cX12_splits 69 = .ok (.invokestatic 151, 3)) ∧ (decode cX12_splits 72 = .ok (.ifCond .eq 28, 3)) ∧ (decode cX12_splits 75 = .ok (.iload 4, 2)) := by decide +kernel
theorem dX12_splits_53 : decode cX12_splits 53 = .ok (.iload 4, 2) := dX12_splits_53g.1
theorem dX12_splits_55 : decode cX12_splits 55 = .ok (.baload, 1) := dX12_splits_53g.2.1
theorem dX12_splits_56 : decode cX12_splits 56 = .ok (.invokestatic 148, 3) := dX12_splits_53g.2.2.1
theorem dX12_splits_59 : decode cX12_splits 59 = .ok (.ifCond .eq 9, 3) := dX12_splits_53g.2.2.2.1
theorem dX12_splits_62 : decode cX12_splits 62 = .ok (.iinc 4 1, 3) := dX12_splits_53g.2.2.2.2.1
theorem dX12_splits_65 : decode cX12_splits 65 = .ok (.goto (-22), 3) := dX12_splits_53g.2.2.2.2.2.1
theorem dX12_splits_68 : decode cX12_splits 68 = .ok (.iload_n 3, 1) := dX12_splits_53g.2.2.2.2.2.2.1
theorem dX12_splits_69 : decode cX12_splits 69 = .ok (.invokestatic 151, 3) := dX12_splits_53g.2.2.2.2.2.2.2.1
theorem dX12_splits_72 : decode cX12_splits 72 = .ok (.ifCond .eq 28, 3) := dX12_splits_53g.2.2.2.2.2.2.2.2.1
theorem dX12_splits_75 : decode cX12_splits 75 = .ok (.iload 4, 2) := dX12_splits_53g.2.2.2.2.2.2.2.2.2
theorem dX12_splits_77g : (decode cX12_splits 77 = .ok (.iload_n 1, 1)) ∧ (decode cX12_splits 78 = .ok (.if_icmp .ge 22, 3)) ∧ (decode cX12_splits 81 = .ok (.aload_n 0, 1)) ∧ (decode cX12_splits 82 = .ok (.getfield 34, 3)) ∧ (decode cX12_splits 85 = .ok (.iload 4, 2)) ∧ (decode cX12_splits 87 = .ok (.baload, 1)) ∧ (decode cX12_splits 88 = .ok (.invokestatic 151, 3)) ∧ (decode cX12_splits 91 = .ok (.ifCond .eq 9, 3)) ∧ (decode cX12_splits 94 = .ok (.iinc 4 1, 3)) ∧ (decode cX12_splits 97 = .ok (.goto (-22), 3)) := by decide +kernel
theorem dX12_splits_77 : decode cX12_splits 77 = .ok (.iload_n 1, 1) := dX12_splits_77g.1
theorem dX12_splits_78 : decode cX12_splits 78 = .ok (.if_icmp .ge 22, 3) := dX12_splits_77g.2.1
theorem dX12_splits_81 : decode cX12_splits 81 = .ok (.aload_n 0, 1) := dX12_splits_77g.2.2.1
theorem dX12_splits_82 : decode cX12_splits 82 = .ok (.getfield 34, 3) := dX12_splits_77g.2.2.2.1
theorem dX12_splits_85 : decode cX12_splits 85 = .ok (.iload 4, 2) := dX12_splits_77g.2.2.2.2.1
theorem dX12_splits_87 : decode cX12_splits 87 = .ok (.baload, 1) := dX12_splits_77g.2.2.2.2.2.1
theorem dX12_splits_88 : decode cX12_splits 88 = .ok (.invokestatic 151, 3) := dX12_splits_77g.2.2.2.2.2.2.1
theorem dX12_splits_91 : decode cX12_splits 91 = .ok (.ifCond .eq 9, 3) := dX12_splits_77g.2.2.2.2.2.2.2.1
theorem dX12_splits_94 : decode cX12_splits 94 = .ok (.iinc 4 1, 3) := dX12_splits_77g.2.2.2.2.2.2.2.2.1
theorem dX12_splits_97 : decode cX12_splits 97 = .ok (.goto (-22), 3) := dX12_splits_77g.2.2.2.2.2.2.2.2.2
theorem dX12_splits_100g : (decode cX12_splits 100 = .ok (.aload_n 0, 1)) ∧ (decode cX12_splits 101 = .ok (.getfield 49, 3)) ∧ (decode cX12_splits 104 = .ok (.aload_n 0, 1)) ∧ (decode cX12_splits 105 = .ok (.getfield 145, 3)) ∧ (decode cX12_splits 108 = .ok (.iload_n 2, 1)) ∧ (decode cX12_splits 109 = .ok (.iastore, 1)) ∧ (decode cX12_splits 110 = .ok (.aload_n 0, 1)) ∧ (decode cX12_splits 111 = .ok (.getfield 46, 3)) ∧ (decode cX12_splits 114 = .ok (.aload_n 0, 1)) ∧ (decode cX12_splits 115 = .ok (.getfield 145, 3)) := by decide +kernel
theorem dX12_splits_100 : decode cX12_splits 100 = .ok (.aload_n 0, 1) := dX12_splits_100g.1
theorem dX12_splits_101 : decode cX12_splits 101 = .ok (.getfield 49, 3) := dX12_splits_100g.2.1
theorem dX12_splits_104 : decode cX12_splits 104 = .ok (.aload_n 0, 1) := dX12_splits_100g.2.2.1
theorem dX12_splits_105 : decode cX12_splits 105 = .ok (.getfield 145, 3) := dX12_splits_100g.2.2.2.1
theorem dX12_splits_108 : decode cX12_splits 108 = .ok (.iload_n 2, 1) := dX12_splits_100g.2.2.2.2.1
theorem dX12_splits_109 : decode cX12_splits 109 = .ok (.iastore, 1) := dX12_splits_100g.2.2.2.2.2.1
theorem dX12_splits_110 : decode cX12_splits 110 = .ok (.aload_n 0, 1) := dX12_splits_100g.2.2.2.2.2.2.1
theorem dX12_splits_111 : decode cX12_splits 111 = .ok (.getfield 46, 3) := dX12_splits_100g.2.2.2.2.2.2.2.1
theorem dX12_splits_114 : decode cX12_splits 114 = .ok (.aload_n 0, 1) := dX12_splits_100g.2.2.2.2.2.2.2.2.1
theorem dX12_splits_115 : decode cX12_splits 115 = .ok (.getfield 145, 3) := dX12_splits_100g.2.2.2.2.2.2.2.2.2
theorem dX12_splits_118g : (decode cX12_splits 118 = .ok (.iconst 0, 1)) ∧ (decode cX12_splits 119 = .ok (.iastore, 1)) ∧ (decode cX12_splits 120 = .ok (.aload_n 0, 1)) ∧ (decode cX12_splits 121 = .ok (.getfield 43, 3)) ∧ (decode cX12_splits 124 = .ok (.aload_n 0, 1)) ∧ (decode cX12_splits 125 = .ok (.getfield 145, 3)) ∧ (decode cX12_splits 128 = .ok (.iload_n 3, 1)) ∧ (decode cX12_splits 129 = .ok (.invokestatic 148, 3)) ∧ (decode cX12_splits 132 = .ok (.ifCond .eq 13, 3)) ∧ (decode cX12_splits 135 = .ok (.aload_n 0, 1)) := by decide +kernel
theorem dX12_splits_118 : decode cX12_splits 118 = .ok (.iconst 0, 1) := dX12_splits_118g.1
theorem dX12_splits_119 : decode cX12_splits 119 = .ok (.iastore, 1) := dX12_splits_118g.2.1
theorem dX12_splits_120 : decode cX12_splits 120 = .ok (.aload_n 0, 1) := dX12_splits_118g.2.2.1
theorem dX12_splits_121 : decode cX12_splits 121 = .ok (.getfield 43, 3) := dX12_splits_118g.2.2.2.1
theorem dX12_splits_124 : decode cX12_splits 124 = .ok (.aload_n 0, 1) := dX12_splits_118g.2.2.2.2.1
theorem dX12_splits_125 : decode cX12_splits 125 = .ok (.getfield 145, 3) := dX12_splits_118g.2.2.2.2.2.1
theorem dX12_splits_128 : decode cX12_splits 128 = .ok (.iload_n 3, 1) := dX12_splits_118g.2.2.2.2.2.2.1
theorem dX12_splits_129 : decode cX12_splits 129 = .ok (.invokestatic 148, 3) := dX12_splits_118g.2.2.2.2.2.2.2.1
theorem dX12_splits_132 : decode cX12_splits 132 = .ok (.ifCond .eq 13, 3) := dX12_splits_118g.2.2.2.2.2.2.2.2.1
theorem dX12_splits_135 : decode cX12_splits 135 = .ok (.aload_n 0, 1) := dX12_splits_118g.2.2.2.2.2.2.2.2.2
theorem dX12_splits_136g : (decode cX12_splits 136 = .ok (.iload_n 2, 1)) ∧ (decode cX12_splits 137 = .ok (.iload 4, 2)) ∧ (decode cX12_splits 139 = .ok (.invokevirtual 154, 3)) ∧ (decode cX12_splits 142 = .ok (.goto 23, 3)) ∧ (decode cX12_splits 145 = .ok (.iload_n 3, 1)) ∧ (decode cX12_splits 146 = .ok (.invokestatic 151, 3)) ∧ (decode cX12_splits 149 = .ok (.ifCond .eq 8, 3)) ∧ (decode cX12_splits 152 = .ok (.bipush 50, 2)) ∧ (decode cX12_splits 154 = .ok (.goto 11, 3)) ∧ (decode cX12_splits 157 = .ok (.bipush 100, 2)) := by decide +kernel
theorem dX12_splits_136 : decode cX12_splits 136 = .ok (.iload_n 2, 1) := dX12_splits_136g.1
theorem dX12_splits_137 : decode cX12_splits 137 = .ok (.iload 4, 2) := dX12_splits_136g.2.1
theorem dX12_splits_139 : decode cX12_splits 139 = .ok (.invokevirtual 154, 3) := dX12_splits_136g.2.2.1
theorem dX12_splits_142 : decode cX12_splits 142 = .ok (.goto 23, 3) := dX12_splits_136g.2.2.2.1
theorem dX12_splits_145 : decode cX12_splits 145 = .ok (.iload_n 3, 1) := dX12_splits_136g.2.2.2.2.1
theorem dX12_splits_146 : decode cX12_splits 146 = .ok (.invokestatic 151, 3) := dX12_splits_136g.2.2.2.2.2.1
theorem dX12_splits_149 : decode cX12_splits 149 = .ok (.ifCond .eq 8, 3) := dX12_splits_136g.2.2.2.2.2.2.1
theorem dX12_splits_152 : decode cX12_splits 152 = .ok (.bipush 50, 2) := dX12_splits_136g.2.2.2.2.2.2.2.1
theorem dX12_splits_154 : decode cX12_splits 154 = .ok (.goto 11, 3) := dX12_splits_136g.2.2.2.2.2.2.2.2.1
theorem dX12_splits_157 : decode cX12_splits 157 = .ok (.bipush 100, 2) := dX12_splits_136g.2.2.2.2.2.2.2.2.2
theorem dX12_splits_159g : (decode cX12_splits 159 = .ok (.iload_n 3, 1)) ∧ (decode cX12_splits 160 = .ok (.sipush 255, 3)) ∧ (decode cX12_splits 163 = .ok (.iand, 1)) ∧ (decode cX12_splits 164 = .ok (.iadd, 1)) ∧ (decode cX12_splits 165 = .ok (.iastore, 1)) ∧ (decode cX12_splits 166 = .ok (.iload_n 2, 1)) ∧ (decode cX12_splits 167 = .ok (.istore 5, 2)) ∧ (decode cX12_splits 169 = .ok (.iload 5, 2)) ∧ (decode cX12_splits 171 = .ok (.iload 4, 2)) ∧ (decode cX12_splits 173 = .ok (.if_icmp .ge 74, 3)) := by decide +kernel
theorem dX12_splits_159 : decode cX12_splits 159 = .ok (.iload_n 3, 1) := dX12_splits_159g.1
theorem dX12_splits_160 : decode cX12_splits 160 = .ok (.sipush 255, 3) := dX12_splits_159g.2.1
theorem dX12_splits_163 : decode cX12_splits 163 = .ok (.iand, 1) := dX12_splits_159g.2.2.1
theorem dX12_splits_164 : decode cX12_splits 164 = .ok (.iadd, 1) := dX12_splits_159g.2.2.2.1
theorem dX12_splits_165 : decode cX12_splits 165 = .ok (.iastore, 1) := dX12_splits_159g.2.2.2.2.1
theorem dX12_splits_166 : decode cX12_splits 166 = .ok (.iload_n 2, 1) := dX12_splits_159g.2.2.2.2.2.1
theorem dX12_splits_167 : decode cX12_splits 167 = .ok (.istore 5, 2) := dX12_splits_159g.2.2.2.2.2.2.1
theorem dX12_splits_169 : decode cX12_splits 169 = .ok (.iload 5, 2) := dX12_splits_159g.2.2.2.2.2.2.2.1
theorem dX12_splits_171 : decode cX12_splits 171 = .ok (.iload 4, 2) := dX12_splits_159g.2.2.2.2.2.2.2.2.1
theorem dX12_splits_173 : decode cX12_splits 173 = .ok (.if_icmp .ge 74, 3) := dX12_splits_159g.2.2.2.2.2.2.2.2.2
theorem dX12_splits_176g : (decode cX12_splits 176 = .ok (.iload_n 3, 1)) ∧ (decode cX12_splits 177 = .ok (.invokestatic 151, 3)) ∧ (decode cX12_splits 180 = .ok (.ifCond .eq 67, 3)) ∧ (decode cX12_splits 183 = .ok (.aload_n 0, 1)) ∧ (decode cX12_splits 184 = .ok (.getfield 46, 3)) ∧ (decode cX12_splits 187 = .ok (.aload_n 0, 1)) ∧ (decode cX12_splits 188 = .ok (.getfield 145, 3)) ∧ (decode cX12_splits 191 = .ok (.aload_n 0, 1)) ∧ (decode cX12_splits 192 = .ok (.getfield 46, 3)) ∧ (decode cX12_splits 195 = .ok (.aload_n 0, 1)) := by decide +kernel
theorem dX12_splits_176 : decode cX12_splits 176 = .ok (.iload_n 3, 1) := dX12_splits_176g.1
theorem dX12_splits_177 : decode cX12_splits 177 = .ok (.invokestatic 151, 3) := dX12_splits_176g.2.1
theorem dX12_splits_180 : decode cX12_splits 180 = .ok (.ifCond .eq 67, 3) := dX12_splits_176g.2.2.1
theorem dX12_splits_183 : decode cX12_splits 183 = .ok (.aload_n 0, 1) := dX12_splits_176g.2.2.2.1
theorem dX12_splits_184 : decode cX12_splits 184 = .ok (.getfield 46, 3) := dX12_splits_176g.2.2.2.2.1
theorem dX12_splits_187 : decode cX12_splits 187 = .ok (.aload_n 0, 1) := dX12_splits_176g.2.2.2.2.2.1
theorem dX12_splits_188 : decode cX12_splits 188 = .ok (.getfield 145, 3) := dX12_splits_176g.2.2.2.2.2.2.1
theorem dX12_splits_191 : decode cX12_splits 191 = .ok (.aload_n 0, 1) := dX12_splits_176g.2.2.2.2.2.2.2.1
theorem dX12_splits_192 : decode cX12_splits 192 = .ok (.getfield 46, 3) := dX12_splits_176g.2.2.2.2.2.2.2.2.1
theorem dX12_splits_195 : decode cX12_splits 195 = .ok (.aload_n 0, 1) := dX12_splits_176g.2.2.2.2.2.2.2.2.2
theorem dX12_splits_196g : (decode cX12_splits 196 = .ok (.getfield 145, 3)) ∧ (decode cX12_splits 199 = .ok (.iaload, 1)) ∧ (decode cX12_splits 200 = .ok (.ldc 158, 2)) ∧ (decode cX12_splits 202 = .ok (.if_icmp .le 15, 3)) ∧ (decode cX12_splits 205 = .ok (.aload_n 0, 1)) ∧ (decode cX12_splits 206 = .ok (.getfield 46, 3)) ∧ (decode cX12_splits 209 = .ok (.aload_n 0, 1)) ∧ (decode cX12_splits 210 = .ok (.getfield 145, 3)) ∧ (decode cX12_splits 213 = .ok (.iaload, 1)) ∧ (decode cX12_splits 214 = .ok (.goto 26, 3)) := by decide +kernel
theorem dX12_splits_196 : decode cX12_splits 196 = .ok (.getfield 145, 3) := dX12_splits_196g.1
theorem dX12_splits_199 : decode cX12_splits 199 = .ok (.iaload, 1) := dX12_splits_196g.2.1
theorem dX12_splits_200 : decode cX12_splits 200 = .ok (.ldc 158, 2) := dX12_splits_196g.2.2.1
theorem dX12_splits_202 : decode cX12_splits 202 = .ok (.if_icmp .le 15, 3) := dX12_splits_196g.2.2.2.1
theorem dX12_splits_205 : decode cX12_splits 205 = .ok (.aload_n 0, 1) := dX12_splits_196g.2.2.2.2.1
theorem dX12_splits_206 : decode cX12_splits 206 = .ok (.getfield 46, 3) := dX12_splits_196g.2.2.2.2.2.1
theorem dX12_splits_209 : decode cX12_splits 209 = .ok (.aload_n 0, 1) := dX12_splits_196g.2.2.2.2.2.2.1
theorem dX12_splits_210 : decode cX12_splits 210 = .ok (.getfield 145, 3) := dX12_splits_196g.2.2.2.2.2.2.2.1
theorem dX12_splits_213 : decode cX12_splits 213 = .ok (.iaload, 1) := dX12_splits_196g.2.2.2.2.2.2.2.2.1
theorem dX12_splits_214 : decode cX12_splits 214 = .ok (.goto 26, 3) := dX12_splits_196g.2.2.2.2.2.2.2.2.2
theorem dX12_splits_217g : (decode cX12_splits 217 = .ok (.bipush 10, 2)) ∧ (decode cX12_splits 219 = .ok (.aload_n 0, 1)) ∧ (decode cX12_splits 220 = .ok (.getfield 46, 3)) ∧ (decode cX12_splits 223 = .ok (.aload_n 0, 1)) ∧ (decode cX12_splits 224 = .ok (.getfield 145, 3)) ∧ (decode cX12_splits 227 = .ok (.iaload, 1)) ∧ (decode cX12_splits 228 = .ok (.imul, 1)) ∧ (decode cX12_splits 229 = .ok (.aload_n 0, 1)) ∧ (decode cX12_splits 230 = .ok (.getfield 34, 3)) ∧ (decode cX12_splits 233 = .ok (.iload 5, 2)) := by decide +kernel
theorem dX12_splits_217 : decode cX12_splits 217 = .ok (.bipush 10, 2) := dX12_splits_217g.1
theorem dX12_splits_219 : decode cX12_splits 219 = .ok (.aload_n 0, 1) := dX12_splits_217g.2.1
theorem dX12_splits_220 : decode cX12_splits 220 = .ok (.getfield 46, 3) := dX12_splits_217g.2.2.1
theorem dX12_splits_223 : decode cX12_splits 223 = .ok (.aload_n 0, 1) := dX12_splits_217g.2.2.2.1
theorem dX12_splits_224 : decode cX12_splits 224 = .ok (.getfield 145, 3) := dX12_splits_217g.2.2.2.2.1
theorem dX12_splits_227 : decode cX12_splits 227 = .ok (.iaload, 1) := dX12_splits_217g.2.2.2.2.2.1
theorem dX12_splits_228 : decode cX12_splits 228 = .ok (.imul, 1) := dX12_splits_217g.2.2.2.2.2.2.1
theorem dX12_splits_229 : decode cX12_splits 229 = .ok (.aload_n 0, 1) := dX12_splits_217g.2.2.2.2.2.2.2.1
theorem dX12_splits_230 : decode cX12_splits 230 = .ok (.getfield 34, 3) := dX12_splits_217g.2.2.2.2.2.2.2.2.1
theorem dX12_splits_233 : decode cX12_splits 233 = .ok (.iload 5, 2) := dX12_splits_217g.2.2.2.2.2.2.2.2.2
theorem dX12_splits_235g : (decode cX12_splits 235 = .ok (.baload, 1)) ∧ (decode cX12_splits 236 = .ok (.iadd, 1)) ∧ (decode cX12_splits 237 = .ok (.bipush 48, 2)) ∧ (decode cX12_splits 239 = .ok (.isub, 1)) ∧ (decode cX12_splits 240 = .ok (.iastore, 1)) ∧ (decode cX12_splits 241 = .ok (.iinc 5 1, 3)) ∧ (decode cX12_splits 244 = .ok (.goto (-75), 3)) ∧ (decode cX12_splits 247 = .ok (.aload_n 0, 1)) ∧ (decode cX12_splits 248 = .ok (.dup, 1)) ∧ (decode cX12_splits 249 = .ok (.getfield 145, 3)) := by decide +kernel
theorem dX12_splits_235 : decode cX12_splits 235 = .ok (.baload, 1) := dX12_splits_235g.1
theorem dX12_splits_236 : decode cX12_splits 236 = .ok (.iadd, 1) := dX12_splits_235g.2.1
theorem dX12_splits_237 : decode cX12_splits 237 = .ok (.bipush 48, 2) := dX12_splits_235g.2.2.1
theorem dX12_splits_239 : decode cX12_splits 239 = .ok (.isub, 1) := dX12_splits_235g.2.2.2.1
theorem dX12_splits_240 : decode cX12_splits 240 = .ok (.iastore, 1) := dX12_splits_235g.2.2.2.2.1
theorem dX12_splits_241 : decode cX12_splits 241 = .ok (.iinc 5 1, 3) := dX12_splits_235g.2.2.2.2.2.1
theorem dX12_splits_244 : decode cX12_splits 244 = .ok (.goto (-75), 3) := dX12_splits_235g.2.2.2.2.2.2.1
theorem dX12_splits_247 : decode cX12_splits 247 = .ok (.aload_n 0, 1) := dX12_splits_235g.2.2.2.2.2.2.2.1
theorem dX12_splits_248 : decode cX12_splits 248 = .ok (.dup, 1) := dX12_splits_235g.2.2.2.2.2.2.2.2.1
theorem dX12_splits_249 : decode cX12_splits 249 = .ok (.getfield 145, 3) := dX12_splits_235g.2.2.2.2.2.2.2.2.2
theorem dX12_splits_252g : (decode cX12_splits 252 = .ok (.iconst 1, 1)) ∧ (decode cX12_splits 253 = .ok (.iadd, 1)) ∧ (decode cX12_splits 254 = .ok (.putfield 145, 3)) ∧ (decode cX12_splits 257 = .ok (.iload 4, 2)) ∧ (decode cX12_splits 259 = .ok (.istore_n 2, 1)) ∧ (decode cX12_splits 260 = .ok (.goto (-253), 3)) ∧ (decode cX12_splits 263 = .ok (.aload_n 0, 1)) ∧ (decode cX12_splits 264 = .ok (.getfield 49, 3)) ∧ (decode cX12_splits 267 = .ok (.aload_n 0, 1)) ∧ (decode cX12_splits 268 = .ok (.getfield 145, 3)) := by decide +kernel
theorem dX12_splits_252 : decode cX12_splits 252 = .ok (.iconst 1, 1) := dX12_splits_252g.1
theorem dX12_splits_253 : decode cX12_splits 253 = .ok (.iadd, 1) := dX12_splits_252g.2.1
theorem dX12_splits_254 : decode cX12_splits 254 = .ok (.putfield 145, 3) := dX12_splits_252g.2.2.1
theorem dX12_splits_257 : decode cX12_splits 257 = .ok (.iload 4, 2) := dX12_splits_252g.2.2.2.1
theorem dX12_splits_259 : decode cX12_splits 259 = .ok (.istore_n 2, 1) := dX12_splits_252g.2.2.2.2.1
theorem dX12_splits_260 : decode cX12_splits 260 = .ok (.goto (-253), 3) := dX12_splits_252g.2.2.2.2.2.1
theorem dX12_splits_263 : decode cX12_splits 263 = .ok (.aload_n 0, 1) := dX12_splits_252g.2.2.2.2.2.2.1
theorem dX12_splits_264 : decode cX12_splits 264 = .ok (.getfield 49, 3) := dX12_splits_252g.2.2.2.2.2.2.2.1
theorem dX12_splits_267 : decode cX12_splits 267 = .ok (.aload_n 0, 1) := dX12_splits_252g.2.2.2.2.2.2.2.2.1
theorem dX12_splits_268 : decode cX12_splits 268 = .ok (.getfield 145, 3) := dX12_splits_252g.2.2.2.2.2.2.2.2.2
theorem dX12_splits_271g : (decode cX12_splits 271 = .ok (.iload_n 1, 1)) ∧ (decode cX12_splits 272 = .ok (.iastore, 1)) ∧ (decode cX12_splits 273 = .ok (.aload_n 0, 1)) ∧ (decode cX12_splits 274 = .ok (.getfield 43, 3)) ∧ (decode cX12_splits 277 = .ok (.aload_n 0, 1)) ∧ (decode cX12_splits 278 = .ok (.getfield 145, 3)) ∧ (decode cX12_splits 281 = .ok (.iconst 0, 1)) ∧ (decode cX12_splits 282 = .ok (.iastore, 1)) ∧ (decode cX12_splits 283 = .ok (.aload_n 0, 1)) ∧ (decode cX12_splits 284 = .ok (.getfield 46, 3)) := by decide +kernel
theorem dX12_splits_271 : decode cX12_splits 271 = .ok (.iload_n 1, 1) := dX12_splits_271g.1
theorem dX12_splits_272 : decode cX12_splits 272 = .ok (.iastore, 1) := dX12_splits_271g.2.1
theorem dX12_splits_273 : decode cX12_splits 273 = .ok (.aload_n 0, 1) := dX12_splits_271g.2.2.1
theorem dX12_splits_274 : decode cX12_splits 274 = .ok (.getfield 43, 3) := dX12_splits_271g.2.2.2.1
theorem dX12_splits_277 : decode cX12_splits 277 = .ok (.aload_n 0, 1) := dX12_splits_271g.2.2.2.2.1
theorem dX12_splits_278 : decode cX12_splits 278 = .ok (.getfield 145, 3) := dX12_splits_271g.2.2.2.2.2.1
theorem dX12_splits_281 : decode cX12_splits 281 = .ok (.iconst 0, 1) := dX12_splits_271g.2.2.2.2.2.2.1
theorem dX12_splits_282 : decode cX12_splits 282 = .ok (.iastore, 1) := dX12_splits_271g.2.2.2.2.2.2.2.1
theorem dX12_splits_283 : decode cX12_splits 283 = .ok (.aload_n 0, 1) := dX12_splits_271g.2.2.2.2.2.2.2.2.1
theorem dX12_splits_284 : decode cX12_splits 284 = .ok (.getfield 46, 3) := dX12_splits_271g.2.2.2.2.2.2.2.2.2
theorem dX12_splits_287g : (decode cX12_splits 287 = .ok (.aload_n 0, 1)) ∧ (decode cX12_splits 288 = .ok (.getfield 145, 3)) ∧ (decode cX12_splits 291 = .ok (.iconst 0, 1)) ∧ (decode cX12_splits 292 = .ok (.iastore, 1)) ∧ (decode cX12_splits 293 = .ok (.return_, 1)) := by decide +kernel
theorem dX12_splits_287 : decode cX12_splits 287 = .ok (.aload_n 0, 1) := dX12_splits_287g.1
theorem dX12_splits_288 : decode cX12_splits 288 = .ok (.getfield 145, 3) := dX12_splits_287g.2.1
theorem dX12_splits_291 : decode cX12_splits 291 = .ok (.iconst 0, 1) := dX12_splits_287g.2.2.1
theorem dX12_splits_292 : decode cX12_splits 292 = .ok (.iastore, 1) := dX12_splits_287g.2.2.2.1
theorem dX12_splits_293 : decode cX12_splits 293 = .ok (.return_, 1) := dX12_splits_287g.2.2.2.2
set_option maxHeartbeats 4000000 in
set_option maxRecDepth 100000 in
theorem c_X12_splits (l : Launch) (E : Nat → Nat) (D : va_G) (G : th_G) (h0 : Nat) (hG0 : G h0 = some (10, 0)) (x1 : Int32) (hx1 : (0 : Int) ≤ x1.toInt ∧ x1.toInt ≤ 400) (ff : Nat → Int32) (hkf : kOk (E 10) ff) (sz : Nat) (hsz : x1.toInt = (sz : Int)) : Met l yX12_splits (tb (.code yX12_splits cX12_splits 6 none)) (rm 2) (va_Pc [.ref h0, .int x1] (PX E D G (fun H => ga E D G h0 3 (1, 5123) ff H))) (QXv E D G (fun H => ∃ (TT : Nat) (cd va pl : Nat → Int32), (∃ z, gf D h0 15 z H ∧ z.toInt = (TT : Int)) ∧ TT ≤ 400 ∧ ga E D G h0 3 (1, 5123) ff H ∧ ga E D G h0 12 (8, 401) cd H ∧ ga E D G h0 13 (0, 401) va H ∧ ga E D G h0 14 (6, 401) pl H ∧ (∀ j : Nat, j < 401 → 0 ≤ (pl j).toInt ∧ (pl j).toInt ≤ 400) ∧ (cd TT).toInt = 0 ∧ (pl TT).toInt = (sz : Int) ∧ TI_ E sz pl cd va sz TT)) 0 0 (th_A G) := by
  refine Met.ofW (cc := cX12_splits) (maxL := 6) (ret := none) (by decide) rfl ?_
  intro p e s m args below meth c s₁ B hml hv
  obtain ⟨hav, ⟨hI, hN, hK⟩, hX⟩ := hv
  have hx := B.exec
  have hb := B.bytes
  have hr := B.returns
  have hts := atoms_spec (ws := tb (.code yX12_splits cX12_splits 6 none)) B.pre
  have hown : s.vm.findClass RX12 = some m.cls := findClass_of_methodNamed B.named
  have hlocks := B.notSynchronized
  have hS : va_S (th_A G) s.heap s.heap [] := va_S.rf
  have hl := lv_entry ([.ref h0, .int x1]) (n := 6) (Nat.le_of_ble_eq_true rfl)
  rw [show entryFrame m args 6 = entryFrame m ([.ref h0, .int x1] : List Value).toArray 6 from by rw [hav], lg_entry_eq]
  generalize (lg_sl ([.ref h0, .int x1]) ++ List.replicate (6 - (lg_sl ([.ref h0, .int x1])).length) Slot.unset).toArray = ls at hl ⊢
  have hl : lv_has ls 6 [(0, .ref h0), (1, .int x1)] := hl
  generalize hR : (headSpec (tb (.code yX12_splits cX12_splits 6 none)) (rm 2)).room = R
  have hR := hR.symm
  generalize hQ : MQ below (QXv E D G (fun H => ∃ (TT : Nat) (cd va pl : Nat → Int32), (∃ z, gf D h0 15 z H ∧ z.toInt = (TT : Int)) ∧ TT ≤ 400 ∧ ga E D G h0 3 (1, 5123) ff H ∧ ga E D G h0 12 (8, 401) cd H ∧ ga E D G h0 13 (0, 401) va H ∧ ga E D G h0 14 (6, 401) pl H ∧ (∀ j : Nat, j < 401 → 0 ≤ (pl j).toInt ∧ (pl j).toInt ≤ 400) ∧ (cd TT).toInt = 0 ∧ (pl TT).toInt = (sz : Int) ∧ TI_ E sz pl cd va sz TT)) args s 0 0 (th_A G) = QF
  have hQ := hQ.symm
  obtain ⟨q_3, hf_3, hq_3, hA_3⟩ := hX
  have J_7 : ∀ (nn : Nat) (H : Heap) (locs : List Loc) (ls : Array Slot) (v3290 : Int32) (v3291 : Int32) (kk : Nat) (tt : Nat) (cd : Nat → Int32) (va : Nat → Int32) (pl : Nat → Int32), (Int.toNat (x1.toInt - v3290.toInt) = nn) → lv_has ls 6 [(2, .int v3290), (0, .ref h0), (1, .int x1)] → ((0 : Int) ≤ v3290.toInt ∧ v3290.toInt ≤ 400) → ((0 : Int) ≤ x1.toInt ∧ x1.toInt ≤ 400) → ((0 : Int) ≤ v3291.toInt ∧ v3291.toInt ≤ 400) → gf D h0 15 v3291 H → ga E D G h0 3 (1, 5123) ff H → ga E D G h0 12 (8, 401) cd H → ga E D G h0 13 (0, 401) va H → ga E D G h0 14 (6, 401) pl H → (v3290.toInt = (kk : Int)) → (v3291.toInt = (tt : Int)) → (∀ j : Nat, j < 401 → 0 ≤ (pl j).toInt ∧ (pl j).toInt ≤ 400) → (TI_ E sz pl cd va kk tt) → th_I (okM E) D G [] H → va_S (th_A G) s.heap H locs → W p l e R s m args below meth c H locs 0 0 QF (F0 m 7 ls []) := by
    intro nn
    induction nn using Nat.strongRecOn with
    | ind nn ih_7 =>
      intro H locs ls v3290 v3291 kk tt cd va pl hm hl k3292 k3293 k3294 hg3295 hga_3 hga_12 hga_13 hga_14 hk2 ht15 hPl hTI hI hS
      obtain ⟨a3296, hf3297, hq3298, hA3299⟩ := hga_3
      obtain ⟨a3300, hf3301, hq3302, hA3303⟩ := hga_12
      obtain ⟨a3304, hf3305, hq3306, hA3307⟩ := hga_13
      obtain ⟨a3308, hf3309, hq3310, hA3311⟩ := hga_14
      have hle := tk_I.le hTI
      have J_169 : ∀ (nn : Nat) (H : Heap) (locs : List Loc) (ls : Array Slot) (v3312 : Int32) (v3313 : Int32) (v3314 : Int32) (v3315 : Int32) (v3316 : Int32) (kk : Nat) (tt : Nat) (ee : Nat) (ii : Nat) (cd : Nat → Int32) (va : Nat → Int32) (pl : Nat → Int32), (Int.toNat (v3313.toInt - v3312.toInt) = nn) → lv_has ls 6 [(5, .int v3312), (4, .int v3313), (3, .int v3314), (2, .int v3315), (0, .ref h0), (1, .int x1)] → ((0 : Int) ≤ v3312.toInt ∧ v3312.toInt ≤ 400) → ((1 : Int) ≤ v3313.toInt ∧ v3313.toInt ≤ 400) → ((0 : Int) ≤ v3315.toInt ∧ v3315.toInt ≤ 399) → ((1 : Int) ≤ x1.toInt ∧ x1.toInt ≤ 400) → ((0 : Int) ≤ v3316.toInt ∧ v3316.toInt ≤ 399) → gf D h0 15 v3316 H → ga E D G h0 3 (1, 5123) ff H → ga E D G h0 12 (8, 401) cd H → ga E D G h0 13 (0, 401) va H → ga E D G h0 14 (6, 401) pl H → (v3315.toInt = (kk : Int)) → (v3316.toInt = (tt : Int)) → (∀ j : Nat, j < 401 → 0 ≤ (pl j).toInt ∧ (pl j).toInt ≤ 400) → (TI_ E sz pl cd va kk tt) → ((v3314.toInt = (tB E kk : Int) ∧ tB E kk < 128) ∨ (v3314.toInt = (tB E kk : Int) - 256 ∧ 128 ≤ tB E kk ∧ tB E kk ≤ 255)) → (tB E kk ≠ 32) → (v3313.toInt = (ee : Int)) → (kk < ee ∧ ee ≤ sz) → (v3290.toInt ≤ (kk : Int)) → ((∀ j, kk < j → j < ee → tk_ct (tB E) j) ∧ (ee = sz ∨ ¬ tk_ct (tB E) ee)) → (v3312.toInt = (ii : Int)) → (kk ≤ ii ∧ ii ≤ ee) → ((pl tt).toInt = (kk : Int)) → (tk_z (tB E) sz kk (cd tt).toInt) → (VI E sz kk ee ii (va tt).toInt) → th_I (okM E) D G [] H → va_S (th_A G) s.heap H locs → W p l e R s m args below meth c H locs 0 0 QF (F0 m 169 ls []) := by
        intro nn
        induction nn using Nat.strongRecOn with
        | ind nn ih_169 =>
          intro H locs ls v3312 v3313 v3314 v3315 v3316 kk tt ee ii cd va pl hm hl k3317 k3318 k3319 k3320 k3321 hg3322 hga_3 hga_12 hga_13 hga_14 hk2 ht15 hPl hTI hb3 hb32 hk4 hke hk7 hct hk5 hki hpt hzt hVI hI hS
          obtain ⟨a3323, hf3324, hq3325, hA3326⟩ := hga_3
          obtain ⟨a3327, hf3328, hq3329, hA3330⟩ := hga_12
          obtain ⟨a3331, hf3332, hq3333, hA3334⟩ := hga_13
          obtain ⟨a3335, hf3336, hq3337, hA3338⟩ := hga_14
          have hle := tk_I.le hTI
          obtain ⟨hv1, hv2, _⟩ := id hVI
          refine lv_iload hx hb dX12_splits_169 (lv_at hl 0 rfl) ?_
          refine lv_iload hx hb dX12_splits_171 (lv_at hl 1 rfl) ?_
          refine lv_icmp_ge (tgt := 247) hx hb dX12_splits_173 (by decide) (fun c3339 => ?_) (fun c3339 => ?_)
          · skip
            have k3340 := iv_le (X := v3313.toInt) (Y := v3312.toInt) rfl rfl c3339
            refine lv_aload_n hx hb dX12_splits_247 rfl (lv_at hl 4 rfl) ?_
            refine lv_dup hx hb dX12_splits_248 rfl ?_
            refine gmI hx hb hts inT12 hown hK hI List.not_mem_nil hG0 15 (by decide) (hts _ (tb_c wd_1248)) rfl rfl dX12_splits_249 (fun w3341 hg3342 k3343 k3344 => ?_)
            obtain rfl := gf.uniq (by decide) hg3322 hg3342
            refine lv_iconst (v := 1) hx hb dX12_splits_252 (by decide) ?_
            refine lv_iadd hx hb dX12_splits_253 ?_
            refine lv_topi (fun v3345 e3346 => ?_)
            have tv3345 : v3345.toInt = v3316.toInt + (1) := iv_add rfl (by decide) e3346 (by omega) (by omega)
            refine pmI (ty := .int) hx hb hts inT12 hown hK hI List.not_mem_nil hG0 hS ⟨_, hG0⟩ 15 (by decide) (by decide) (hts _ (tb_c wd_1248)) rfl rfl (by decide +kernel) rfl rfl rfl (by omega) (by omega) dX12_splits_254 (fun H locs hI hgP hS => ?_)
            have hg3347 := hgP.2.1
            have hf3324 := hgP.2.2.2 3 _ (by decide) (by decide) hf3324
            have hf3328 := hgP.2.2.2 12 _ (by decide) (by decide) hf3328
            have hf3332 := hgP.2.2.2 13 _ (by decide) (by decide) hf3332
            have hf3336 := hgP.2.2.2 14 _ (by decide) (by decide) hf3336
            have hA3326 := va_at.kept hA3326 (hgP.1 _ (m_ne hq3325 hG0 (by first | decide | (dsimp only; decide))))
            have hA3330 := va_at.kept hA3330 (hgP.1 _ (m_ne hq3329 hG0 (by first | decide | (dsimp only; decide))))
            have hA3334 := va_at.kept hA3334 (hgP.1 _ (m_ne hq3333 hG0 (by first | decide | (dsimp only; decide))))
            have hA3338 := va_at.kept hA3338 (hgP.1 _ (m_ne hq3337 hG0 (by first | decide | (dsimp only; decide))))
            refine lv_iload hx hb dX12_splits_257 (lv_at hl 1 rfl) ?_
            refine lv_istore_n (lv' := [(2, .int v3313), (5, .int v3312), (4, .int v3313), (3, .int v3314), (0, .ref h0), (1, .int x1)]) hx hb dX12_splits_259 rfl hl (by decide) rfl (fun ls hl => ?_)
            refine lv_goto (tgt := 7) hx hb dX12_splits_260 (by decide) ?_
            exact ih_7 _ (by omega) H locs ls v3313 v3345 ee (tt + 1) cd va pl rfl (lv_sub hl [0, 4, 5] rfl) ⟨by omega, by omega⟩ ⟨by omega, by omega⟩ ⟨by omega, by omega⟩ hg3347 ⟨a3323, hf3324, hq3325, hA3326⟩ ⟨a3327, hf3328, hq3329, hA3330⟩ ⟨a3331, hf3332, hq3333, hA3334⟩ ⟨a3335, hf3336, hq3337, hA3338⟩ (by first | omega | (rw [show (0 : Int32).toInt = 0 from by decide]; omega)) (by first | omega | decide) (hPl) (tk_I.tok hTI (by omega) hb32 (by omega) (by omega) hct (fun j hj => ⟨rfl, rfl, rfl⟩) hpt hzt (VI.y hVI (fun z => by first | omega | (exfalso; unfold tk_dg at z; omega)))) hI hS
          · skip
            have k3348 := iv_nle (X := v3313.toInt) (Y := v3312.toInt) rfl rfl c3339
            refine lv_iload_n hx hb dX12_splits_176 rfl (lv_at hl 2 rfl) ?_
            refine th_cSs (As := [.int v3314]) (rest := []) (n := 1) (d := 1) ⟨hx, hb, hml, hown, hts⟩ (c_X12_isDigit l H v3314) wd_1575 wd_1576 wd_13 wd_1577 (by decide +kernel) ⟨by rw [hR]; exact Nat.le_of_ble_eq_true rfl, by rw [hR]; exact Nat.le_of_ble_eq_true rfl⟩ hN hS rfl hl.1 rfl (Nat.le_of_ble_eq_true rfl) dX12_splits_177 ⟨Nat.zero_le _, Nat.zero_le _⟩ (fun r3349 locs hp hS => ?_)
            rcases hp with ⟨rfl, hp⟩ | ⟨rfl, hp⟩
            · skip
              try simp only [rg, not_and, Int.not_le] at hp
              have hp3350 := hp
              refine lv_if_eq (tgt := 247) hx hb dX12_splits_180 (by decide) (fun c => absurd c (by decide)) (fun _ => ?_)
              have hdg9 : tk_dg (tB E kk) := by unfold tk_dg; omega
              refine lv_aload_n hx hb dX12_splits_183 rfl (lv_at hl 4 rfl) ?_
              refine gmA hx hb hts inT12 hown hK hI List.not_mem_nil hG0 13 (by decide) (hts _ (tb_c wd_1246)) rfl rfl dX12_splits_184 (fun a3351 hq3352 hf3353 => ?_)
              obtain rfl := fr.uniq (by decide) hf3332 hf3353
              refine lv_aload_n hx hb dX12_splits_187 rfl (lv_at hl 4 rfl) ?_
              refine gmI hx hb hts inT12 hown hK hI List.not_mem_nil hG0 15 (by decide) (hts _ (tb_c wd_1248)) rfl rfl dX12_splits_188 (fun w3354 hg3355 k3356 k3357 => ?_)
              obtain rfl := gf.uniq (by decide) hg3322 hg3355
              refine lv_aload_n hx hb dX12_splits_191 rfl (lv_at hl 4 rfl) ?_
              refine gmA hx hb hts inT12 hown hK hI List.not_mem_nil hG0 13 (by decide) (hts _ (tb_c wd_1246)) rfl rfl dX12_splits_192 (fun a3358 hq3359 hf3360 => ?_)
              obtain rfl := fr.uniq (by decide) hf3332 hf3360
              refine lv_aload_n hx hb dX12_splits_195 rfl (lv_at hl 4 rfl) ?_
              refine gmI hx hb hts inT12 hown hK hI List.not_mem_nil hG0 15 (by decide) (hts _ (tb_c wd_1248)) rfl rfl dX12_splits_196 (fun w3361 hg3362 k3363 k3364 => ?_)
              obtain rfl := gf.uniq (by decide) hg3322 hg3362
              refine th_iald hx hb hK hA3334 0 rfl (iv_in (X := v3316.toInt) rfl (by omega) (by omega)) dX12_splits_199 (fun v3365 e3366 => ?_)
              have k3367 := rd_at (p := tt) e3366 (by omega)
              refine lv_ldc hx hb hown (hts _ (tb_c wd_1582)) dX12_splits_200 ?_
              refine lv_icmp_le (tgt := 217) hx hb dX12_splits_202 (by decide) (fun c3368 => ?_) (fun c3368 => ?_)
              · skip
                have k3369 := iv_le (X := v3365.toInt) (Y := (1000000)) rfl (by decide) c3368
                refine lv_bipush (v := 10) hx hb dX12_splits_217 (by decide) ?_
                refine lv_aload_n hx hb dX12_splits_219 rfl (lv_at hl 4 rfl) ?_
                refine gmA hx hb hts inT12 hown hK hI List.not_mem_nil hG0 13 (by decide) (hts _ (tb_c wd_1246)) rfl rfl dX12_splits_220 (fun a3370 hq3371 hf3372 => ?_)
                obtain rfl := fr.uniq (by decide) hf3332 hf3372
                refine lv_aload_n hx hb dX12_splits_223 rfl (lv_at hl 4 rfl) ?_
                refine gmI hx hb hts inT12 hown hK hI List.not_mem_nil hG0 15 (by decide) (hts _ (tb_c wd_1248)) rfl rfl dX12_splits_224 (fun w3373 hg3374 k3375 k3376 => ?_)
                obtain rfl := gf.uniq (by decide) hg3322 hg3374
                refine th_iald hx hb hK hA3334 0 rfl (iv_in (X := v3316.toInt) rfl (by omega) (by omega)) dX12_splits_227 (fun v3377 e3378 => ?_)
                obtain rfl := (rd_same (i := v3316) (j := v3316) e3366 e3378 (X := v3316.toInt) (Y := v3316.toInt) rfl rfl (by omega)).symm
                refine lv_imul hx hb dX12_splits_228 ?_
                refine lv_topi (fun v3379 e3380 => ?_)
                have tv3379 : v3379.toInt = (10) * v3365.toInt := iv_mul (by decide) rfl e3380 (by omega) (by omega)
                refine lv_aload_n hx hb dX12_splits_229 rfl (lv_at hl 4 rfl) ?_
                refine gmA hx hb hts inT12 hown hK hI List.not_mem_nil hG0 8 (by decide) (hts _ (tb_c wd_1241)) rfl rfl dX12_splits_230 (fun a3381 hq3382 hf3383 => ?_)
                refine lv_iload hx hb dX12_splits_233 (lv_at hl 0 rfl) ?_
                obtain ⟨F3384, hA3385, hP3386⟩ := om_4 hI hq3382 List.not_mem_nil
                refine va_bald hx hb hK (th_one hA3385) 0 3 rfl rfl (iv_in (X := v3312.toInt) rfl (by omega) (by omega)) dX12_splits_235 ?_
                refine lv_topi (fun v3387 e3388 => ?_)
                have k3389 := tp_at hP3386 e3388 (p := ii) (by omega) (by omega)
                refine lv_iadd hx hb dX12_splits_236 ?_
                refine lv_topi (fun v3390 e3391 => ?_)
                try have tv3390 : v3390.toInt = v3379.toInt + v3387.toInt := iv_add rfl rfl e3391 (by omega) (by omega)
                refine lv_bipush (v := 48) hx hb dX12_splits_237 (by decide) ?_
                refine lv_isub hx hb dX12_splits_239 ?_
                refine lv_topi (fun v3392 e3393 => ?_)
                try have tv3392 : v3392.toInt = v3390.toInt - (48) := iv_sub rfl (by decide) e3393 (by omega) (by omega)
                have hd9 := (hVI.2.2 hdg9).1.2.2.1 ii (by omega) (by omega)
                unfold tk_dg at hd9
                refine th_iast hx hb hK hA3334 0 rfl hS ⟨_, hq3333⟩ (iv_in (X := v3316.toInt) rfl (by omega) (by omega)) dX12_splits_240 (fun H locs hA3394 oq hS => ?_)
                have hI := th_I.put hI hq3333 hA3394 ok_m0 oq
                have hg3322 := gf.arr hG0 hq3333 (by decide) oq hg3322
                have hf3324 := fr.arr hG0 hq3333 (by decide) oq hf3324
                have hf3328 := fr.arr hG0 hq3333 (by decide) oq hf3328
                have hf3332 := fr.arr hG0 hq3333 (by decide) oq hf3332
                have hf3336 := fr.arr hG0 hq3333 (by decide) oq hf3336
                have hf3383 := fr.arr hG0 hq3333 (by decide) oq hf3383
                have hA3326 := va_at.kept hA3326 (oq _ (m_ne hq3325 hq3333 (by first | decide | (dsimp only; decide))))
                have hA3330 := va_at.kept hA3330 (oq _ (m_ne hq3329 hq3333 (by first | decide | (dsimp only; decide))))
                have hA3338 := va_at.kept hA3338 (oq _ (m_ne hq3337 hq3333 (by first | decide | (dsimp only; decide))))
                have hA3385 := va_at.kept hA3385 (oq _ (m_ne hq3382 hq3333 (by first | decide | (dsimp only; decide))))
                have e3395 : v3392 = (upd va (v3316 : Int32).toNatClampNeg v3392) (v3316 : Int32).toNatClampNeg := rd_us
                obtain ⟨v3396, e3397⟩ : ∃ y : Int32, y = v3312 + (1) := ⟨_, rfl⟩
                have tv3396 : v3396.toInt = v3312.toInt + (1) := iv_add rfl (by decide) e3397 (by omega) (by omega)
                refine lv_iinc (v := v3396) (lv' := [(5, .int v3396), (4, .int v3313), (3, .int v3314), (2, .int v3315), (0, .ref h0), (1, .int x1)]) hx hb dX12_splits_241 hl (k := 0) rfl (by rw [e3397]; rfl) (by decide) rfl (fun ls hl => ?_)
                refine lv_goto (tgt := 169) hx hb dX12_splits_244 (by decide) ?_
                exact ih_169 _ (by omega) H locs ls v3396 v3313 v3314 v3315 v3316 kk tt ee (ii + 1) cd (upd va (v3316 : Int32).toNatClampNeg v3392) pl rfl (lv_sub hl [0, 1, 2, 3, 4, 5] rfl) ⟨by omega, by omega⟩ ⟨by omega, by omega⟩ ⟨by omega, by omega⟩ ⟨by omega, by omega⟩ ⟨by omega, by omega⟩ hg3322 ⟨a3323, hf3324, hq3325, hA3326⟩ ⟨a3327, hf3328, hq3329, hA3330⟩ ⟨a3331, hf3332, hq3333, hA3394⟩ ⟨a3335, hf3336, hq3337, hA3338⟩ (by first | omega | (rw [show (0 : Int32).toInt = 0 from by decide]; omega)) (by first | omega | decide) (hPl) (tk_I.upd hTI (fun j hj => ⟨rfl, rfl, by rw [YV_ne (by omega) hj]⟩)) (by omega) (by omega) (by omega) (⟨by omega, by omega⟩) (by omega) (hct) (by omega) (⟨by omega, by omega⟩) (hpt) (hzt) (by rw [up_at (by omega), show (v3392).toInt = 10 * (va tt).toInt + (tB E ii : Int) - 48 by omega]; exact VI.add hVI (by omega) (by omega) (by omega) rfl hdg9) hI hS
              · skip
                have k3398 := iv_nle (X := v3365.toInt) (Y := (1000000)) rfl (by decide) c3368
                refine lv_aload_n hx hb dX12_splits_205 rfl (lv_at hl 4 rfl) ?_
                refine gmA hx hb hts inT12 hown hK hI List.not_mem_nil hG0 13 (by decide) (hts _ (tb_c wd_1246)) rfl rfl dX12_splits_206 (fun a3399 hq3400 hf3401 => ?_)
                obtain rfl := fr.uniq (by decide) hf3332 hf3401
                refine lv_aload_n hx hb dX12_splits_209 rfl (lv_at hl 4 rfl) ?_
                refine gmI hx hb hts inT12 hown hK hI List.not_mem_nil hG0 15 (by decide) (hts _ (tb_c wd_1248)) rfl rfl dX12_splits_210 (fun w3402 hg3403 k3404 k3405 => ?_)
                obtain rfl := gf.uniq (by decide) hg3322 hg3403
                refine th_iald hx hb hK hA3334 0 rfl (iv_in (X := v3316.toInt) rfl (by omega) (by omega)) dX12_splits_213 (fun v3406 e3407 => ?_)
                obtain rfl := (rd_same (i := v3316) (j := v3316) e3366 e3407 (X := v3316.toInt) (Y := v3316.toInt) rfl rfl (by omega)).symm
                refine lv_goto (tgt := 240) hx hb dX12_splits_214 (by decide) ?_
                refine th_iast hx hb hK hA3334 0 rfl hS ⟨_, hq3333⟩ (iv_in (X := v3316.toInt) rfl (by omega) (by omega)) dX12_splits_240 (fun H locs hA3408 oq hS => ?_)
                have hI := th_I.put hI hq3333 hA3408 ok_m0 oq
                have hg3322 := gf.arr hG0 hq3333 (by decide) oq hg3322
                have hf3324 := fr.arr hG0 hq3333 (by decide) oq hf3324
                have hf3328 := fr.arr hG0 hq3333 (by decide) oq hf3328
                have hf3332 := fr.arr hG0 hq3333 (by decide) oq hf3332
                have hf3336 := fr.arr hG0 hq3333 (by decide) oq hf3336
                have hA3326 := va_at.kept hA3326 (oq _ (m_ne hq3325 hq3333 (by first | decide | (dsimp only; decide))))
                have hA3330 := va_at.kept hA3330 (oq _ (m_ne hq3329 hq3333 (by first | decide | (dsimp only; decide))))
                have hA3338 := va_at.kept hA3338 (oq _ (m_ne hq3337 hq3333 (by first | decide | (dsimp only; decide))))
                have e3409 : v3365 = (upd va (v3316 : Int32).toNatClampNeg v3365) (v3316 : Int32).toNatClampNeg := rd_us
                obtain ⟨v3410, e3411⟩ : ∃ y : Int32, y = v3312 + (1) := ⟨_, rfl⟩
                have tv3410 : v3410.toInt = v3312.toInt + (1) := iv_add rfl (by decide) e3411 (by omega) (by omega)
                refine lv_iinc (v := v3410) (lv' := [(5, .int v3410), (4, .int v3313), (3, .int v3314), (2, .int v3315), (0, .ref h0), (1, .int x1)]) hx hb dX12_splits_241 hl (k := 0) rfl (by rw [e3411]; rfl) (by decide) rfl (fun ls hl => ?_)
                refine lv_goto (tgt := 169) hx hb dX12_splits_244 (by decide) ?_
                exact ih_169 _ (by omega) H locs ls v3410 v3313 v3314 v3315 v3316 kk tt ee (ii + 1) cd (upd va (v3316 : Int32).toNatClampNeg v3365) pl rfl (lv_sub hl [0, 1, 2, 3, 4, 5] rfl) ⟨by omega, by omega⟩ ⟨by omega, by omega⟩ ⟨by omega, by omega⟩ ⟨by omega, by omega⟩ ⟨by omega, by omega⟩ hg3322 ⟨a3323, hf3324, hq3325, hA3326⟩ ⟨a3327, hf3328, hq3329, hA3330⟩ ⟨a3331, hf3332, hq3333, hA3408⟩ ⟨a3335, hf3336, hq3337, hA3338⟩ (by first | omega | (rw [show (0 : Int32).toInt = 0 from by decide]; omega)) (by first | omega | decide) (hPl) (tk_I.upd hTI (fun j hj => ⟨rfl, rfl, by rw [YV_ne (by omega) hj]⟩)) (by omega) (by omega) (by omega) (⟨by omega, by omega⟩) (by omega) (hct) (by omega) (⟨by omega, by omega⟩) (hpt) (hzt) (by rw [up_at (by omega), show (v3365).toInt = (va tt).toInt by omega]; exact VI.big hVI (by omega) (by omega)) hI hS
            · skip
              try simp only [rg, not_and, Int.not_le] at hp
              have hp3412 := hp
              refine lv_if_eq (tgt := 247) hx hb dX12_splits_180 (by decide) (fun _ => ?_) (fun c => absurd c (by decide))
              refine lv_aload_n hx hb dX12_splits_247 rfl (lv_at hl 4 rfl) ?_
              refine lv_dup hx hb dX12_splits_248 rfl ?_
              refine gmI hx hb hts inT12 hown hK hI List.not_mem_nil hG0 15 (by decide) (hts _ (tb_c wd_1248)) rfl rfl dX12_splits_249 (fun w3413 hg3414 k3415 k3416 => ?_)
              obtain rfl := gf.uniq (by decide) hg3322 hg3414
              refine lv_iconst (v := 1) hx hb dX12_splits_252 (by decide) ?_
              refine lv_iadd hx hb dX12_splits_253 ?_
              refine lv_topi (fun v3417 e3418 => ?_)
              have tv3417 : v3417.toInt = v3316.toInt + (1) := iv_add rfl (by decide) e3418 (by omega) (by omega)
              refine pmI (ty := .int) hx hb hts inT12 hown hK hI List.not_mem_nil hG0 hS ⟨_, hG0⟩ 15 (by decide) (by decide) (hts _ (tb_c wd_1248)) rfl rfl (by decide +kernel) rfl rfl rfl (by omega) (by omega) dX12_splits_254 (fun H locs hI hgP hS => ?_)
              have hg3419 := hgP.2.1
              have hf3324 := hgP.2.2.2 3 _ (by decide) (by decide) hf3324
              have hf3328 := hgP.2.2.2 12 _ (by decide) (by decide) hf3328
              have hf3332 := hgP.2.2.2 13 _ (by decide) (by decide) hf3332
              have hf3336 := hgP.2.2.2 14 _ (by decide) (by decide) hf3336
              have hA3326 := va_at.kept hA3326 (hgP.1 _ (m_ne hq3325 hG0 (by first | decide | (dsimp only; decide))))
              have hA3330 := va_at.kept hA3330 (hgP.1 _ (m_ne hq3329 hG0 (by first | decide | (dsimp only; decide))))
              have hA3334 := va_at.kept hA3334 (hgP.1 _ (m_ne hq3333 hG0 (by first | decide | (dsimp only; decide))))
              have hA3338 := va_at.kept hA3338 (hgP.1 _ (m_ne hq3337 hG0 (by first | decide | (dsimp only; decide))))
              refine lv_iload hx hb dX12_splits_257 (lv_at hl 1 rfl) ?_
              refine lv_istore_n (lv' := [(2, .int v3313), (5, .int v3312), (4, .int v3313), (3, .int v3314), (0, .ref h0), (1, .int x1)]) hx hb dX12_splits_259 rfl hl (by decide) rfl (fun ls hl => ?_)
              refine lv_goto (tgt := 7) hx hb dX12_splits_260 (by decide) ?_
              exact ih_7 _ (by omega) H locs ls v3313 v3417 ee (tt + 1) cd va pl rfl (lv_sub hl [0, 4, 5] rfl) ⟨by omega, by omega⟩ ⟨by omega, by omega⟩ ⟨by omega, by omega⟩ hg3419 ⟨a3323, hf3324, hq3325, hA3326⟩ ⟨a3327, hf3328, hq3329, hA3330⟩ ⟨a3331, hf3332, hq3333, hA3334⟩ ⟨a3335, hf3336, hq3337, hA3338⟩ (by first | omega | (rw [show (0 : Int32).toInt = 0 from by decide]; omega)) (by first | omega | decide) (hPl) (tk_I.tok hTI (by omega) hb32 (by omega) (by omega) hct (fun j hj => ⟨rfl, rfl, rfl⟩) hpt hzt (VI.y hVI (fun z => by first | omega | (exfalso; unfold tk_dg at z; omega)))) hI hS
      have J_75 : ∀ (nn : Nat) (H : Heap) (locs : List Loc) (ls : Array Slot) (v3420 : Int32) (v3421 : Int32) (v3422 : Int32) (v3423 : Int32) (kk : Nat) (tt : Nat) (ee : Nat) (cd : Nat → Int32) (va : Nat → Int32) (pl : Nat → Int32), (Int.toNat (x1.toInt - v3420.toInt) = nn) → lv_has ls 6 [(4, .int v3420), (3, .int v3421), (2, .int v3422), (0, .ref h0), (1, .int x1)] → ((1 : Int) ≤ v3420.toInt ∧ v3420.toInt ≤ 400) → ((48 : Int) ≤ v3421.toInt ∧ v3421.toInt ≤ 57) → ((0 : Int) ≤ v3422.toInt ∧ v3422.toInt ≤ 399) → ((1 : Int) ≤ x1.toInt ∧ x1.toInt ≤ 400) → ((0 : Int) ≤ v3423.toInt ∧ v3423.toInt ≤ 399) → gf D h0 15 v3423 H → ga E D G h0 3 (1, 5123) ff H → ga E D G h0 12 (8, 401) cd H → ga E D G h0 13 (0, 401) va H → ga E D G h0 14 (6, 401) pl H → (v3422.toInt = (kk : Int)) → (v3423.toInt = (tt : Int)) → (∀ j : Nat, j < 401 → 0 ≤ (pl j).toInt ∧ (pl j).toInt ≤ 400) → (TI_ E sz pl cd va kk tt) → ((v3421.toInt = (tB E kk : Int) ∧ tB E kk < 128) ∨ (v3421.toInt = (tB E kk : Int) - 256 ∧ 128 ≤ tB E kk ∧ tB E kk ≤ 255)) → (tB E kk ≠ 32) → (v3420.toInt = (ee : Int)) → (kk < ee ∧ ee ≤ sz) → (v3290.toInt ≤ (kk : Int)) → (∀ j : Nat, kk ≤ j → j < ee → tk_dg (tB E j)) → th_I (okM E) D G [] H → va_S (th_A G) s.heap H locs → W p l e R s m args below meth c H locs 0 0 QF (F0 m 75 ls []) := by
        intro nn
        induction nn using Nat.strongRecOn with
        | ind nn ih_75 =>
          intro H locs ls v3420 v3421 v3422 v3423 kk tt ee cd va pl hm hl k3424 k3425 k3426 k3427 k3428 hg3429 hga_3 hga_12 hga_13 hga_14 hk2 ht15 hPl hTI hb3 hb32 hk4 hke hk7 hrun hI hS
          obtain ⟨a3430, hf3431, hq3432, hA3433⟩ := hga_3
          obtain ⟨a3434, hf3435, hq3436, hA3437⟩ := hga_12
          obtain ⟨a3438, hf3439, hq3440, hA3441⟩ := hga_13
          obtain ⟨a3442, hf3443, hq3444, hA3445⟩ := hga_14
          have hle := tk_I.le hTI
          refine lv_iload hx hb dX12_splits_75 (lv_at hl 0 rfl) ?_
          refine lv_iload_n hx hb dX12_splits_77 rfl (lv_at hl 4 rfl) ?_
          refine lv_icmp_ge (tgt := 100) hx hb dX12_splits_78 (by decide) (fun c3446 => ?_) (fun c3446 => ?_)
          · skip
            have k3447 := iv_le (X := x1.toInt) (Y := v3420.toInt) rfl rfl c3446
            have hrd : tk_rd (tB E) sz kk ee := ⟨by omega, by omega, hrun, by first | exact Or.inl (by omega) | exact Or.inr (by unfold tk_dg; omega)⟩
            have hct := tk_rd_ct hrd
            have hdr : tk_dg (tB E kk) → tk_rd (tB E) sz kk ee := fun _ => hrd
            refine lv_aload_n hx hb dX12_splits_100 rfl (lv_at hl 3 rfl) ?_
            refine gmA hx hb hts inT12 hown hK hI List.not_mem_nil hG0 14 (by decide) (hts _ (tb_c wd_1247)) rfl rfl dX12_splits_101 (fun a3448 hq3449 hf3450 => ?_)
            obtain rfl := fr.uniq (by decide) hf3443 hf3450
            refine lv_aload_n hx hb dX12_splits_104 rfl (lv_at hl 3 rfl) ?_
            refine gmI hx hb hts inT12 hown hK hI List.not_mem_nil hG0 15 (by decide) (hts _ (tb_c wd_1248)) rfl rfl dX12_splits_105 (fun w3451 hg3452 k3453 k3454 => ?_)
            obtain rfl := gf.uniq (by decide) hg3429 hg3452
            refine lv_iload_n hx hb dX12_splits_108 rfl (lv_at hl 2 rfl) ?_
            refine th_iast hx hb hK hA3445 0 rfl hS ⟨_, hq3444⟩ (iv_in (X := v3423.toInt) rfl (by omega) (by omega)) dX12_splits_109 (fun H locs hA3455 oq hS => ?_)
            have hP3456 := rgs_set (k := v3423.toNatClampNeg) (v := v3422) hPl (by omega) (by omega)
            have hI := th_I.put hI hq3444 hA3455 (ok_m6 hP3456) oq
            have hg3429 := gf.arr hG0 hq3444 (by decide) oq hg3429
            have hf3431 := fr.arr hG0 hq3444 (by decide) oq hf3431
            have hf3435 := fr.arr hG0 hq3444 (by decide) oq hf3435
            have hf3439 := fr.arr hG0 hq3444 (by decide) oq hf3439
            have hf3443 := fr.arr hG0 hq3444 (by decide) oq hf3443
            have hA3433 := va_at.kept hA3433 (oq _ (m_ne hq3432 hq3444 (by first | decide | (dsimp only; decide))))
            have hA3437 := va_at.kept hA3437 (oq _ (m_ne hq3436 hq3444 (by first | decide | (dsimp only; decide))))
            have hA3441 := va_at.kept hA3441 (oq _ (m_ne hq3440 hq3444 (by first | decide | (dsimp only; decide))))
            have e3457 : v3422 = (upd pl (v3423 : Int32).toNatClampNeg v3422) (v3423 : Int32).toNatClampNeg := rd_us
            refine lv_aload_n hx hb dX12_splits_110 rfl (lv_at hl 3 rfl) ?_
            refine gmA hx hb hts inT12 hown hK hI List.not_mem_nil hG0 13 (by decide) (hts _ (tb_c wd_1246)) rfl rfl dX12_splits_111 (fun a3458 hq3459 hf3460 => ?_)
            obtain rfl := fr.uniq (by decide) hf3439 hf3460
            refine lv_aload_n hx hb dX12_splits_114 rfl (lv_at hl 3 rfl) ?_
            refine gmI hx hb hts inT12 hown hK hI List.not_mem_nil hG0 15 (by decide) (hts _ (tb_c wd_1248)) rfl rfl dX12_splits_115 (fun w3461 hg3462 k3463 k3464 => ?_)
            obtain rfl := gf.uniq (by decide) hg3429 hg3462
            refine lv_iconst (v := 0) hx hb dX12_splits_118 (by decide) ?_
            refine th_iast hx hb hK hA3441 0 rfl hS ⟨_, hq3440⟩ (iv_in (X := v3423.toInt) rfl (by omega) (by omega)) dX12_splits_119 (fun H locs hA3465 oq hS => ?_)
            have hI := th_I.put hI hq3440 hA3465 ok_m0 oq
            have hg3429 := gf.arr hG0 hq3440 (by decide) oq hg3429
            have hf3431 := fr.arr hG0 hq3440 (by decide) oq hf3431
            have hf3435 := fr.arr hG0 hq3440 (by decide) oq hf3435
            have hf3439 := fr.arr hG0 hq3440 (by decide) oq hf3439
            have hf3443 := fr.arr hG0 hq3440 (by decide) oq hf3443
            have hA3433 := va_at.kept hA3433 (oq _ (m_ne hq3432 hq3440 (by first | decide | (dsimp only; decide))))
            have hA3437 := va_at.kept hA3437 (oq _ (m_ne hq3436 hq3440 (by first | decide | (dsimp only; decide))))
            have hA3455 := va_at.kept hA3455 (oq _ (m_ne hq3444 hq3440 (by first | decide | (dsimp only; decide))))
            have e3466 : 0 = (upd va (v3423 : Int32).toNatClampNeg 0) (v3423 : Int32).toNatClampNeg := rd_us
            refine lv_aload_n hx hb dX12_splits_120 rfl (lv_at hl 3 rfl) ?_
            refine gmA hx hb hts inT12 hown hK hI List.not_mem_nil hG0 12 (by decide) (hts _ (tb_c wd_1245)) rfl rfl dX12_splits_121 (fun a3467 hq3468 hf3469 => ?_)
            obtain rfl := fr.uniq (by decide) hf3435 hf3469
            refine lv_aload_n hx hb dX12_splits_124 rfl (lv_at hl 3 rfl) ?_
            refine gmI hx hb hts inT12 hown hK hI List.not_mem_nil hG0 15 (by decide) (hts _ (tb_c wd_1248)) rfl rfl dX12_splits_125 (fun w3470 hg3471 k3472 k3473 => ?_)
            obtain rfl := gf.uniq (by decide) hg3429 hg3471
            refine lv_iload_n hx hb dX12_splits_128 rfl (lv_at hl 1 rfl) ?_
            refine th_cSs (As := [.int v3421]) (rest := [.int v3423, .ref a3434]) (n := 1) (d := 1) ⟨hx, hb, hml, hown, hts⟩ (c_X12_isSmall l H v3421) wd_1572 wd_1573 wd_13 wd_1574 (by decide +kernel) ⟨by rw [hR]; exact Nat.le_of_ble_eq_true rfl, by rw [hR]; exact Nat.le_of_ble_eq_true rfl⟩ hN hS rfl hl.1 rfl (Nat.le_of_ble_eq_true rfl) dX12_splits_129 ⟨Nat.zero_le _, Nat.zero_le _⟩ (fun r3474 locs hp hS => ?_)
            rcases hp with ⟨rfl, hp⟩ | ⟨rfl, hp⟩
            · skip
              try simp only [rg, not_and, Int.not_le] at hp
              have hp3475 := hp
              exfalso; omega
            · skip
              try simp only [rg, not_and, Int.not_le] at hp
              have hp3476 := hp
              refine lv_if_eq (tgt := 145) hx hb dX12_splits_132 (by decide) (fun _ => ?_) (fun c => absurd c (by decide))
              refine lv_iload_n hx hb dX12_splits_145 rfl (lv_at hl 1 rfl) ?_
              refine th_cSs (As := [.int v3421]) (rest := [.int v3423, .ref a3434]) (n := 1) (d := 1) ⟨hx, hb, hml, hown, hts⟩ (c_X12_isDigit l H v3421) wd_1575 wd_1576 wd_13 wd_1577 (by decide +kernel) ⟨by rw [hR]; exact Nat.le_of_ble_eq_true rfl, by rw [hR]; exact Nat.le_of_ble_eq_true rfl⟩ hN hS rfl hl.1 rfl (Nat.le_of_ble_eq_true rfl) dX12_splits_146 ⟨Nat.zero_le _, Nat.zero_le _⟩ (fun r3477 locs hp hS => ?_)
              rcases hp with ⟨rfl, hp⟩ | ⟨rfl, hp⟩
              · skip
                try simp only [rg, not_and, Int.not_le] at hp
                have hp3478 := hp
                refine lv_if_eq (tgt := 157) hx hb dX12_splits_149 (by decide) (fun c => absurd c (by decide)) (fun _ => ?_)
                refine lv_bipush (v := 50) hx hb dX12_splits_152 (by decide) ?_
                refine lv_goto (tgt := 165) hx hb dX12_splits_154 (by decide) ?_
                have hzz : tk_z (tB E) sz kk (50 : Int32).toInt := Or.inr (Or.inl ⟨hrun kk (Nat.le_refl _) (by omega), by decide⟩)
                refine th_iast hx hb hK hA3437 0 rfl hS ⟨_, hq3436⟩ (iv_in (X := v3423.toInt) rfl (by omega) (by omega)) dX12_splits_165 (fun H locs hA3479 oq hS => ?_)
                have hI := th_I.put hI hq3436 hA3479 ok_m8 oq
                have hg3429 := gf.arr hG0 hq3436 (by decide) oq hg3429
                have hf3431 := fr.arr hG0 hq3436 (by decide) oq hf3431
                have hf3435 := fr.arr hG0 hq3436 (by decide) oq hf3435
                have hf3439 := fr.arr hG0 hq3436 (by decide) oq hf3439
                have hf3443 := fr.arr hG0 hq3436 (by decide) oq hf3443
                have hA3433 := va_at.kept hA3433 (oq _ (m_ne hq3432 hq3436 (by first | decide | (dsimp only; decide))))
                have hA3465 := va_at.kept hA3465 (oq _ (m_ne hq3440 hq3436 (by first | decide | (dsimp only; decide))))
                have hA3455 := va_at.kept hA3455 (oq _ (m_ne hq3444 hq3436 (by first | decide | (dsimp only; decide))))
                have e3480 : 50 = (upd cd (v3423 : Int32).toNatClampNeg 50) (v3423 : Int32).toNatClampNeg := rd_us
                refine lv_iload_n hx hb dX12_splits_166 rfl (lv_at hl 2 rfl) ?_
                refine lv_istore (lv' := [(5, .int v3422), (4, .int v3420), (3, .int v3421), (2, .int v3422), (0, .ref h0), (1, .int x1)]) hx hb dX12_splits_167 hl (by decide) rfl (fun ls hl => ?_)
                exact J_169 _ H locs ls v3422 v3420 v3421 v3422 v3423 kk tt ee kk (upd cd (v3423 : Int32).toNatClampNeg 50) (upd va (v3423 : Int32).toNatClampNeg 0) (upd pl (v3423 : Int32).toNatClampNeg v3422) rfl (lv_sub hl [0, 1, 2, 3, 4, 5] rfl) ⟨by omega, by omega⟩ ⟨by omega, by omega⟩ ⟨by omega, by omega⟩ ⟨by omega, by omega⟩ ⟨by omega, by omega⟩ hg3429 ⟨a3430, hf3431, hq3432, hA3433⟩ ⟨a3434, hf3435, hq3436, hA3479⟩ ⟨a3438, hf3439, hq3440, hA3465⟩ ⟨a3442, hf3443, hq3444, hA3455⟩ (by first | omega | (rw [show (0 : Int32).toInt = 0 from by decide]; omega)) (by first | omega | decide) (hP3456) (tk_I.upd hTI (fun j hj => ⟨by rw [up_ne (by omega) hj], by rw [up_ne (by omega) hj], by rw [YV_ne (by omega) hj]⟩)) (by omega) (by omega) (by omega) (⟨by omega, by omega⟩) (by omega) (hct) (by omega) (⟨by omega, by omega⟩) (by rw [up_at (by omega)]; omega) (by rw [up_at (by omega)]; exact hzz) (by rw [up_at (by omega), show (0 : Int32).toInt = 0 from by decide]; exact VI.ini hdr) hI hS
              · skip
                try simp only [rg, not_and, Int.not_le] at hp
                have hp3481 := hp
                exfalso; omega
          · skip
            have k3482 := iv_nle (X := x1.toInt) (Y := v3420.toInt) rfl rfl c3446
            refine lv_aload_n hx hb dX12_splits_81 rfl (lv_at hl 3 rfl) ?_
            refine gmA hx hb hts inT12 hown hK hI List.not_mem_nil hG0 8 (by decide) (hts _ (tb_c wd_1241)) rfl rfl dX12_splits_82 (fun a3483 hq3484 hf3485 => ?_)
            refine lv_iload hx hb dX12_splits_85 (lv_at hl 0 rfl) ?_
            obtain ⟨F3486, hA3487, hP3488⟩ := om_4 hI hq3484 List.not_mem_nil
            refine va_bald hx hb hK (th_one hA3487) 0 3 rfl rfl (iv_in (X := v3420.toInt) rfl (by omega) (by omega)) dX12_splits_87 ?_
            refine lv_topi (fun v3489 e3490 => ?_)
            have k3491 := tp_at hP3488 e3490 (p := ee) (by omega) (by omega)
            refine th_cSs (As := [.int v3489]) (rest := []) (n := 1) (d := 1) ⟨hx, hb, hml, hown, hts⟩ (c_X12_isDigit l H v3489) wd_1575 wd_1576 wd_13 wd_1577 (by decide +kernel) ⟨by rw [hR]; exact Nat.le_of_ble_eq_true rfl, by rw [hR]; exact Nat.le_of_ble_eq_true rfl⟩ hN hS rfl hl.1 rfl (Nat.le_of_ble_eq_true rfl) dX12_splits_88 ⟨Nat.zero_le _, Nat.zero_le _⟩ (fun r3492 locs hp hS => ?_)
            rcases hp with ⟨rfl, hp⟩ | ⟨rfl, hp⟩
            · skip
              try simp only [rg, not_and, Int.not_le] at hp
              have hp3493 := hp
              refine lv_if_eq (tgt := 100) hx hb dX12_splits_91 (by decide) (fun c => absurd c (by decide)) (fun _ => ?_)
              obtain ⟨v3494, e3495⟩ : ∃ y : Int32, y = v3420 + (1) := ⟨_, rfl⟩
              have tv3494 : v3494.toInt = v3420.toInt + (1) := iv_add rfl (by decide) e3495 (by omega) (by omega)
              refine lv_iinc (v := v3494) (lv' := [(4, .int v3494), (3, .int v3421), (2, .int v3422), (0, .ref h0), (1, .int x1)]) hx hb dX12_splits_94 hl (k := 0) rfl (by rw [e3495]; rfl) (by decide) rfl (fun ls hl => ?_)
              refine lv_goto (tgt := 75) hx hb dX12_splits_97 (by decide) ?_
              exact ih_75 _ (by omega) H locs ls v3494 v3421 v3422 v3423 kk tt (ee + 1) cd va pl rfl (lv_sub hl [0, 1, 2, 3, 4] rfl) ⟨by omega, by omega⟩ ⟨by omega, by omega⟩ ⟨by omega, by omega⟩ ⟨by omega, by omega⟩ ⟨by omega, by omega⟩ hg3429 ⟨a3430, hf3431, hq3432, hA3433⟩ ⟨a3434, hf3435, hq3436, hA3437⟩ ⟨a3438, hf3439, hq3440, hA3441⟩ ⟨a3442, hf3443, hq3444, hA3445⟩ (by first | omega | (rw [show (0 : Int32).toInt = 0 from by decide]; omega)) (by first | omega | decide) (hPl) (hTI) (by omega) (by omega) (by omega) (⟨by omega, by omega⟩) (by omega) (fun j h1 h2 => (Nat.lt_or_ge j ee).elim (fun q => hrun j h1 q) (fun q => by rw [show j = ee by omega]; unfold tk_dg; omega)) hI hS
            · skip
              try simp only [rg, not_and, Int.not_le] at hp
              have hp3496 := hp
              refine lv_if_eq (tgt := 100) hx hb dX12_splits_91 (by decide) (fun _ => ?_) (fun c => absurd c (by decide))
              have hrd : tk_rd (tB E) sz kk ee := ⟨by omega, by omega, hrun, by first | exact Or.inl (by omega) | exact Or.inr (by unfold tk_dg; omega)⟩
              have hct := tk_rd_ct hrd
              have hdr : tk_dg (tB E kk) → tk_rd (tB E) sz kk ee := fun _ => hrd
              refine lv_aload_n hx hb dX12_splits_100 rfl (lv_at hl 3 rfl) ?_
              refine gmA hx hb hts inT12 hown hK hI List.not_mem_nil hG0 14 (by decide) (hts _ (tb_c wd_1247)) rfl rfl dX12_splits_101 (fun a3497 hq3498 hf3499 => ?_)
              obtain rfl := fr.uniq (by decide) hf3443 hf3499
              refine lv_aload_n hx hb dX12_splits_104 rfl (lv_at hl 3 rfl) ?_
              refine gmI hx hb hts inT12 hown hK hI List.not_mem_nil hG0 15 (by decide) (hts _ (tb_c wd_1248)) rfl rfl dX12_splits_105 (fun w3500 hg3501 k3502 k3503 => ?_)
              obtain rfl := gf.uniq (by decide) hg3429 hg3501
              refine lv_iload_n hx hb dX12_splits_108 rfl (lv_at hl 2 rfl) ?_
              refine th_iast hx hb hK hA3445 0 rfl hS ⟨_, hq3444⟩ (iv_in (X := v3423.toInt) rfl (by omega) (by omega)) dX12_splits_109 (fun H locs hA3504 oq hS => ?_)
              have hP3505 := rgs_set (k := v3423.toNatClampNeg) (v := v3422) hPl (by omega) (by omega)
              have hI := th_I.put hI hq3444 hA3504 (ok_m6 hP3505) oq
              have hg3429 := gf.arr hG0 hq3444 (by decide) oq hg3429
              have hf3431 := fr.arr hG0 hq3444 (by decide) oq hf3431
              have hf3435 := fr.arr hG0 hq3444 (by decide) oq hf3435
              have hf3439 := fr.arr hG0 hq3444 (by decide) oq hf3439
              have hf3443 := fr.arr hG0 hq3444 (by decide) oq hf3443
              have hf3485 := fr.arr hG0 hq3444 (by decide) oq hf3485
              have hA3433 := va_at.kept hA3433 (oq _ (m_ne hq3432 hq3444 (by first | decide | (dsimp only; decide))))
              have hA3437 := va_at.kept hA3437 (oq _ (m_ne hq3436 hq3444 (by first | decide | (dsimp only; decide))))
              have hA3441 := va_at.kept hA3441 (oq _ (m_ne hq3440 hq3444 (by first | decide | (dsimp only; decide))))
              have hA3487 := va_at.kept hA3487 (oq _ (m_ne hq3484 hq3444 (by first | decide | (dsimp only; decide))))
              have e3506 : v3422 = (upd pl (v3423 : Int32).toNatClampNeg v3422) (v3423 : Int32).toNatClampNeg := rd_us
              refine lv_aload_n hx hb dX12_splits_110 rfl (lv_at hl 3 rfl) ?_
              refine gmA hx hb hts inT12 hown hK hI List.not_mem_nil hG0 13 (by decide) (hts _ (tb_c wd_1246)) rfl rfl dX12_splits_111 (fun a3507 hq3508 hf3509 => ?_)
              obtain rfl := fr.uniq (by decide) hf3439 hf3509
              refine lv_aload_n hx hb dX12_splits_114 rfl (lv_at hl 3 rfl) ?_
              refine gmI hx hb hts inT12 hown hK hI List.not_mem_nil hG0 15 (by decide) (hts _ (tb_c wd_1248)) rfl rfl dX12_splits_115 (fun w3510 hg3511 k3512 k3513 => ?_)
              obtain rfl := gf.uniq (by decide) hg3429 hg3511
              refine lv_iconst (v := 0) hx hb dX12_splits_118 (by decide) ?_
              refine th_iast hx hb hK hA3441 0 rfl hS ⟨_, hq3440⟩ (iv_in (X := v3423.toInt) rfl (by omega) (by omega)) dX12_splits_119 (fun H locs hA3514 oq hS => ?_)
              have hI := th_I.put hI hq3440 hA3514 ok_m0 oq
              have hg3429 := gf.arr hG0 hq3440 (by decide) oq hg3429
              have hf3431 := fr.arr hG0 hq3440 (by decide) oq hf3431
              have hf3435 := fr.arr hG0 hq3440 (by decide) oq hf3435
              have hf3439 := fr.arr hG0 hq3440 (by decide) oq hf3439
              have hf3443 := fr.arr hG0 hq3440 (by decide) oq hf3443
              have hf3485 := fr.arr hG0 hq3440 (by decide) oq hf3485
              have hA3433 := va_at.kept hA3433 (oq _ (m_ne hq3432 hq3440 (by first | decide | (dsimp only; decide))))
              have hA3437 := va_at.kept hA3437 (oq _ (m_ne hq3436 hq3440 (by first | decide | (dsimp only; decide))))
              have hA3504 := va_at.kept hA3504 (oq _ (m_ne hq3444 hq3440 (by first | decide | (dsimp only; decide))))
              have hA3487 := va_at.kept hA3487 (oq _ (m_ne hq3484 hq3440 (by first | decide | (dsimp only; decide))))
              have e3515 : 0 = (upd va (v3423 : Int32).toNatClampNeg 0) (v3423 : Int32).toNatClampNeg := rd_us
              refine lv_aload_n hx hb dX12_splits_120 rfl (lv_at hl 3 rfl) ?_
              refine gmA hx hb hts inT12 hown hK hI List.not_mem_nil hG0 12 (by decide) (hts _ (tb_c wd_1245)) rfl rfl dX12_splits_121 (fun a3516 hq3517 hf3518 => ?_)
              obtain rfl := fr.uniq (by decide) hf3435 hf3518
              refine lv_aload_n hx hb dX12_splits_124 rfl (lv_at hl 3 rfl) ?_
              refine gmI hx hb hts inT12 hown hK hI List.not_mem_nil hG0 15 (by decide) (hts _ (tb_c wd_1248)) rfl rfl dX12_splits_125 (fun w3519 hg3520 k3521 k3522 => ?_)
              obtain rfl := gf.uniq (by decide) hg3429 hg3520
              refine lv_iload_n hx hb dX12_splits_128 rfl (lv_at hl 1 rfl) ?_
              refine th_cSs (As := [.int v3421]) (rest := [.int v3423, .ref a3434]) (n := 1) (d := 1) ⟨hx, hb, hml, hown, hts⟩ (c_X12_isSmall l H v3421) wd_1572 wd_1573 wd_13 wd_1574 (by decide +kernel) ⟨by rw [hR]; exact Nat.le_of_ble_eq_true rfl, by rw [hR]; exact Nat.le_of_ble_eq_true rfl⟩ hN hS rfl hl.1 rfl (Nat.le_of_ble_eq_true rfl) dX12_splits_129 ⟨Nat.zero_le _, Nat.zero_le _⟩ (fun r3523 locs hp hS => ?_)
              rcases hp with ⟨rfl, hp⟩ | ⟨rfl, hp⟩
              · skip
                try simp only [rg, not_and, Int.not_le] at hp
                have hp3524 := hp
                exfalso; omega
              · skip
                try simp only [rg, not_and, Int.not_le] at hp
                have hp3525 := hp
                refine lv_if_eq (tgt := 145) hx hb dX12_splits_132 (by decide) (fun _ => ?_) (fun c => absurd c (by decide))
                refine lv_iload_n hx hb dX12_splits_145 rfl (lv_at hl 1 rfl) ?_
                refine th_cSs (As := [.int v3421]) (rest := [.int v3423, .ref a3434]) (n := 1) (d := 1) ⟨hx, hb, hml, hown, hts⟩ (c_X12_isDigit l H v3421) wd_1575 wd_1576 wd_13 wd_1577 (by decide +kernel) ⟨by rw [hR]; exact Nat.le_of_ble_eq_true rfl, by rw [hR]; exact Nat.le_of_ble_eq_true rfl⟩ hN hS rfl hl.1 rfl (Nat.le_of_ble_eq_true rfl) dX12_splits_146 ⟨Nat.zero_le _, Nat.zero_le _⟩ (fun r3526 locs hp hS => ?_)
                rcases hp with ⟨rfl, hp⟩ | ⟨rfl, hp⟩
                · skip
                  try simp only [rg, not_and, Int.not_le] at hp
                  have hp3527 := hp
                  refine lv_if_eq (tgt := 157) hx hb dX12_splits_149 (by decide) (fun c => absurd c (by decide)) (fun _ => ?_)
                  refine lv_bipush (v := 50) hx hb dX12_splits_152 (by decide) ?_
                  refine lv_goto (tgt := 165) hx hb dX12_splits_154 (by decide) ?_
                  have hzz : tk_z (tB E) sz kk (50 : Int32).toInt := Or.inr (Or.inl ⟨hrun kk (Nat.le_refl _) (by omega), by decide⟩)
                  refine th_iast hx hb hK hA3437 0 rfl hS ⟨_, hq3436⟩ (iv_in (X := v3423.toInt) rfl (by omega) (by omega)) dX12_splits_165 (fun H locs hA3528 oq hS => ?_)
                  have hI := th_I.put hI hq3436 hA3528 ok_m8 oq
                  have hg3429 := gf.arr hG0 hq3436 (by decide) oq hg3429
                  have hf3431 := fr.arr hG0 hq3436 (by decide) oq hf3431
                  have hf3435 := fr.arr hG0 hq3436 (by decide) oq hf3435
                  have hf3439 := fr.arr hG0 hq3436 (by decide) oq hf3439
                  have hf3443 := fr.arr hG0 hq3436 (by decide) oq hf3443
                  have hf3485 := fr.arr hG0 hq3436 (by decide) oq hf3485
                  have hA3433 := va_at.kept hA3433 (oq _ (m_ne hq3432 hq3436 (by first | decide | (dsimp only; decide))))
                  have hA3514 := va_at.kept hA3514 (oq _ (m_ne hq3440 hq3436 (by first | decide | (dsimp only; decide))))
                  have hA3504 := va_at.kept hA3504 (oq _ (m_ne hq3444 hq3436 (by first | decide | (dsimp only; decide))))
                  have hA3487 := va_at.kept hA3487 (oq _ (m_ne hq3484 hq3436 (by first | decide | (dsimp only; decide))))
                  have e3529 : 50 = (upd cd (v3423 : Int32).toNatClampNeg 50) (v3423 : Int32).toNatClampNeg := rd_us
                  refine lv_iload_n hx hb dX12_splits_166 rfl (lv_at hl 2 rfl) ?_
                  refine lv_istore (lv' := [(5, .int v3422), (4, .int v3420), (3, .int v3421), (2, .int v3422), (0, .ref h0), (1, .int x1)]) hx hb dX12_splits_167 hl (by decide) rfl (fun ls hl => ?_)
                  exact J_169 _ H locs ls v3422 v3420 v3421 v3422 v3423 kk tt ee kk (upd cd (v3423 : Int32).toNatClampNeg 50) (upd va (v3423 : Int32).toNatClampNeg 0) (upd pl (v3423 : Int32).toNatClampNeg v3422) rfl (lv_sub hl [0, 1, 2, 3, 4, 5] rfl) ⟨by omega, by omega⟩ ⟨by omega, by omega⟩ ⟨by omega, by omega⟩ ⟨by omega, by omega⟩ ⟨by omega, by omega⟩ hg3429 ⟨a3430, hf3431, hq3432, hA3433⟩ ⟨a3434, hf3435, hq3436, hA3528⟩ ⟨a3438, hf3439, hq3440, hA3514⟩ ⟨a3442, hf3443, hq3444, hA3504⟩ (by first | omega | (rw [show (0 : Int32).toInt = 0 from by decide]; omega)) (by first | omega | decide) (hP3505) (tk_I.upd hTI (fun j hj => ⟨by rw [up_ne (by omega) hj], by rw [up_ne (by omega) hj], by rw [YV_ne (by omega) hj]⟩)) (by omega) (by omega) (by omega) (⟨by omega, by omega⟩) (by omega) (hct) (by omega) (⟨by omega, by omega⟩) (by rw [up_at (by omega)]; omega) (by rw [up_at (by omega)]; exact hzz) (by rw [up_at (by omega), show (0 : Int32).toInt = 0 from by decide]; exact VI.ini hdr) hI hS
                · skip
                  try simp only [rg, not_and, Int.not_le] at hp
                  have hp3530 := hp
                  exfalso; omega
      have J_43 : ∀ (nn : Nat) (H : Heap) (locs : List Loc) (ls : Array Slot) (v3531 : Int32) (v3532 : Int32) (v3533 : Int32) (v3534 : Int32) (kk : Nat) (tt : Nat) (ee : Nat) (cd : Nat → Int32) (va : Nat → Int32) (pl : Nat → Int32), (Int.toNat (x1.toInt - v3531.toInt) = nn) → lv_has ls 6 [(4, .int v3531), (3, .int v3532), (2, .int v3533), (0, .ref h0), (1, .int x1)] → ((1 : Int) ≤ v3531.toInt ∧ v3531.toInt ≤ 400) → ((97 : Int) ≤ v3532.toInt ∧ v3532.toInt ≤ 122) → ((0 : Int) ≤ v3533.toInt ∧ v3533.toInt ≤ 399) → ((1 : Int) ≤ x1.toInt ∧ x1.toInt ≤ 400) → ((0 : Int) ≤ v3534.toInt ∧ v3534.toInt ≤ 399) → gf D h0 15 v3534 H → ga E D G h0 3 (1, 5123) ff H → ga E D G h0 12 (8, 401) cd H → ga E D G h0 13 (0, 401) va H → ga E D G h0 14 (6, 401) pl H → (v3533.toInt = (kk : Int)) → (v3534.toInt = (tt : Int)) → (∀ j : Nat, j < 401 → 0 ≤ (pl j).toInt ∧ (pl j).toInt ≤ 400) → (TI_ E sz pl cd va kk tt) → ((v3532.toInt = (tB E kk : Int) ∧ tB E kk < 128) ∨ (v3532.toInt = (tB E kk : Int) - 256 ∧ 128 ≤ tB E kk ∧ tB E kk ≤ 255)) → (tB E kk ≠ 32) → (v3531.toInt = (ee : Int)) → (kk < ee ∧ ee ≤ sz) → (v3290.toInt ≤ (kk : Int)) → (∀ j : Nat, kk ≤ j → j < ee → tk_lt (tB E j)) → th_I (okM E) D G [] H → va_S (th_A G) s.heap H locs → W p l e R s m args below meth c H locs 0 0 QF (F0 m 43 ls []) := by
        intro nn
        induction nn using Nat.strongRecOn with
        | ind nn ih_43 =>
          intro H locs ls v3531 v3532 v3533 v3534 kk tt ee cd va pl hm hl k3535 k3536 k3537 k3538 k3539 hg3540 hga_3 hga_12 hga_13 hga_14 hk2 ht15 hPl hTI hb3 hb32 hk4 hke hk7 hrun hI hS
          obtain ⟨a3541, hf3542, hq3543, hA3544⟩ := hga_3
          obtain ⟨a3545, hf3546, hq3547, hA3548⟩ := hga_12
          obtain ⟨a3549, hf3550, hq3551, hA3552⟩ := hga_13
          obtain ⟨a3553, hf3554, hq3555, hA3556⟩ := hga_14
          have hle := tk_I.le hTI
          refine lv_iload hx hb dX12_splits_43 (lv_at hl 0 rfl) ?_
          refine lv_iload_n hx hb dX12_splits_45 rfl (lv_at hl 4 rfl) ?_
          refine lv_icmp_ge (tgt := 68) hx hb dX12_splits_46 (by decide) (fun c3557 => ?_) (fun c3557 => ?_)
          · skip
            have k3558 := iv_le (X := x1.toInt) (Y := v3531.toInt) rfl rfl c3557
            refine lv_iload_n hx hb dX12_splits_68 rfl (lv_at hl 1 rfl) ?_
            refine th_cSs (As := [.int v3532]) (rest := []) (n := 1) (d := 1) ⟨hx, hb, hml, hown, hts⟩ (c_X12_isDigit l H v3532) wd_1575 wd_1576 wd_13 wd_1577 (by decide +kernel) ⟨by rw [hR]; exact Nat.le_of_ble_eq_true rfl, by rw [hR]; exact Nat.le_of_ble_eq_true rfl⟩ hN hS rfl hl.1 rfl (Nat.le_of_ble_eq_true rfl) dX12_splits_69 ⟨Nat.zero_le _, Nat.zero_le _⟩ (fun r3559 locs hp hS => ?_)
            rcases hp with ⟨rfl, hp⟩ | ⟨rfl, hp⟩
            · skip
              try simp only [rg, not_and, Int.not_le] at hp
              have hp3560 := hp
              exfalso; omega
            · skip
              try simp only [rg, not_and, Int.not_le] at hp
              have hp3561 := hp
              refine lv_if_eq (tgt := 100) hx hb dX12_splits_72 (by decide) (fun _ => ?_) (fun c => absurd c (by decide))
              have hrl : tk_rl (tB E) sz kk ee := ⟨by omega, by omega, hrun, by first | exact Or.inl (by omega) | exact Or.inr (by unfold tk_lt; omega)⟩
              have hct := tk_rl_ct hrl
              have hdr : tk_dg (tB E kk) → tk_rd (tB E) sz kk ee := fun z => by have := hrun kk (Nat.le_refl _) (by omega); unfold tk_lt at this; unfold tk_dg at z; omega
              refine lv_aload_n hx hb dX12_splits_100 rfl (lv_at hl 3 rfl) ?_
              refine gmA hx hb hts inT12 hown hK hI List.not_mem_nil hG0 14 (by decide) (hts _ (tb_c wd_1247)) rfl rfl dX12_splits_101 (fun a3562 hq3563 hf3564 => ?_)
              obtain rfl := fr.uniq (by decide) hf3554 hf3564
              refine lv_aload_n hx hb dX12_splits_104 rfl (lv_at hl 3 rfl) ?_
              refine gmI hx hb hts inT12 hown hK hI List.not_mem_nil hG0 15 (by decide) (hts _ (tb_c wd_1248)) rfl rfl dX12_splits_105 (fun w3565 hg3566 k3567 k3568 => ?_)
              obtain rfl := gf.uniq (by decide) hg3540 hg3566
              refine lv_iload_n hx hb dX12_splits_108 rfl (lv_at hl 2 rfl) ?_
              refine th_iast hx hb hK hA3556 0 rfl hS ⟨_, hq3555⟩ (iv_in (X := v3534.toInt) rfl (by omega) (by omega)) dX12_splits_109 (fun H locs hA3569 oq hS => ?_)
              have hP3570 := rgs_set (k := v3534.toNatClampNeg) (v := v3533) hPl (by omega) (by omega)
              have hI := th_I.put hI hq3555 hA3569 (ok_m6 hP3570) oq
              have hg3540 := gf.arr hG0 hq3555 (by decide) oq hg3540
              have hf3542 := fr.arr hG0 hq3555 (by decide) oq hf3542
              have hf3546 := fr.arr hG0 hq3555 (by decide) oq hf3546
              have hf3550 := fr.arr hG0 hq3555 (by decide) oq hf3550
              have hf3554 := fr.arr hG0 hq3555 (by decide) oq hf3554
              have hA3544 := va_at.kept hA3544 (oq _ (m_ne hq3543 hq3555 (by first | decide | (dsimp only; decide))))
              have hA3548 := va_at.kept hA3548 (oq _ (m_ne hq3547 hq3555 (by first | decide | (dsimp only; decide))))
              have hA3552 := va_at.kept hA3552 (oq _ (m_ne hq3551 hq3555 (by first | decide | (dsimp only; decide))))
              have e3571 : v3533 = (upd pl (v3534 : Int32).toNatClampNeg v3533) (v3534 : Int32).toNatClampNeg := rd_us
              refine lv_aload_n hx hb dX12_splits_110 rfl (lv_at hl 3 rfl) ?_
              refine gmA hx hb hts inT12 hown hK hI List.not_mem_nil hG0 13 (by decide) (hts _ (tb_c wd_1246)) rfl rfl dX12_splits_111 (fun a3572 hq3573 hf3574 => ?_)
              obtain rfl := fr.uniq (by decide) hf3550 hf3574
              refine lv_aload_n hx hb dX12_splits_114 rfl (lv_at hl 3 rfl) ?_
              refine gmI hx hb hts inT12 hown hK hI List.not_mem_nil hG0 15 (by decide) (hts _ (tb_c wd_1248)) rfl rfl dX12_splits_115 (fun w3575 hg3576 k3577 k3578 => ?_)
              obtain rfl := gf.uniq (by decide) hg3540 hg3576
              refine lv_iconst (v := 0) hx hb dX12_splits_118 (by decide) ?_
              refine th_iast hx hb hK hA3552 0 rfl hS ⟨_, hq3551⟩ (iv_in (X := v3534.toInt) rfl (by omega) (by omega)) dX12_splits_119 (fun H locs hA3579 oq hS => ?_)
              have hI := th_I.put hI hq3551 hA3579 ok_m0 oq
              have hg3540 := gf.arr hG0 hq3551 (by decide) oq hg3540
              have hf3542 := fr.arr hG0 hq3551 (by decide) oq hf3542
              have hf3546 := fr.arr hG0 hq3551 (by decide) oq hf3546
              have hf3550 := fr.arr hG0 hq3551 (by decide) oq hf3550
              have hf3554 := fr.arr hG0 hq3551 (by decide) oq hf3554
              have hA3544 := va_at.kept hA3544 (oq _ (m_ne hq3543 hq3551 (by first | decide | (dsimp only; decide))))
              have hA3548 := va_at.kept hA3548 (oq _ (m_ne hq3547 hq3551 (by first | decide | (dsimp only; decide))))
              have hA3569 := va_at.kept hA3569 (oq _ (m_ne hq3555 hq3551 (by first | decide | (dsimp only; decide))))
              have e3580 : 0 = (upd va (v3534 : Int32).toNatClampNeg 0) (v3534 : Int32).toNatClampNeg := rd_us
              refine lv_aload_n hx hb dX12_splits_120 rfl (lv_at hl 3 rfl) ?_
              refine gmA hx hb hts inT12 hown hK hI List.not_mem_nil hG0 12 (by decide) (hts _ (tb_c wd_1245)) rfl rfl dX12_splits_121 (fun a3581 hq3582 hf3583 => ?_)
              obtain rfl := fr.uniq (by decide) hf3546 hf3583
              refine lv_aload_n hx hb dX12_splits_124 rfl (lv_at hl 3 rfl) ?_
              refine gmI hx hb hts inT12 hown hK hI List.not_mem_nil hG0 15 (by decide) (hts _ (tb_c wd_1248)) rfl rfl dX12_splits_125 (fun w3584 hg3585 k3586 k3587 => ?_)
              obtain rfl := gf.uniq (by decide) hg3540 hg3585
              refine lv_iload_n hx hb dX12_splits_128 rfl (lv_at hl 1 rfl) ?_
              refine th_cSs (As := [.int v3532]) (rest := [.int v3534, .ref a3545]) (n := 1) (d := 1) ⟨hx, hb, hml, hown, hts⟩ (c_X12_isSmall l H v3532) wd_1572 wd_1573 wd_13 wd_1574 (by decide +kernel) ⟨by rw [hR]; exact Nat.le_of_ble_eq_true rfl, by rw [hR]; exact Nat.le_of_ble_eq_true rfl⟩ hN hS rfl hl.1 rfl (Nat.le_of_ble_eq_true rfl) dX12_splits_129 ⟨Nat.zero_le _, Nat.zero_le _⟩ (fun r3588 locs hp hS => ?_)
              rcases hp with ⟨rfl, hp⟩ | ⟨rfl, hp⟩
              · skip
                try simp only [rg, not_and, Int.not_le] at hp
                have hp3589 := hp
                refine lv_if_eq (tgt := 145) hx hb dX12_splits_132 (by decide) (fun c => absurd c (by decide)) (fun _ => ?_)
                refine lv_aload_n hx hb dX12_splits_135 rfl (lv_at hl 3 rfl) ?_
                refine lv_iload_n hx hb dX12_splits_136 rfl (lv_at hl 2 rfl) ?_
                refine lv_iload hx hb dX12_splits_137 (lv_at hl 0 rfl) ?_
                refine mr_i (As := [.int v3533, .int v3531]) (rest := [.int v3534, .ref a3545]) (n := 2) (d := 0) ⟨hx, hb, hml, hown, hts⟩ (c_X12_wordOf l E D G H h0 hG0 v3533 v3531 ⟨by omega, by omega⟩ ⟨by omega, by omega⟩ kk ee (by omega) (by omega) (by omega)) wd_1578 wd_1580 wp_64 wd_13 wd_1581 (by decide +kernel) ⟨by rw [hR]; exact Nat.le_of_ble_eq_true rfl, by rw [hR]; exact Nat.le_of_ble_eq_true rfl⟩ hI hN hK hS hG0 rfl hl.1 rfl (Nat.le_of_ble_eq_true rfl) dX12_splits_139 ⟨Nat.zero_le _, Nat.zero_le _⟩ (fun r3590 locs hp hS => ?_)
                obtain ⟨w3591, hw3592, hw3593⟩ := hp
                refine lv_goto (tgt := 165) hx hb dX12_splits_142 (by decide) ?_
                have hzz : tk_z (tB E) sz kk (r3590).toInt := by rw [hw3592]; exact tk_z_lt hrl hw3593
                refine th_iast hx hb hK hA3548 0 rfl hS ⟨_, hq3547⟩ (iv_in (X := v3534.toInt) rfl (by omega) (by omega)) dX12_splits_165 (fun H locs hA3594 oq hS => ?_)
                have hI := th_I.put hI hq3547 hA3594 ok_m8 oq
                have hg3540 := gf.arr hG0 hq3547 (by decide) oq hg3540
                have hf3542 := fr.arr hG0 hq3547 (by decide) oq hf3542
                have hf3546 := fr.arr hG0 hq3547 (by decide) oq hf3546
                have hf3550 := fr.arr hG0 hq3547 (by decide) oq hf3550
                have hf3554 := fr.arr hG0 hq3547 (by decide) oq hf3554
                have hA3544 := va_at.kept hA3544 (oq _ (m_ne hq3543 hq3547 (by first | decide | (dsimp only; decide))))
                have hA3579 := va_at.kept hA3579 (oq _ (m_ne hq3551 hq3547 (by first | decide | (dsimp only; decide))))
                have hA3569 := va_at.kept hA3569 (oq _ (m_ne hq3555 hq3547 (by first | decide | (dsimp only; decide))))
                have e3595 : r3590 = (upd cd (v3534 : Int32).toNatClampNeg r3590) (v3534 : Int32).toNatClampNeg := rd_us
                refine lv_iload_n hx hb dX12_splits_166 rfl (lv_at hl 2 rfl) ?_
                refine lv_istore (lv' := [(5, .int v3533), (4, .int v3531), (3, .int v3532), (2, .int v3533), (0, .ref h0), (1, .int x1)]) hx hb dX12_splits_167 hl (by decide) rfl (fun ls hl => ?_)
                exact J_169 _ H locs ls v3533 v3531 v3532 v3533 v3534 kk tt ee kk (upd cd (v3534 : Int32).toNatClampNeg r3590) (upd va (v3534 : Int32).toNatClampNeg 0) (upd pl (v3534 : Int32).toNatClampNeg v3533) rfl (lv_sub hl [0, 1, 2, 3, 4, 5] rfl) ⟨by omega, by omega⟩ ⟨by omega, by omega⟩ ⟨by omega, by omega⟩ ⟨by omega, by omega⟩ ⟨by omega, by omega⟩ hg3540 ⟨a3541, hf3542, hq3543, hA3544⟩ ⟨a3545, hf3546, hq3547, hA3594⟩ ⟨a3549, hf3550, hq3551, hA3579⟩ ⟨a3553, hf3554, hq3555, hA3569⟩ (by first | omega | (rw [show (0 : Int32).toInt = 0 from by decide]; omega)) (by first | omega | decide) (hP3570) (tk_I.upd hTI (fun j hj => ⟨by rw [up_ne (by omega) hj], by rw [up_ne (by omega) hj], by rw [YV_ne (by omega) hj]⟩)) (by omega) (by omega) (by omega) (⟨by omega, by omega⟩) (by omega) (hct) (by omega) (⟨by omega, by omega⟩) (by rw [up_at (by omega)]; omega) (by rw [up_at (by omega)]; exact hzz) (by rw [up_at (by omega), show (0 : Int32).toInt = 0 from by decide]; exact VI.ini hdr) hI hS
              · skip
                try simp only [rg, not_and, Int.not_le] at hp
                have hp3596 := hp
                exfalso; omega
          · skip
            have k3597 := iv_nle (X := x1.toInt) (Y := v3531.toInt) rfl rfl c3557
            refine lv_aload_n hx hb dX12_splits_49 rfl (lv_at hl 3 rfl) ?_
            refine gmA hx hb hts inT12 hown hK hI List.not_mem_nil hG0 8 (by decide) (hts _ (tb_c wd_1241)) rfl rfl dX12_splits_50 (fun a3598 hq3599 hf3600 => ?_)
            refine lv_iload hx hb dX12_splits_53 (lv_at hl 0 rfl) ?_
            obtain ⟨F3601, hA3602, hP3603⟩ := om_4 hI hq3599 List.not_mem_nil
            refine va_bald hx hb hK (th_one hA3602) 0 3 rfl rfl (iv_in (X := v3531.toInt) rfl (by omega) (by omega)) dX12_splits_55 ?_
            refine lv_topi (fun v3604 e3605 => ?_)
            have k3606 := tp_at hP3603 e3605 (p := ee) (by omega) (by omega)
            refine th_cSs (As := [.int v3604]) (rest := []) (n := 1) (d := 1) ⟨hx, hb, hml, hown, hts⟩ (c_X12_isSmall l H v3604) wd_1572 wd_1573 wd_13 wd_1574 (by decide +kernel) ⟨by rw [hR]; exact Nat.le_of_ble_eq_true rfl, by rw [hR]; exact Nat.le_of_ble_eq_true rfl⟩ hN hS rfl hl.1 rfl (Nat.le_of_ble_eq_true rfl) dX12_splits_56 ⟨Nat.zero_le _, Nat.zero_le _⟩ (fun r3607 locs hp hS => ?_)
            rcases hp with ⟨rfl, hp⟩ | ⟨rfl, hp⟩
            · skip
              try simp only [rg, not_and, Int.not_le] at hp
              have hp3608 := hp
              refine lv_if_eq (tgt := 68) hx hb dX12_splits_59 (by decide) (fun c => absurd c (by decide)) (fun _ => ?_)
              obtain ⟨v3609, e3610⟩ : ∃ y : Int32, y = v3531 + (1) := ⟨_, rfl⟩
              have tv3609 : v3609.toInt = v3531.toInt + (1) := iv_add rfl (by decide) e3610 (by omega) (by omega)
              refine lv_iinc (v := v3609) (lv' := [(4, .int v3609), (3, .int v3532), (2, .int v3533), (0, .ref h0), (1, .int x1)]) hx hb dX12_splits_62 hl (k := 0) rfl (by rw [e3610]; rfl) (by decide) rfl (fun ls hl => ?_)
              refine lv_goto (tgt := 43) hx hb dX12_splits_65 (by decide) ?_
              exact ih_43 _ (by omega) H locs ls v3609 v3532 v3533 v3534 kk tt (ee + 1) cd va pl rfl (lv_sub hl [0, 1, 2, 3, 4] rfl) ⟨by omega, by omega⟩ ⟨by omega, by omega⟩ ⟨by omega, by omega⟩ ⟨by omega, by omega⟩ ⟨by omega, by omega⟩ hg3540 ⟨a3541, hf3542, hq3543, hA3544⟩ ⟨a3545, hf3546, hq3547, hA3548⟩ ⟨a3549, hf3550, hq3551, hA3552⟩ ⟨a3553, hf3554, hq3555, hA3556⟩ (by first | omega | (rw [show (0 : Int32).toInt = 0 from by decide]; omega)) (by first | omega | decide) (hPl) (hTI) (by omega) (by omega) (by omega) (⟨by omega, by omega⟩) (by omega) (fun j h1 h2 => (Nat.lt_or_ge j ee).elim (fun q => hrun j h1 q) (fun q => by rw [show j = ee by omega]; unfold tk_lt; omega)) hI hS
            · skip
              try simp only [rg, not_and, Int.not_le] at hp
              have hp3611 := hp
              refine lv_if_eq (tgt := 68) hx hb dX12_splits_59 (by decide) (fun _ => ?_) (fun c => absurd c (by decide))
              refine lv_iload_n hx hb dX12_splits_68 rfl (lv_at hl 1 rfl) ?_
              refine th_cSs (As := [.int v3532]) (rest := []) (n := 1) (d := 1) ⟨hx, hb, hml, hown, hts⟩ (c_X12_isDigit l H v3532) wd_1575 wd_1576 wd_13 wd_1577 (by decide +kernel) ⟨by rw [hR]; exact Nat.le_of_ble_eq_true rfl, by rw [hR]; exact Nat.le_of_ble_eq_true rfl⟩ hN hS rfl hl.1 rfl (Nat.le_of_ble_eq_true rfl) dX12_splits_69 ⟨Nat.zero_le _, Nat.zero_le _⟩ (fun r3612 locs hp hS => ?_)
              rcases hp with ⟨rfl, hp⟩ | ⟨rfl, hp⟩
              · skip
                try simp only [rg, not_and, Int.not_le] at hp
                have hp3613 := hp
                exfalso; omega
              · skip
                try simp only [rg, not_and, Int.not_le] at hp
                have hp3614 := hp
                refine lv_if_eq (tgt := 100) hx hb dX12_splits_72 (by decide) (fun _ => ?_) (fun c => absurd c (by decide))
                have hrl : tk_rl (tB E) sz kk ee := ⟨by omega, by omega, hrun, by first | exact Or.inl (by omega) | exact Or.inr (by unfold tk_lt; omega)⟩
                have hct := tk_rl_ct hrl
                have hdr : tk_dg (tB E kk) → tk_rd (tB E) sz kk ee := fun z => by have := hrun kk (Nat.le_refl _) (by omega); unfold tk_lt at this; unfold tk_dg at z; omega
                refine lv_aload_n hx hb dX12_splits_100 rfl (lv_at hl 3 rfl) ?_
                refine gmA hx hb hts inT12 hown hK hI List.not_mem_nil hG0 14 (by decide) (hts _ (tb_c wd_1247)) rfl rfl dX12_splits_101 (fun a3615 hq3616 hf3617 => ?_)
                obtain rfl := fr.uniq (by decide) hf3554 hf3617
                refine lv_aload_n hx hb dX12_splits_104 rfl (lv_at hl 3 rfl) ?_
                refine gmI hx hb hts inT12 hown hK hI List.not_mem_nil hG0 15 (by decide) (hts _ (tb_c wd_1248)) rfl rfl dX12_splits_105 (fun w3618 hg3619 k3620 k3621 => ?_)
                obtain rfl := gf.uniq (by decide) hg3540 hg3619
                refine lv_iload_n hx hb dX12_splits_108 rfl (lv_at hl 2 rfl) ?_
                refine th_iast hx hb hK hA3556 0 rfl hS ⟨_, hq3555⟩ (iv_in (X := v3534.toInt) rfl (by omega) (by omega)) dX12_splits_109 (fun H locs hA3622 oq hS => ?_)
                have hP3623 := rgs_set (k := v3534.toNatClampNeg) (v := v3533) hPl (by omega) (by omega)
                have hI := th_I.put hI hq3555 hA3622 (ok_m6 hP3623) oq
                have hg3540 := gf.arr hG0 hq3555 (by decide) oq hg3540
                have hf3542 := fr.arr hG0 hq3555 (by decide) oq hf3542
                have hf3546 := fr.arr hG0 hq3555 (by decide) oq hf3546
                have hf3550 := fr.arr hG0 hq3555 (by decide) oq hf3550
                have hf3554 := fr.arr hG0 hq3555 (by decide) oq hf3554
                have hf3600 := fr.arr hG0 hq3555 (by decide) oq hf3600
                have hA3544 := va_at.kept hA3544 (oq _ (m_ne hq3543 hq3555 (by first | decide | (dsimp only; decide))))
                have hA3548 := va_at.kept hA3548 (oq _ (m_ne hq3547 hq3555 (by first | decide | (dsimp only; decide))))
                have hA3552 := va_at.kept hA3552 (oq _ (m_ne hq3551 hq3555 (by first | decide | (dsimp only; decide))))
                have hA3602 := va_at.kept hA3602 (oq _ (m_ne hq3599 hq3555 (by first | decide | (dsimp only; decide))))
                have e3624 : v3533 = (upd pl (v3534 : Int32).toNatClampNeg v3533) (v3534 : Int32).toNatClampNeg := rd_us
                refine lv_aload_n hx hb dX12_splits_110 rfl (lv_at hl 3 rfl) ?_
                refine gmA hx hb hts inT12 hown hK hI List.not_mem_nil hG0 13 (by decide) (hts _ (tb_c wd_1246)) rfl rfl dX12_splits_111 (fun a3625 hq3626 hf3627 => ?_)
                obtain rfl := fr.uniq (by decide) hf3550 hf3627
                refine lv_aload_n hx hb dX12_splits_114 rfl (lv_at hl 3 rfl) ?_
                refine gmI hx hb hts inT12 hown hK hI List.not_mem_nil hG0 15 (by decide) (hts _ (tb_c wd_1248)) rfl rfl dX12_splits_115 (fun w3628 hg3629 k3630 k3631 => ?_)
                obtain rfl := gf.uniq (by decide) hg3540 hg3629
                refine lv_iconst (v := 0) hx hb dX12_splits_118 (by decide) ?_
                refine th_iast hx hb hK hA3552 0 rfl hS ⟨_, hq3551⟩ (iv_in (X := v3534.toInt) rfl (by omega) (by omega)) dX12_splits_119 (fun H locs hA3632 oq hS => ?_)
                have hI := th_I.put hI hq3551 hA3632 ok_m0 oq
                have hg3540 := gf.arr hG0 hq3551 (by decide) oq hg3540
                have hf3542 := fr.arr hG0 hq3551 (by decide) oq hf3542
                have hf3546 := fr.arr hG0 hq3551 (by decide) oq hf3546
                have hf3550 := fr.arr hG0 hq3551 (by decide) oq hf3550
                have hf3554 := fr.arr hG0 hq3551 (by decide) oq hf3554
                have hf3600 := fr.arr hG0 hq3551 (by decide) oq hf3600
                have hA3544 := va_at.kept hA3544 (oq _ (m_ne hq3543 hq3551 (by first | decide | (dsimp only; decide))))
                have hA3548 := va_at.kept hA3548 (oq _ (m_ne hq3547 hq3551 (by first | decide | (dsimp only; decide))))
                have hA3622 := va_at.kept hA3622 (oq _ (m_ne hq3555 hq3551 (by first | decide | (dsimp only; decide))))
                have hA3602 := va_at.kept hA3602 (oq _ (m_ne hq3599 hq3551 (by first | decide | (dsimp only; decide))))
                have e3633 : 0 = (upd va (v3534 : Int32).toNatClampNeg 0) (v3534 : Int32).toNatClampNeg := rd_us
                refine lv_aload_n hx hb dX12_splits_120 rfl (lv_at hl 3 rfl) ?_
                refine gmA hx hb hts inT12 hown hK hI List.not_mem_nil hG0 12 (by decide) (hts _ (tb_c wd_1245)) rfl rfl dX12_splits_121 (fun a3634 hq3635 hf3636 => ?_)
                obtain rfl := fr.uniq (by decide) hf3546 hf3636
                refine lv_aload_n hx hb dX12_splits_124 rfl (lv_at hl 3 rfl) ?_
                refine gmI hx hb hts inT12 hown hK hI List.not_mem_nil hG0 15 (by decide) (hts _ (tb_c wd_1248)) rfl rfl dX12_splits_125 (fun w3637 hg3638 k3639 k3640 => ?_)
                obtain rfl := gf.uniq (by decide) hg3540 hg3638
                refine lv_iload_n hx hb dX12_splits_128 rfl (lv_at hl 1 rfl) ?_
                refine th_cSs (As := [.int v3532]) (rest := [.int v3534, .ref a3545]) (n := 1) (d := 1) ⟨hx, hb, hml, hown, hts⟩ (c_X12_isSmall l H v3532) wd_1572 wd_1573 wd_13 wd_1574 (by decide +kernel) ⟨by rw [hR]; exact Nat.le_of_ble_eq_true rfl, by rw [hR]; exact Nat.le_of_ble_eq_true rfl⟩ hN hS rfl hl.1 rfl (Nat.le_of_ble_eq_true rfl) dX12_splits_129 ⟨Nat.zero_le _, Nat.zero_le _⟩ (fun r3641 locs hp hS => ?_)
                rcases hp with ⟨rfl, hp⟩ | ⟨rfl, hp⟩
                · skip
                  try simp only [rg, not_and, Int.not_le] at hp
                  have hp3642 := hp
                  refine lv_if_eq (tgt := 145) hx hb dX12_splits_132 (by decide) (fun c => absurd c (by decide)) (fun _ => ?_)
                  refine lv_aload_n hx hb dX12_splits_135 rfl (lv_at hl 3 rfl) ?_
                  refine lv_iload_n hx hb dX12_splits_136 rfl (lv_at hl 2 rfl) ?_
                  refine lv_iload hx hb dX12_splits_137 (lv_at hl 0 rfl) ?_
                  refine mr_i (As := [.int v3533, .int v3531]) (rest := [.int v3534, .ref a3545]) (n := 2) (d := 0) ⟨hx, hb, hml, hown, hts⟩ (c_X12_wordOf l E D G H h0 hG0 v3533 v3531 ⟨by omega, by omega⟩ ⟨by omega, by omega⟩ kk ee (by omega) (by omega) (by omega)) wd_1578 wd_1580 wp_64 wd_13 wd_1581 (by decide +kernel) ⟨by rw [hR]; exact Nat.le_of_ble_eq_true rfl, by rw [hR]; exact Nat.le_of_ble_eq_true rfl⟩ hI hN hK hS hG0 rfl hl.1 rfl (Nat.le_of_ble_eq_true rfl) dX12_splits_139 ⟨Nat.zero_le _, Nat.zero_le _⟩ (fun r3643 locs hp hS => ?_)
                  obtain ⟨w3644, hw3645, hw3646⟩ := hp
                  refine lv_goto (tgt := 165) hx hb dX12_splits_142 (by decide) ?_
                  have hzz : tk_z (tB E) sz kk (r3643).toInt := by rw [hw3645]; exact tk_z_lt hrl hw3646
                  refine th_iast hx hb hK hA3548 0 rfl hS ⟨_, hq3547⟩ (iv_in (X := v3534.toInt) rfl (by omega) (by omega)) dX12_splits_165 (fun H locs hA3647 oq hS => ?_)
                  have hI := th_I.put hI hq3547 hA3647 ok_m8 oq
                  have hg3540 := gf.arr hG0 hq3547 (by decide) oq hg3540
                  have hf3542 := fr.arr hG0 hq3547 (by decide) oq hf3542
                  have hf3546 := fr.arr hG0 hq3547 (by decide) oq hf3546
                  have hf3550 := fr.arr hG0 hq3547 (by decide) oq hf3550
                  have hf3554 := fr.arr hG0 hq3547 (by decide) oq hf3554
                  have hf3600 := fr.arr hG0 hq3547 (by decide) oq hf3600
                  have hA3544 := va_at.kept hA3544 (oq _ (m_ne hq3543 hq3547 (by first | decide | (dsimp only; decide))))
                  have hA3632 := va_at.kept hA3632 (oq _ (m_ne hq3551 hq3547 (by first | decide | (dsimp only; decide))))
                  have hA3622 := va_at.kept hA3622 (oq _ (m_ne hq3555 hq3547 (by first | decide | (dsimp only; decide))))
                  have hA3602 := va_at.kept hA3602 (oq _ (m_ne hq3599 hq3547 (by first | decide | (dsimp only; decide))))
                  have e3648 : r3643 = (upd cd (v3534 : Int32).toNatClampNeg r3643) (v3534 : Int32).toNatClampNeg := rd_us
                  refine lv_iload_n hx hb dX12_splits_166 rfl (lv_at hl 2 rfl) ?_
                  refine lv_istore (lv' := [(5, .int v3533), (4, .int v3531), (3, .int v3532), (2, .int v3533), (0, .ref h0), (1, .int x1)]) hx hb dX12_splits_167 hl (by decide) rfl (fun ls hl => ?_)
                  exact J_169 _ H locs ls v3533 v3531 v3532 v3533 v3534 kk tt ee kk (upd cd (v3534 : Int32).toNatClampNeg r3643) (upd va (v3534 : Int32).toNatClampNeg 0) (upd pl (v3534 : Int32).toNatClampNeg v3533) rfl (lv_sub hl [0, 1, 2, 3, 4, 5] rfl) ⟨by omega, by omega⟩ ⟨by omega, by omega⟩ ⟨by omega, by omega⟩ ⟨by omega, by omega⟩ ⟨by omega, by omega⟩ hg3540 ⟨a3541, hf3542, hq3543, hA3544⟩ ⟨a3545, hf3546, hq3547, hA3647⟩ ⟨a3549, hf3550, hq3551, hA3632⟩ ⟨a3553, hf3554, hq3555, hA3622⟩ (by first | omega | (rw [show (0 : Int32).toInt = 0 from by decide]; omega)) (by first | omega | decide) (hP3623) (tk_I.upd hTI (fun j hj => ⟨by rw [up_ne (by omega) hj], by rw [up_ne (by omega) hj], by rw [YV_ne (by omega) hj]⟩)) (by omega) (by omega) (by omega) (⟨by omega, by omega⟩) (by omega) (hct) (by omega) (⟨by omega, by omega⟩) (by rw [up_at (by omega)]; omega) (by rw [up_at (by omega)]; exact hzz) (by rw [up_at (by omega), show (0 : Int32).toInt = 0 from by decide]; exact VI.ini hdr) hI hS
                · skip
                  try simp only [rg, not_and, Int.not_le] at hp
                  have hp3649 := hp
                  exfalso; omega
      refine lv_iload_n hx hb dX12_splits_7 rfl (lv_at hl 0 rfl) ?_
      refine lv_iload_n hx hb dX12_splits_8 rfl (lv_at hl 2 rfl) ?_
      refine lv_icmp_ge (tgt := 263) hx hb dX12_splits_9 (by decide) (fun c3650 => ?_) (fun c3650 => ?_)
      · skip
        have k3651 := iv_le (X := x1.toInt) (Y := v3290.toInt) rfl rfl c3650
        refine lv_aload_n hx hb dX12_splits_263 rfl (lv_at hl 1 rfl) ?_
        refine gmA hx hb hts inT12 hown hK hI List.not_mem_nil hG0 14 (by decide) (hts _ (tb_c wd_1247)) rfl rfl dX12_splits_264 (fun a3652 hq3653 hf3654 => ?_)
        obtain rfl := fr.uniq (by decide) hf3309 hf3654
        refine lv_aload_n hx hb dX12_splits_267 rfl (lv_at hl 1 rfl) ?_
        refine gmI hx hb hts inT12 hown hK hI List.not_mem_nil hG0 15 (by decide) (hts _ (tb_c wd_1248)) rfl rfl dX12_splits_268 (fun w3655 hg3656 k3657 k3658 => ?_)
        obtain rfl := gf.uniq (by decide) hg3295 hg3656
        refine lv_iload_n hx hb dX12_splits_271 rfl (lv_at hl 2 rfl) ?_
        refine th_iast hx hb hK hA3311 0 rfl hS ⟨_, hq3310⟩ (iv_in (X := v3291.toInt) rfl (by omega) (by omega)) dX12_splits_272 (fun H locs hA3659 oq hS => ?_)
        have hP3660 := rgs_set (k := v3291.toNatClampNeg) (v := x1) hPl (by omega) (by omega)
        have hI := th_I.put hI hq3310 hA3659 (ok_m6 hP3660) oq
        have hg3295 := gf.arr hG0 hq3310 (by decide) oq hg3295
        have hf3297 := fr.arr hG0 hq3310 (by decide) oq hf3297
        have hf3301 := fr.arr hG0 hq3310 (by decide) oq hf3301
        have hf3305 := fr.arr hG0 hq3310 (by decide) oq hf3305
        have hf3309 := fr.arr hG0 hq3310 (by decide) oq hf3309
        have hA3299 := va_at.kept hA3299 (oq _ (m_ne hq3298 hq3310 (by first | decide | (dsimp only; decide))))
        have hA3303 := va_at.kept hA3303 (oq _ (m_ne hq3302 hq3310 (by first | decide | (dsimp only; decide))))
        have hA3307 := va_at.kept hA3307 (oq _ (m_ne hq3306 hq3310 (by first | decide | (dsimp only; decide))))
        have e3661 : x1 = (upd pl (v3291 : Int32).toNatClampNeg x1) (v3291 : Int32).toNatClampNeg := rd_us
        refine lv_aload_n hx hb dX12_splits_273 rfl (lv_at hl 1 rfl) ?_
        refine gmA hx hb hts inT12 hown hK hI List.not_mem_nil hG0 12 (by decide) (hts _ (tb_c wd_1245)) rfl rfl dX12_splits_274 (fun a3662 hq3663 hf3664 => ?_)
        obtain rfl := fr.uniq (by decide) hf3301 hf3664
        refine lv_aload_n hx hb dX12_splits_277 rfl (lv_at hl 1 rfl) ?_
        refine gmI hx hb hts inT12 hown hK hI List.not_mem_nil hG0 15 (by decide) (hts _ (tb_c wd_1248)) rfl rfl dX12_splits_278 (fun w3665 hg3666 k3667 k3668 => ?_)
        obtain rfl := gf.uniq (by decide) hg3295 hg3666
        refine lv_iconst (v := 0) hx hb dX12_splits_281 (by decide) ?_
        refine th_iast hx hb hK hA3303 0 rfl hS ⟨_, hq3302⟩ (iv_in (X := v3291.toInt) rfl (by omega) (by omega)) dX12_splits_282 (fun H locs hA3669 oq hS => ?_)
        have hI := th_I.put hI hq3302 hA3669 ok_m8 oq
        have hg3295 := gf.arr hG0 hq3302 (by decide) oq hg3295
        have hf3297 := fr.arr hG0 hq3302 (by decide) oq hf3297
        have hf3301 := fr.arr hG0 hq3302 (by decide) oq hf3301
        have hf3305 := fr.arr hG0 hq3302 (by decide) oq hf3305
        have hf3309 := fr.arr hG0 hq3302 (by decide) oq hf3309
        have hA3299 := va_at.kept hA3299 (oq _ (m_ne hq3298 hq3302 (by first | decide | (dsimp only; decide))))
        have hA3307 := va_at.kept hA3307 (oq _ (m_ne hq3306 hq3302 (by first | decide | (dsimp only; decide))))
        have hA3659 := va_at.kept hA3659 (oq _ (m_ne hq3310 hq3302 (by first | decide | (dsimp only; decide))))
        have e3670 : 0 = (upd cd (v3291 : Int32).toNatClampNeg 0) (v3291 : Int32).toNatClampNeg := rd_us
        refine lv_aload_n hx hb dX12_splits_283 rfl (lv_at hl 1 rfl) ?_
        refine gmA hx hb hts inT12 hown hK hI List.not_mem_nil hG0 13 (by decide) (hts _ (tb_c wd_1246)) rfl rfl dX12_splits_284 (fun a3671 hq3672 hf3673 => ?_)
        obtain rfl := fr.uniq (by decide) hf3305 hf3673
        refine lv_aload_n hx hb dX12_splits_287 rfl (lv_at hl 1 rfl) ?_
        refine gmI hx hb hts inT12 hown hK hI List.not_mem_nil hG0 15 (by decide) (hts _ (tb_c wd_1248)) rfl rfl dX12_splits_288 (fun w3674 hg3675 k3676 k3677 => ?_)
        obtain rfl := gf.uniq (by decide) hg3295 hg3675
        refine lv_iconst (v := 0) hx hb dX12_splits_291 (by decide) ?_
        refine th_iast hx hb hK hA3307 0 rfl hS ⟨_, hq3306⟩ (iv_in (X := v3291.toInt) rfl (by omega) (by omega)) dX12_splits_292 (fun H locs hA3678 oq hS => ?_)
        have hI := th_I.put hI hq3306 hA3678 ok_m0 oq
        have hg3295 := gf.arr hG0 hq3306 (by decide) oq hg3295
        have hf3297 := fr.arr hG0 hq3306 (by decide) oq hf3297
        have hf3301 := fr.arr hG0 hq3306 (by decide) oq hf3301
        have hf3305 := fr.arr hG0 hq3306 (by decide) oq hf3305
        have hf3309 := fr.arr hG0 hq3306 (by decide) oq hf3309
        have hA3299 := va_at.kept hA3299 (oq _ (m_ne hq3298 hq3306 (by first | decide | (dsimp only; decide))))
        have hA3669 := va_at.kept hA3669 (oq _ (m_ne hq3302 hq3306 (by first | decide | (dsimp only; decide))))
        have hA3659 := va_at.kept hA3659 (oq _ (m_ne hq3310 hq3306 (by first | decide | (dsimp only; decide))))
        have e3679 : 0 = (upd va (v3291 : Int32).toNatClampNeg 0) (v3291 : Int32).toNatClampNeg := rd_us
        have hpost : ∃ (TT : Nat) (cd va pl : Nat → Int32), (∃ z, gf D h0 15 z H ∧ z.toInt = (TT : Int)) ∧ TT ≤ 400 ∧ ga E D G h0 3 (1, 5123) ff H ∧ ga E D G h0 12 (8, 401) cd H ∧ ga E D G h0 13 (0, 401) va H ∧ ga E D G h0 14 (6, 401) pl H ∧ (∀ j : Nat, j < 401 → 0 ≤ (pl j).toInt ∧ (pl j).toInt ≤ 400) ∧ (cd TT).toInt = 0 ∧ (pl TT).toInt = (sz : Int) ∧ TI_ E sz pl cd va sz TT := ⟨tt, (upd cd (v3291 : Int32).toNatClampNeg 0), (upd va (v3291 : Int32).toNatClampNeg 0), (upd pl (v3291 : Int32).toNatClampNeg x1), ⟨v3291, hg3295, by omega⟩, by omega, ⟨a3296, hf3297, hq3298, hA3299⟩, ⟨a3300, hf3301, hq3302, hA3669⟩, ⟨a3304, hf3305, hq3306, hA3678⟩, ⟨a3308, hf3309, hq3310, hA3659⟩, hP3660, by rw [up_at (by omega)]; decide, by rw [up_at (by omega)]; omega, by rw [show kk = sz by omega] at hTI; exact tk_I.upd hTI (fun j hj => ⟨by rw [up_ne (by omega) hj], by rw [up_ne (by omega) hj], by rw [YV_ne (by omega) hj]⟩)⟩
        rw [hQ]
        exact W.vret hx hb hr (fun t ht hW => ⟨⟨(), rfl, trivial, ⟨by rw [ht]; exact hI, hN.warm hW, va_K.moved hW.alike hK⟩, by first | (rw [ht]; exact hpost) | exact hpost⟩, hS.F ht⟩) hS.2.2 dX12_splits_293
      · skip
        have k3680 := iv_nle (X := x1.toInt) (Y := v3290.toInt) rfl rfl c3650
        refine lv_aload_n hx hb dX12_splits_12 rfl (lv_at hl 1 rfl) ?_
        refine gmA hx hb hts inT12 hown hK hI List.not_mem_nil hG0 8 (by decide) (hts _ (tb_c wd_1241)) rfl rfl dX12_splits_13 (fun a3681 hq3682 hf3683 => ?_)
        refine lv_iload_n hx hb dX12_splits_16 rfl (lv_at hl 0 rfl) ?_
        obtain ⟨F3684, hA3685, hP3686⟩ := om_4 hI hq3682 List.not_mem_nil
        refine va_bald hx hb hK (th_one hA3685) 0 3 rfl rfl (iv_in (X := v3290.toInt) rfl (by omega) (by omega)) dX12_splits_17 ?_
        refine lv_topi (fun v3687 e3688 => ?_)
        have k3689 := tp_at hP3686 e3688 (p := kk) (by omega) (by omega)
        refine lv_istore_n (lv' := [(3, .int v3687), (2, .int v3290), (0, .ref h0), (1, .int x1)]) hx hb dX12_splits_18 rfl hl (by decide) rfl (fun ls hl => ?_)
        refine lv_iload_n hx hb dX12_splits_19 rfl (lv_at hl 0 rfl) ?_
        refine lv_bipush (v := 32) hx hb dX12_splits_20 (by decide) ?_
        have k3690 := iv_lo v3687
        have k3691 := iv_hi v3687
        refine lv_icmp_ne (tgt := 31) hx hb dX12_splits_22 (by decide) (fun c3692 => ?_) (fun c3692 => ?_)
        · skip
          have k3693 := iv_ne (X := v3687.toInt) (Y := (32)) rfl (by decide) c3692
          have hb32 : tB E kk ≠ 32 := by omega
          refine lv_iload_n hx hb dX12_splits_31 rfl (lv_at hl 1 rfl) ?_
          refine lv_iconst (v := 1) hx hb dX12_splits_32 (by decide) ?_
          refine lv_iadd hx hb dX12_splits_33 ?_
          refine lv_topi (fun v3694 e3695 => ?_)
          have tv3694 : v3694.toInt = v3290.toInt + (1) := iv_add rfl (by decide) e3695 (by omega) (by omega)
          refine lv_istore (lv' := [(4, .int v3694), (3, .int v3687), (2, .int v3290), (0, .ref h0), (1, .int x1)]) hx hb dX12_splits_34 hl (by decide) rfl (fun ls hl => ?_)
          refine lv_iload_n hx hb dX12_splits_36 rfl (lv_at hl 1 rfl) ?_
          refine th_cSs (As := [.int v3687]) (rest := []) (n := 1) (d := 1) ⟨hx, hb, hml, hown, hts⟩ (c_X12_isSmall l H v3687) wd_1572 wd_1573 wd_13 wd_1574 (by decide +kernel) ⟨by rw [hR]; exact Nat.le_of_ble_eq_true rfl, by rw [hR]; exact Nat.le_of_ble_eq_true rfl⟩ hN hS rfl hl.1 rfl (Nat.le_of_ble_eq_true rfl) dX12_splits_37 ⟨Nat.zero_le _, Nat.zero_le _⟩ (fun r3696 locs hp hS => ?_)
          rcases hp with ⟨rfl, hp⟩ | ⟨rfl, hp⟩
          · skip
            try simp only [rg, not_and, Int.not_le] at hp
            have hp3697 := hp
            refine lv_if_eq (tgt := 68) hx hb dX12_splits_40 (by decide) (fun c => absurd c (by decide)) (fun _ => ?_)
            exact J_43 _ H locs ls v3694 v3687 v3290 v3291 kk tt (kk + 1) cd va pl rfl (lv_sub hl [0, 1, 2, 3, 4] rfl) ⟨by omega, by omega⟩ ⟨by omega, by omega⟩ ⟨by omega, by omega⟩ ⟨by omega, by omega⟩ ⟨by omega, by omega⟩ hg3295 ⟨a3296, hf3297, hq3298, hA3299⟩ ⟨a3300, hf3301, hq3302, hA3303⟩ ⟨a3304, hf3305, hq3306, hA3307⟩ ⟨a3308, hf3309, hq3310, hA3311⟩ (by first | omega | (rw [show (0 : Int32).toInt = 0 from by decide]; omega)) (by first | omega | decide) (hPl) (hTI) (by omega) (by omega) (by omega) (⟨by omega, by omega⟩) (by omega) (fun j h1 h2 => by rw [show j = kk by omega]; unfold tk_lt; omega) hI hS
          · skip
            try simp only [rg, not_and, Int.not_le] at hp
            have hp3698 := hp
            refine lv_if_eq (tgt := 68) hx hb dX12_splits_40 (by decide) (fun _ => ?_) (fun c => absurd c (by decide))
            refine lv_iload_n hx hb dX12_splits_68 rfl (lv_at hl 1 rfl) ?_
            refine th_cSs (As := [.int v3687]) (rest := []) (n := 1) (d := 1) ⟨hx, hb, hml, hown, hts⟩ (c_X12_isDigit l H v3687) wd_1575 wd_1576 wd_13 wd_1577 (by decide +kernel) ⟨by rw [hR]; exact Nat.le_of_ble_eq_true rfl, by rw [hR]; exact Nat.le_of_ble_eq_true rfl⟩ hN hS rfl hl.1 rfl (Nat.le_of_ble_eq_true rfl) dX12_splits_69 ⟨Nat.zero_le _, Nat.zero_le _⟩ (fun r3699 locs hp hS => ?_)
            rcases hp with ⟨rfl, hp⟩ | ⟨rfl, hp⟩
            · skip
              try simp only [rg, not_and, Int.not_le] at hp
              have hp3700 := hp
              refine lv_if_eq (tgt := 100) hx hb dX12_splits_72 (by decide) (fun c => absurd c (by decide)) (fun _ => ?_)
              exact J_75 _ H locs ls v3694 v3687 v3290 v3291 kk tt (kk + 1) cd va pl rfl (lv_sub hl [0, 1, 2, 3, 4] rfl) ⟨by omega, by omega⟩ ⟨by omega, by omega⟩ ⟨by omega, by omega⟩ ⟨by omega, by omega⟩ ⟨by omega, by omega⟩ hg3295 ⟨a3296, hf3297, hq3298, hA3299⟩ ⟨a3300, hf3301, hq3302, hA3303⟩ ⟨a3304, hf3305, hq3306, hA3307⟩ ⟨a3308, hf3309, hq3310, hA3311⟩ (by first | omega | (rw [show (0 : Int32).toInt = 0 from by decide]; omega)) (by first | omega | decide) (hPl) (hTI) (by omega) (by omega) (by omega) (⟨by omega, by omega⟩) (by omega) (fun j h1 h2 => by rw [show j = kk by omega]; unfold tk_dg; omega) hI hS
            · skip
              try simp only [rg, not_and, Int.not_le] at hp
              have hp3701 := hp
              refine lv_if_eq (tgt := 100) hx hb dX12_splits_72 (by decide) (fun _ => ?_) (fun c => absurd c (by decide))
              have hct : (∀ j, kk < j → j < kk + 1 → tk_ct (tB E) j) ∧ (kk + 1 = sz ∨ ¬ tk_ct (tB E) (kk + 1)) := tk_ot_ct (by unfold tk_lt; omega) (by unfold tk_dg; omega)
              have hdr : tk_dg (tB E kk) → tk_rd (tB E) sz kk (kk + 1) := fun z => by unfold tk_dg at z; omega
              refine lv_aload_n hx hb dX12_splits_100 rfl (lv_at hl 3 rfl) ?_
              refine gmA hx hb hts inT12 hown hK hI List.not_mem_nil hG0 14 (by decide) (hts _ (tb_c wd_1247)) rfl rfl dX12_splits_101 (fun a3702 hq3703 hf3704 => ?_)
              obtain rfl := fr.uniq (by decide) hf3309 hf3704
              refine lv_aload_n hx hb dX12_splits_104 rfl (lv_at hl 3 rfl) ?_
              refine gmI hx hb hts inT12 hown hK hI List.not_mem_nil hG0 15 (by decide) (hts _ (tb_c wd_1248)) rfl rfl dX12_splits_105 (fun w3705 hg3706 k3707 k3708 => ?_)
              obtain rfl := gf.uniq (by decide) hg3295 hg3706
              refine lv_iload_n hx hb dX12_splits_108 rfl (lv_at hl 2 rfl) ?_
              refine th_iast hx hb hK hA3311 0 rfl hS ⟨_, hq3310⟩ (iv_in (X := v3291.toInt) rfl (by omega) (by omega)) dX12_splits_109 (fun H locs hA3709 oq hS => ?_)
              have hP3710 := rgs_set (k := v3291.toNatClampNeg) (v := v3290) hPl (by omega) (by omega)
              have hI := th_I.put hI hq3310 hA3709 (ok_m6 hP3710) oq
              have hg3295 := gf.arr hG0 hq3310 (by decide) oq hg3295
              have hf3297 := fr.arr hG0 hq3310 (by decide) oq hf3297
              have hf3301 := fr.arr hG0 hq3310 (by decide) oq hf3301
              have hf3305 := fr.arr hG0 hq3310 (by decide) oq hf3305
              have hf3309 := fr.arr hG0 hq3310 (by decide) oq hf3309
              have hf3683 := fr.arr hG0 hq3310 (by decide) oq hf3683
              have hA3299 := va_at.kept hA3299 (oq _ (m_ne hq3298 hq3310 (by first | decide | (dsimp only; decide))))
              have hA3303 := va_at.kept hA3303 (oq _ (m_ne hq3302 hq3310 (by first | decide | (dsimp only; decide))))
              have hA3307 := va_at.kept hA3307 (oq _ (m_ne hq3306 hq3310 (by first | decide | (dsimp only; decide))))
              have hA3685 := va_at.kept hA3685 (oq _ (m_ne hq3682 hq3310 (by first | decide | (dsimp only; decide))))
              have e3711 : v3290 = (upd pl (v3291 : Int32).toNatClampNeg v3290) (v3291 : Int32).toNatClampNeg := rd_us
              refine lv_aload_n hx hb dX12_splits_110 rfl (lv_at hl 3 rfl) ?_
              refine gmA hx hb hts inT12 hown hK hI List.not_mem_nil hG0 13 (by decide) (hts _ (tb_c wd_1246)) rfl rfl dX12_splits_111 (fun a3712 hq3713 hf3714 => ?_)
              obtain rfl := fr.uniq (by decide) hf3305 hf3714
              refine lv_aload_n hx hb dX12_splits_114 rfl (lv_at hl 3 rfl) ?_
              refine gmI hx hb hts inT12 hown hK hI List.not_mem_nil hG0 15 (by decide) (hts _ (tb_c wd_1248)) rfl rfl dX12_splits_115 (fun w3715 hg3716 k3717 k3718 => ?_)
              obtain rfl := gf.uniq (by decide) hg3295 hg3716
              refine lv_iconst (v := 0) hx hb dX12_splits_118 (by decide) ?_
              refine th_iast hx hb hK hA3307 0 rfl hS ⟨_, hq3306⟩ (iv_in (X := v3291.toInt) rfl (by omega) (by omega)) dX12_splits_119 (fun H locs hA3719 oq hS => ?_)
              have hI := th_I.put hI hq3306 hA3719 ok_m0 oq
              have hg3295 := gf.arr hG0 hq3306 (by decide) oq hg3295
              have hf3297 := fr.arr hG0 hq3306 (by decide) oq hf3297
              have hf3301 := fr.arr hG0 hq3306 (by decide) oq hf3301
              have hf3305 := fr.arr hG0 hq3306 (by decide) oq hf3305
              have hf3309 := fr.arr hG0 hq3306 (by decide) oq hf3309
              have hf3683 := fr.arr hG0 hq3306 (by decide) oq hf3683
              have hA3299 := va_at.kept hA3299 (oq _ (m_ne hq3298 hq3306 (by first | decide | (dsimp only; decide))))
              have hA3303 := va_at.kept hA3303 (oq _ (m_ne hq3302 hq3306 (by first | decide | (dsimp only; decide))))
              have hA3709 := va_at.kept hA3709 (oq _ (m_ne hq3310 hq3306 (by first | decide | (dsimp only; decide))))
              have hA3685 := va_at.kept hA3685 (oq _ (m_ne hq3682 hq3306 (by first | decide | (dsimp only; decide))))
              have e3720 : 0 = (upd va (v3291 : Int32).toNatClampNeg 0) (v3291 : Int32).toNatClampNeg := rd_us
              refine lv_aload_n hx hb dX12_splits_120 rfl (lv_at hl 3 rfl) ?_
              refine gmA hx hb hts inT12 hown hK hI List.not_mem_nil hG0 12 (by decide) (hts _ (tb_c wd_1245)) rfl rfl dX12_splits_121 (fun a3721 hq3722 hf3723 => ?_)
              obtain rfl := fr.uniq (by decide) hf3301 hf3723
              refine lv_aload_n hx hb dX12_splits_124 rfl (lv_at hl 3 rfl) ?_
              refine gmI hx hb hts inT12 hown hK hI List.not_mem_nil hG0 15 (by decide) (hts _ (tb_c wd_1248)) rfl rfl dX12_splits_125 (fun w3724 hg3725 k3726 k3727 => ?_)
              obtain rfl := gf.uniq (by decide) hg3295 hg3725
              refine lv_iload_n hx hb dX12_splits_128 rfl (lv_at hl 1 rfl) ?_
              refine th_cSs (As := [.int v3687]) (rest := [.int v3291, .ref a3300]) (n := 1) (d := 1) ⟨hx, hb, hml, hown, hts⟩ (c_X12_isSmall l H v3687) wd_1572 wd_1573 wd_13 wd_1574 (by decide +kernel) ⟨by rw [hR]; exact Nat.le_of_ble_eq_true rfl, by rw [hR]; exact Nat.le_of_ble_eq_true rfl⟩ hN hS rfl hl.1 rfl (Nat.le_of_ble_eq_true rfl) dX12_splits_129 ⟨Nat.zero_le _, Nat.zero_le _⟩ (fun r3728 locs hp hS => ?_)
              rcases hp with ⟨rfl, hp⟩ | ⟨rfl, hp⟩
              · skip
                try simp only [rg, not_and, Int.not_le] at hp
                have hp3729 := hp
                exfalso; omega
              · skip
                try simp only [rg, not_and, Int.not_le] at hp
                have hp3730 := hp
                refine lv_if_eq (tgt := 145) hx hb dX12_splits_132 (by decide) (fun _ => ?_) (fun c => absurd c (by decide))
                refine lv_iload_n hx hb dX12_splits_145 rfl (lv_at hl 1 rfl) ?_
                refine th_cSs (As := [.int v3687]) (rest := [.int v3291, .ref a3300]) (n := 1) (d := 1) ⟨hx, hb, hml, hown, hts⟩ (c_X12_isDigit l H v3687) wd_1575 wd_1576 wd_13 wd_1577 (by decide +kernel) ⟨by rw [hR]; exact Nat.le_of_ble_eq_true rfl, by rw [hR]; exact Nat.le_of_ble_eq_true rfl⟩ hN hS rfl hl.1 rfl (Nat.le_of_ble_eq_true rfl) dX12_splits_146 ⟨Nat.zero_le _, Nat.zero_le _⟩ (fun r3731 locs hp hS => ?_)
                rcases hp with ⟨rfl, hp⟩ | ⟨rfl, hp⟩
                · skip
                  try simp only [rg, not_and, Int.not_le] at hp
                  have hp3732 := hp
                  exfalso; omega
                · skip
                  try simp only [rg, not_and, Int.not_le] at hp
                  have hp3733 := hp
                  refine lv_if_eq (tgt := 157) hx hb dX12_splits_149 (by decide) (fun _ => ?_) (fun c => absurd c (by decide))
                  refine lv_bipush (v := 100) hx hb dX12_splits_157 (by decide) ?_
                  refine lv_iload_n hx hb dX12_splits_159 rfl (lv_at hl 1 rfl) ?_
                  refine lv_sipush (v := 255) hx hb dX12_splits_160 (by decide) ?_
                  refine lv_iand hx hb dX12_splits_163 ?_
                  refine lv_topi (fun v3734 e3735 => ?_)
                  have tv3734 := iv_andr (m := 255) (M := 255) e3735 (by decide) (by decide)
                  have hand := and255 (x := v3687) (n := tB E kk) (by omega) e3735
                  refine lv_iadd hx hb dX12_splits_164 ?_
                  refine lv_topi (fun v3736 e3737 => ?_)
                  have tv3736 : v3736.toInt = (100) + v3734.toInt := iv_add (by decide) rfl e3737 (by omega) (by omega)
                  have hzz : tk_z (tB E) sz kk (v3736).toInt := Or.inr (Or.inr ⟨by unfold tk_lt; omega, by unfold tk_dg; omega, by omega⟩)
                  refine th_iast hx hb hK hA3303 0 rfl hS ⟨_, hq3302⟩ (iv_in (X := v3291.toInt) rfl (by omega) (by omega)) dX12_splits_165 (fun H locs hA3738 oq hS => ?_)
                  have hI := th_I.put hI hq3302 hA3738 ok_m8 oq
                  have hg3295 := gf.arr hG0 hq3302 (by decide) oq hg3295
                  have hf3297 := fr.arr hG0 hq3302 (by decide) oq hf3297
                  have hf3301 := fr.arr hG0 hq3302 (by decide) oq hf3301
                  have hf3305 := fr.arr hG0 hq3302 (by decide) oq hf3305
                  have hf3309 := fr.arr hG0 hq3302 (by decide) oq hf3309
                  have hf3683 := fr.arr hG0 hq3302 (by decide) oq hf3683
                  have hA3299 := va_at.kept hA3299 (oq _ (m_ne hq3298 hq3302 (by first | decide | (dsimp only; decide))))
                  have hA3719 := va_at.kept hA3719 (oq _ (m_ne hq3306 hq3302 (by first | decide | (dsimp only; decide))))
                  have hA3709 := va_at.kept hA3709 (oq _ (m_ne hq3310 hq3302 (by first | decide | (dsimp only; decide))))
                  have hA3685 := va_at.kept hA3685 (oq _ (m_ne hq3682 hq3302 (by first | decide | (dsimp only; decide))))
                  have e3739 : v3736 = (upd cd (v3291 : Int32).toNatClampNeg v3736) (v3291 : Int32).toNatClampNeg := rd_us
                  refine lv_iload_n hx hb dX12_splits_166 rfl (lv_at hl 2 rfl) ?_
                  refine lv_istore (lv' := [(5, .int v3290), (4, .int v3694), (3, .int v3687), (2, .int v3290), (0, .ref h0), (1, .int x1)]) hx hb dX12_splits_167 hl (by decide) rfl (fun ls hl => ?_)
                  exact J_169 _ H locs ls v3290 v3694 v3687 v3290 v3291 kk tt (kk + 1) kk (upd cd (v3291 : Int32).toNatClampNeg v3736) (upd va (v3291 : Int32).toNatClampNeg 0) (upd pl (v3291 : Int32).toNatClampNeg v3290) rfl (lv_sub hl [0, 1, 2, 3, 4, 5] rfl) ⟨by omega, by omega⟩ ⟨by omega, by omega⟩ ⟨by omega, by omega⟩ ⟨by omega, by omega⟩ ⟨by omega, by omega⟩ hg3295 ⟨a3296, hf3297, hq3298, hA3299⟩ ⟨a3300, hf3301, hq3302, hA3738⟩ ⟨a3304, hf3305, hq3306, hA3719⟩ ⟨a3308, hf3309, hq3310, hA3709⟩ (by first | omega | (rw [show (0 : Int32).toInt = 0 from by decide]; omega)) (by first | omega | decide) (hP3710) (tk_I.upd hTI (fun j hj => ⟨by rw [up_ne (by omega) hj], by rw [up_ne (by omega) hj], by rw [YV_ne (by omega) hj]⟩)) (by omega) (by omega) (by omega) (⟨by omega, by omega⟩) (by omega) (hct) (by omega) (⟨by omega, by omega⟩) (by rw [up_at (by omega)]; omega) (by rw [up_at (by omega)]; exact hzz) (by rw [up_at (by omega), show (0 : Int32).toInt = 0 from by decide]; exact VI.ini hdr) hI hS
        · skip
          have k3740 := iv_eq (X := v3687.toInt) (Y := (32)) rfl (by decide) c3692
          obtain ⟨v3741, e3742⟩ : ∃ y : Int32, y = v3290 + (1) := ⟨_, rfl⟩
          have tv3741 : v3741.toInt = v3290.toInt + (1) := iv_add rfl (by decide) e3742 (by omega) (by omega)
          refine lv_iinc (v := v3741) (lv' := [(2, .int v3741), (3, .int v3687), (0, .ref h0), (1, .int x1)]) hx hb dX12_splits_25 hl (k := 1) rfl (by rw [e3742]; rfl) (by decide) rfl (fun ls hl => ?_)
          refine lv_goto (tgt := 7) hx hb dX12_splits_28 (by decide) ?_
          exact ih_7 _ (by omega) H locs ls v3741 v3291 (kk + 1) tt cd va pl rfl (lv_sub hl [0, 2, 3] rfl) ⟨by omega, by omega⟩ ⟨by omega, by omega⟩ ⟨by omega, by omega⟩ hg3295 ⟨a3296, hf3297, hq3298, hA3299⟩ ⟨a3300, hf3301, hq3302, hA3303⟩ ⟨a3304, hf3305, hq3306, hA3307⟩ ⟨a3308, hf3309, hq3310, hA3311⟩ (by first | omega | (rw [show (0 : Int32).toInt = 0 from by decide]; omega)) (by first | omega | decide) (hPl) (tk_I.sp hTI (by omega) (by omega)) hI hS
  refine lv_aload_n hx hb dX12_splits_0 rfl (lv_at hl 0 rfl) ?_
  refine lv_iconst (v := 0) hx hb dX12_splits_1 (by decide) ?_
  refine pmI (ty := .int) hx hb hts inT12 hown hK hI List.not_mem_nil hG0 hS ⟨_, hG0⟩ 15 (by decide) (by decide) (hts _ (tb_c wd_1248)) rfl rfl (by decide +kernel) rfl rfl rfl (by decide) (by decide) dX12_splits_2 (fun H locs hI hgP hS => ?_)
  have hg3743 := hgP.2.1
  have hf_3 := hgP.2.2.2 3 _ (by decide) (by decide) hf_3
  have hA_3 := va_at.kept hA_3 (hgP.1 _ (m_ne hq_3 hG0 (by first | decide | (dsimp only; decide))))
  refine lv_iconst (v := 0) hx hb dX12_splits_5 (by decide) ?_
  refine lv_istore_n (lv' := [(2, .int 0), (0, .ref h0), (1, .int x1)]) hx hb dX12_splits_6 rfl hl (by decide) rfl (fun ls hl => ?_)
  obtain ⟨a3744, hq3745, hf3746⟩ := fr_of hI hG0 12 (by decide) (kd := (8, 401)) rfl
  obtain ⟨F3747, hA3748⟩ := om_8 hI hq3745 List.not_mem_nil
  obtain ⟨a3749, hq3750, hf3751⟩ := fr_of hI hG0 13 (by decide) (kd := (0, 401)) rfl
  obtain ⟨F3752, hA3753⟩ := om_0 hI hq3750 List.not_mem_nil
  obtain ⟨a3754, hq3755, hf3756⟩ := fr_of hI hG0 14 (by decide) (kd := (6, 401)) rfl
  obtain ⟨F3757, hA3758, hP3759⟩ := om_6 hI hq3755 List.not_mem_nil
  have zl : (0 : Int32).toInt = 0 := by decide
  exact J_7 _ H locs ls 0 0 0 0 F3747 F3752 F3757 rfl (lv_sub hl [0, 1, 2] rfl) ⟨by decide, by decide⟩ ⟨by omega, by omega⟩ ⟨by decide, by decide⟩ hg3743 ⟨q_3, hf_3, hq_3, hA_3⟩ ⟨a3744, hf3746, hq3745, hA3748⟩ ⟨a3749, hf3751, hq3750, hA3753⟩ ⟨a3754, hf3756, hq3755, hA3758⟩ (by first | omega | (rw [show (0 : Int32).toInt = 0 from by decide]; omega)) (by first | omega | decide) (hP3759) (tk_I.ini) hI hS
