theorem wp_15 : Cond.selects RX3 yX3_sum yX3_sum ∈ TB := tv 15 (by decide +kernel) (by decide +kernel)
theorem wd_715 : (Cond.methodLink RX3 (97 : Nat) yX3_sum) ∈ TB := tw 715 (by decide +kernel) (by decide +kernel)
theorem wd_717 : (Jvm.Cond.instanceMethod yX3_sum) ∈ TB := tw 717 (by decide +kernel) (by decide +kernel)
theorem wd_718 : (Cond.code yX3_sum cX3_sum 7 (Option.some Jvm.ClassFile.FieldType.boolean)) ∈ TB := tw 718 (by decide +kernel) (by decide +kernel)
theorem dX3_part_0g : (decode cX3_part 0 = .ok (.aload_n 0, 1)) ∧ (decode cX3_part 1 = .ok (.getfield 46, 3)) ∧ (decode cX3_part 4 = .ok (.bipush 91, 2)) ∧ (decode cX3_part 6 = .ok (.if_icmp .ne 69, 3)) ∧ (decode cX3_part 9 = .ok (.iload_n 1, 1)) ∧ (decode cX3_part 10 = .ok (.bipush 8, 2)) ∧ (decode cX3_part 12 = .ok (.if_icmp .lt 5, 3)) ∧ (decode cX3_part 15 = .ok (.iconst 0, 1)) ∧ (decode cX3_part 16 = .ok (.ireturn, 1)) ∧ (decode cX3_part 17 = .ok (.aload_n 0, 1)) := by decide +kernel
theorem dX3_part_0 : decode cX3_part 0 = .ok (.aload_n 0, 1) := dX3_part_0g.1
theorem dX3_part_1 : decode cX3_part 1 = .ok (.getfield 46, 3) := dX3_part_0g.2.1
theorem dX3_part_4 : decode cX3_part 4 = .ok (.bipush 91, 2) := dX3_part_0g.2.2.1
theorem dX3_part_6 : decode cX3_part 6 = .ok (.if_icmp .ne 69, 3) := dX3_part_0g.2.2.2.1
theorem dX3_part_9 : decode cX3_part 9 = .ok (.iload_n 1, 1) := dX3_part_0g.2.2.2.2.1
theorem dX3_part_10 : decode cX3_part 10 = .ok (.bipush 8, 2) := dX3_part_0g.2.2.2.2.2.1
theorem dX3_part_12 : decode cX3_part 12 = .ok (.if_icmp .lt 5, 3) := dX3_part_0g.2.2.2.2.2.2.1
theorem dX3_part_15 : decode cX3_part 15 = .ok (.iconst 0, 1) := dX3_part_0g.2.2.2.2.2.2.2.1
theorem dX3_part_16 : decode cX3_part 16 = .ok (.ireturn, 1) := dX3_part_0g.2.2.2.2.2.2.2.2.1
theorem dX3_part_17 : decode cX3_part 17 = .ok (.aload_n 0, 1) := dX3_part_0g.2.2.2.2.2.2.2.2.2
theorem dX3_part_18g : (decode cX3_part 18 = .ok (.aload_n 0, 1)) ∧ (decode cX3_part 19 = .ok (.getfield 43, 3)) ∧ (decode cX3_part 22 = .ok (.iconst 1, 1)) ∧ (decode cX3_part 23 = .ok (.iadd, 1)) ∧ (decode cX3_part 24 = .ok (.invokevirtual 66, 3)) ∧ (decode cX3_part 27 = .ok (.aload_n 0, 1)) ∧ (decode cX3_part 28 = .ok (.iload_n 1, 1)) ∧ (decode cX3_part 29 = .ok (.iconst 1, 1)) ∧ (decode cX3_part 30 = .ok (.iadd, 1)) ∧ (decode cX3_part 31 = .ok (.invokevirtual 97, 3)) := by decide +kernel
theorem dX3_part_18 : decode cX3_part 18 = .ok (.aload_n 0, 1) := dX3_part_18g.1
theorem dX3_part_19 : decode cX3_part 19 = .ok (.getfield 43, 3) := dX3_part_18g.2.1
theorem dX3_part_22 : decode cX3_part 22 = .ok (.iconst 1, 1) := dX3_part_18g.2.2.1
theorem dX3_part_23 : decode cX3_part 23 = .ok (.iadd, 1) := dX3_part_18g.2.2.2.1
theorem dX3_part_24 : decode cX3_part 24 = .ok (.invokevirtual 66, 3) := dX3_part_18g.2.2.2.2.1
theorem dX3_part_27 : decode cX3_part 27 = .ok (.aload_n 0, 1) := dX3_part_18g.2.2.2.2.2.1
theorem dX3_part_28 : decode cX3_part 28 = .ok (.iload_n 1, 1) := dX3_part_18g.2.2.2.2.2.2.1
theorem dX3_part_29 : decode cX3_part 29 = .ok (.iconst 1, 1) := dX3_part_18g.2.2.2.2.2.2.2.1
theorem dX3_part_30 : decode cX3_part 30 = .ok (.iadd, 1) := dX3_part_18g.2.2.2.2.2.2.2.2.1
theorem dX3_part_31 : decode cX3_part 31 = .ok (.invokevirtual 97, 3) := dX3_part_18g.2.2.2.2.2.2.2.2.2
theorem dX3_part_34g : (decode cX3_part 34 = .ok (.ifCond .eq 16, 3)) ∧ (decode cX3_part 37 = .ok (.aload_n 0, 1)) ∧ (decode cX3_part 38 = .ok (.getfield 46, 3)) ∧ (decode cX3_part 41 = .ok (.bipush 93, 2)) ∧ (decode cX3_part 43 = .ok (.if_icmp .ne 7, 3)) ∧ (decode cX3_part 46 = .ok (.iconst 1, 1)) ∧ (decode cX3_part 47 = .ok (.goto 4, 3)) ∧ (decode cX3_part 50 = .ok (.iconst 0, 1)) ∧ (decode cX3_part 51 = .ok (.istore_n 2, 1)) ∧ (decode cX3_part 52 = .ok (.aload_n 0, 1)) := by decide +kernel
theorem dX3_part_34 : decode cX3_part 34 = .ok (.ifCond .eq 16, 3) := dX3_part_34g.1
theorem dX3_part_37 : decode cX3_part 37 = .ok (.aload_n 0, 1) := dX3_part_34g.2.1
theorem dX3_part_38 : decode cX3_part 38 = .ok (.getfield 46, 3) := dX3_part_34g.2.2.1
theorem dX3_part_41 : decode cX3_part 41 = .ok (.bipush 93, 2) := dX3_part_34g.2.2.2.1
theorem dX3_part_43 : decode cX3_part 43 = .ok (.if_icmp .ne 7, 3) := dX3_part_34g.2.2.2.2.1
theorem dX3_part_46 : decode cX3_part 46 = .ok (.iconst 1, 1) := dX3_part_34g.2.2.2.2.2.1
theorem dX3_part_47 : decode cX3_part 47 = .ok (.goto 4, 3) := dX3_part_34g.2.2.2.2.2.2.1
theorem dX3_part_50 : decode cX3_part 50 = .ok (.iconst 0, 1) := dX3_part_34g.2.2.2.2.2.2.2.1
theorem dX3_part_51 : decode cX3_part 51 = .ok (.istore_n 2, 1) := dX3_part_34g.2.2.2.2.2.2.2.2.1
theorem dX3_part_52 : decode cX3_part 52 = .ok (.aload_n 0, 1) := dX3_part_34g.2.2.2.2.2.2.2.2.2
theorem dX3_part_53g : (decode cX3_part 53 = .ok (.iload_n 2, 1)) ∧ (decode cX3_part 54 = .ok (.ifCond .eq 12, 3)) ∧ (decode cX3_part 57 = .ok (.aload_n 0, 1)) ∧ (decode cX3_part 58 = .ok (.getfield 43, 3)) ∧ (decode cX3_part 61 = .ok (.iconst 1, 1)) ∧ (decode cX3_part 62 = .ok (.iadd, 1)) ∧ (decode cX3_part 63 = .ok (.goto 7, 3)) ∧ (decode cX3_part 66 = .ok (.aload_n 0, 1)) ∧ (decode cX3_part 67 = .ok (.getfield 43, 3)) ∧ (decode cX3_part 70 = .ok (.invokevirtual 66, 3)) := by decide +kernel
theorem dX3_part_53 : decode cX3_part 53 = .ok (.iload_n 2, 1) := dX3_part_53g.1
theorem dX3_part_54 : decode cX3_part 54 = .ok (.ifCond .eq 12, 3) := dX3_part_53g.2.1
theorem dX3_part_57 : decode cX3_part 57 = .ok (.aload_n 0, 1) := dX3_part_53g.2.2.1
theorem dX3_part_58 : decode cX3_part 58 = .ok (.getfield 43, 3) := dX3_part_53g.2.2.2.1
theorem dX3_part_61 : decode cX3_part 61 = .ok (.iconst 1, 1) := dX3_part_53g.2.2.2.2.1
theorem dX3_part_62 : decode cX3_part 62 = .ok (.iadd, 1) := dX3_part_53g.2.2.2.2.2.1
theorem dX3_part_63 : decode cX3_part 63 = .ok (.goto 7, 3) := dX3_part_53g.2.2.2.2.2.2.1
theorem dX3_part_66 : decode cX3_part 66 = .ok (.aload_n 0, 1) := dX3_part_53g.2.2.2.2.2.2.2.1
theorem dX3_part_67 : decode cX3_part 67 = .ok (.getfield 43, 3) := dX3_part_53g.2.2.2.2.2.2.2.2.1
theorem dX3_part_70 : decode cX3_part 70 = .ok (.invokevirtual 66, 3) := dX3_part_53g.2.2.2.2.2.2.2.2.2
theorem dX3_part_73g : (decode cX3_part 73 = .ok (.iload_n 2, 1)) ∧ (decode cX3_part 74 = .ok (.ireturn, 1)) ∧ (decode cX3_part 75 = .ok (.aload_n 0, 1)) ∧ (decode cX3_part 76 = .ok (.getfield 43, 3)) ∧ (decode cX3_part 79 = .ok (.ifCond .lt 27, 3)) ∧ (decode cX3_part 82 = .ok (.aload_n 0, 1)) ∧ (decode cX3_part 83 = .ok (.getfield 43, 3)) ∧ (decode cX3_part 86 = .ok (.aload_n 0, 1)) ∧ (decode cX3_part 87 = .ok (.getfield 27, 3)) ∧ (decode cX3_part 90 = .ok (.arraylength, 1)) := by decide +kernel
theorem dX3_part_73 : decode cX3_part 73 = .ok (.iload_n 2, 1) := dX3_part_73g.1
theorem dX3_part_74 : decode cX3_part 74 = .ok (.ireturn, 1) := dX3_part_73g.2.1
theorem dX3_part_75 : decode cX3_part 75 = .ok (.aload_n 0, 1) := dX3_part_73g.2.2.1
theorem dX3_part_76 : decode cX3_part 76 = .ok (.getfield 43, 3) := dX3_part_73g.2.2.2.1
theorem dX3_part_79 : decode cX3_part 79 = .ok (.ifCond .lt 27, 3) := dX3_part_73g.2.2.2.2.1
theorem dX3_part_82 : decode cX3_part 82 = .ok (.aload_n 0, 1) := dX3_part_73g.2.2.2.2.2.1
theorem dX3_part_83 : decode cX3_part 83 = .ok (.getfield 43, 3) := dX3_part_73g.2.2.2.2.2.2.1
theorem dX3_part_86 : decode cX3_part 86 = .ok (.aload_n 0, 1) := dX3_part_73g.2.2.2.2.2.2.2.1
theorem dX3_part_87 : decode cX3_part 87 = .ok (.getfield 27, 3) := dX3_part_73g.2.2.2.2.2.2.2.2.1
theorem dX3_part_90 : decode cX3_part 90 = .ok (.arraylength, 1) := dX3_part_73g.2.2.2.2.2.2.2.2.2
theorem dX3_part_91g : (decode cX3_part 91 = .ok (.if_icmp .ge 15, 3)) ∧ (decode cX3_part 94 = .ok (.aload_n 0, 1)) ∧ (decode cX3_part 95 = .ok (.getfield 27, 3)) ∧ (decode cX3_part 98 = .ok (.aload_n 0, 1)) ∧ (decode cX3_part 99 = .ok (.getfield 43, 3)) ∧ (decode cX3_part 102 = .ok (.iaload, 1)) ∧ (decode cX3_part 103 = .ok (.goto 4, 3)) ∧ (decode cX3_part 106 = .ok (.iconst 0, 1)) ∧ (decode cX3_part 107 = .ok (.istore_n 2, 1)) ∧ (decode cX3_part 108 = .ok (.aload_n 0, 1)) := by decide +kernel
theorem dX3_part_91 : decode cX3_part 91 = .ok (.if_icmp .ge 15, 3) := dX3_part_91g.1
theorem dX3_part_94 : decode cX3_part 94 = .ok (.aload_n 0, 1) := dX3_part_91g.2.1
theorem dX3_part_95 : decode cX3_part 95 = .ok (.getfield 27, 3) := dX3_part_91g.2.2.1
theorem dX3_part_98 : decode cX3_part 98 = .ok (.aload_n 0, 1) := dX3_part_91g.2.2.2.1
theorem dX3_part_99 : decode cX3_part 99 = .ok (.getfield 43, 3) := dX3_part_91g.2.2.2.2.1
theorem dX3_part_102 : decode cX3_part 102 = .ok (.iaload, 1) := dX3_part_91g.2.2.2.2.2.1
theorem dX3_part_103 : decode cX3_part 103 = .ok (.goto 4, 3) := dX3_part_91g.2.2.2.2.2.2.1
theorem dX3_part_106 : decode cX3_part 106 = .ok (.iconst 0, 1) := dX3_part_91g.2.2.2.2.2.2.2.1
theorem dX3_part_107 : decode cX3_part 107 = .ok (.istore_n 2, 1) := dX3_part_91g.2.2.2.2.2.2.2.2.1
theorem dX3_part_108 : decode cX3_part 108 = .ok (.aload_n 0, 1) := dX3_part_91g.2.2.2.2.2.2.2.2.2
theorem dX3_part_109g : (decode cX3_part 109 = .ok (.getfield 46, 3)) ∧ (decode cX3_part 112 = .ok (.bipush (-2), 2)) ∧ (decode cX3_part 114 = .ok (.if_icmp .ne 14, 3)) ∧ (decode cX3_part 117 = .ok (.iload_n 2, 1)) ∧ (decode cX3_part 118 = .ok (.sipush 1000, 3)) ∧ (decode cX3_part 121 = .ok (.if_icmp .gt 7, 3)) ∧ (decode cX3_part 124 = .ok (.iconst 1, 1)) ∧ (decode cX3_part 125 = .ok (.goto 4, 3)) ∧ (decode cX3_part 128 = .ok (.iconst 0, 1)) ∧ (decode cX3_part 129 = .ok (.istore_n 3, 1)) := by decide +kernel
theorem dX3_part_109 : decode cX3_part 109 = .ok (.getfield 46, 3) := dX3_part_109g.1
theorem dX3_part_112 : decode cX3_part 112 = .ok (.bipush (-2), 2) := dX3_part_109g.2.1
theorem dX3_part_114 : decode cX3_part 114 = .ok (.if_icmp .ne 14, 3) := dX3_part_109g.2.2.1
theorem dX3_part_117 : decode cX3_part 117 = .ok (.iload_n 2, 1) := dX3_part_109g.2.2.2.1
theorem dX3_part_118 : decode cX3_part 118 = .ok (.sipush 1000, 3) := dX3_part_109g.2.2.2.2.1
theorem dX3_part_121 : decode cX3_part 121 = .ok (.if_icmp .gt 7, 3) := dX3_part_109g.2.2.2.2.2.1
theorem dX3_part_124 : decode cX3_part 124 = .ok (.iconst 1, 1) := dX3_part_109g.2.2.2.2.2.2.1
theorem dX3_part_125 : decode cX3_part 125 = .ok (.goto 4, 3) := dX3_part_109g.2.2.2.2.2.2.2.1
theorem dX3_part_128 : decode cX3_part 128 = .ok (.iconst 0, 1) := dX3_part_109g.2.2.2.2.2.2.2.2.1
theorem dX3_part_129 : decode cX3_part 129 = .ok (.istore_n 3, 1) := dX3_part_109g.2.2.2.2.2.2.2.2.2
theorem dX3_part_130g : (decode cX3_part 130 = .ok (.aload_n 0, 1)) ∧ (decode cX3_part 131 = .ok (.getfield 37, 3)) ∧ (decode cX3_part 134 = .ok (.bipush 50, 2)) ∧ (decode cX3_part 136 = .ok (.if_icmp .ge 17, 3)) ∧ (decode cX3_part 139 = .ok (.iload_n 3, 1)) ∧ (decode cX3_part 140 = .ok (.ifCond .ne 15, 3)) ∧ (decode cX3_part 143 = .ok (.aload_n 0, 1)) ∧ (decode cX3_part 144 = .ok (.getfield 46, 3)) ∧ (decode cX3_part 147 = .ok (.sipush 264, 3)) ∧ (decode cX3_part 150 = .ok (.if_icmp .ge 5, 3)) := by decide +kernel
theorem dX3_part_130 : decode cX3_part 130 = .ok (.aload_n 0, 1) := dX3_part_130g.1
theorem dX3_part_131 : decode cX3_part 131 = .ok (.getfield 37, 3) := dX3_part_130g.2.1
theorem dX3_part_134 : decode cX3_part 134 = .ok (.bipush 50, 2) := dX3_part_130g.2.2.1
theorem dX3_part_136 : decode cX3_part 136 = .ok (.if_icmp .ge 17, 3) := dX3_part_130g.2.2.2.1
theorem dX3_part_139 : decode cX3_part 139 = .ok (.iload_n 3, 1) := dX3_part_130g.2.2.2.2.1
theorem dX3_part_140 : decode cX3_part 140 = .ok (.ifCond .ne 15, 3) := dX3_part_130g.2.2.2.2.2.1
theorem dX3_part_143 : decode cX3_part 143 = .ok (.aload_n 0, 1) := dX3_part_130g.2.2.2.2.2.2.1
theorem dX3_part_144 : decode cX3_part 144 = .ok (.getfield 46, 3) := dX3_part_130g.2.2.2.2.2.2.2.1
theorem dX3_part_147 : decode cX3_part 147 = .ok (.sipush 264, 3) := dX3_part_130g.2.2.2.2.2.2.2.2.1
theorem dX3_part_150 : decode cX3_part 150 = .ok (.if_icmp .ge 5, 3) := dX3_part_130g.2.2.2.2.2.2.2.2.2
theorem dX3_part_153g : (decode cX3_part 153 = .ok (.iconst 0, 1)) ∧ (decode cX3_part 154 = .ok (.ireturn, 1)) ∧ (decode cX3_part 155 = .ok (.aload_n 0, 1)) ∧ (decode cX3_part 156 = .ok (.iload_n 3, 1)) ∧ (decode cX3_part 157 = .ok (.ifCond .eq 7, 3)) ∧ (decode cX3_part 160 = .ok (.iconst 0, 1)) ∧ (decode cX3_part 161 = .ok (.goto 4, 3)) ∧ (decode cX3_part 164 = .ok (.iconst 1, 1)) ∧ (decode cX3_part 165 = .ok (.iload_n 3, 1)) ∧ (decode cX3_part 166 = .ok (.ifCond .eq 7, 3)) := by decide +kernel
theorem dX3_part_153 : decode cX3_part 153 = .ok (.iconst 0, 1) := dX3_part_153g.1
theorem dX3_part_154 : decode cX3_part 154 = .ok (.ireturn, 1) := dX3_part_153g.2.1
theorem dX3_part_155 : decode cX3_part 155 = .ok (.aload_n 0, 1) := dX3_part_153g.2.2.1
theorem dX3_part_156 : decode cX3_part 156 = .ok (.iload_n 3, 1) := dX3_part_153g.2.2.2.1
theorem dX3_part_157 : decode cX3_part 157 = .ok (.ifCond .eq 7, 3) := dX3_part_153g.2.2.2.2.1
theorem dX3_part_160 : decode cX3_part 160 = .ok (.iconst 0, 1) := dX3_part_153g.2.2.2.2.2.1
theorem dX3_part_161 : decode cX3_part 161 = .ok (.goto 4, 3) := dX3_part_153g.2.2.2.2.2.2.1
theorem dX3_part_164 : decode cX3_part 164 = .ok (.iconst 1, 1) := dX3_part_153g.2.2.2.2.2.2.2.1
theorem dX3_part_165 : decode cX3_part 165 = .ok (.iload_n 3, 1) := dX3_part_153g.2.2.2.2.2.2.2.2.1
theorem dX3_part_166 : decode cX3_part 166 = .ok (.ifCond .eq 7, 3) := dX3_part_153g.2.2.2.2.2.2.2.2.2
theorem dX3_part_169g : (decode cX3_part 169 = .ok (.iload_n 2, 1)) ∧ (decode cX3_part 170 = .ok (.goto 11, 3)) ∧ (decode cX3_part 173 = .ok (.aload_n 0, 1)) ∧ (decode cX3_part 174 = .ok (.getfield 46, 3)) ∧ (decode cX3_part 177 = .ok (.sipush 264, 3)) ∧ (decode cX3_part 180 = .ok (.isub, 1)) ∧ (decode cX3_part 181 = .ok (.invokevirtual 109, 3)) ∧ (decode cX3_part 184 = .ok (.pop, 1)) ∧ (decode cX3_part 185 = .ok (.aload_n 0, 1)) ∧ (decode cX3_part 186 = .ok (.dup, 1)) := by decide +kernel
theorem dX3_part_169 : decode cX3_part 169 = .ok (.iload_n 2, 1) := dX3_part_169g.1
theorem dX3_part_170 : decode cX3_part 170 = .ok (.goto 11, 3) := dX3_part_169g.2.1
theorem dX3_part_173 : decode cX3_part 173 = .ok (.aload_n 0, 1) := dX3_part_169g.2.2.1
theorem dX3_part_174 : decode cX3_part 174 = .ok (.getfield 46, 3) := dX3_part_169g.2.2.2.1
theorem dX3_part_177 : decode cX3_part 177 = .ok (.sipush 264, 3) := dX3_part_169g.2.2.2.2.1
theorem dX3_part_180 : decode cX3_part 180 = .ok (.isub, 1) := dX3_part_169g.2.2.2.2.2.1
theorem dX3_part_181 : decode cX3_part 181 = .ok (.invokevirtual 109, 3) := dX3_part_169g.2.2.2.2.2.2.1
theorem dX3_part_184 : decode cX3_part 184 = .ok (.pop, 1) := dX3_part_169g.2.2.2.2.2.2.2.1
theorem dX3_part_185 : decode cX3_part 185 = .ok (.aload_n 0, 1) := dX3_part_169g.2.2.2.2.2.2.2.2.1
theorem dX3_part_186 : decode cX3_part 186 = .ok (.dup, 1) := dX3_part_169g.2.2.2.2.2.2.2.2.2
theorem dX3_part_187g : (decode cX3_part 187 = .ok (.getfield 37, 3)) ∧ (decode cX3_part 190 = .ok (.iconst 1, 1)) ∧ (decode cX3_part 191 = .ok (.iadd, 1)) ∧ (decode cX3_part 192 = .ok (.putfield 37, 3)) ∧ (decode cX3_part 195 = .ok (.aload_n 0, 1)) ∧ (decode cX3_part 196 = .ok (.aload_n 0, 1)) ∧ (decode cX3_part 197 = .ok (.getfield 43, 3)) ∧ (decode cX3_part 200 = .ok (.iconst 1, 1)) ∧ (decode cX3_part 201 = .ok (.iadd, 1)) ∧ (decode cX3_part 202 = .ok (.invokevirtual 66, 3)) := by decide +kernel
theorem dX3_part_187 : decode cX3_part 187 = .ok (.getfield 37, 3) := dX3_part_187g.1
theorem dX3_part_190 : decode cX3_part 190 = .ok (.iconst 1, 1) := dX3_part_187g.2.1
theorem dX3_part_191 : decode cX3_part 191 = .ok (.iadd, 1) := dX3_part_187g.2.2.1
theorem dX3_part_192 : decode cX3_part 192 = .ok (.putfield 37, 3) := dX3_part_187g.2.2.2.1
theorem dX3_part_195 : decode cX3_part 195 = .ok (.aload_n 0, 1) := dX3_part_187g.2.2.2.2.1
theorem dX3_part_196 : decode cX3_part 196 = .ok (.aload_n 0, 1) := dX3_part_187g.2.2.2.2.2.1
theorem dX3_part_197 : decode cX3_part 197 = .ok (.getfield 43, 3) := dX3_part_187g.2.2.2.2.2.2.1
theorem dX3_part_200 : decode cX3_part 200 = .ok (.iconst 1, 1) := dX3_part_187g.2.2.2.2.2.2.2.1
theorem dX3_part_201 : decode cX3_part 201 = .ok (.iadd, 1) := dX3_part_187g.2.2.2.2.2.2.2.2.1
theorem dX3_part_202 : decode cX3_part 202 = .ok (.invokevirtual 66, 3) := dX3_part_187g.2.2.2.2.2.2.2.2.2
theorem dX3_part_205g : (decode cX3_part 205 = .ok (.iconst 1, 1)) ∧ (decode cX3_part 206 = .ok (.ireturn, 1)) := by decide +kernel
theorem dX3_part_205 : decode cX3_part 205 = .ok (.iconst 1, 1) := dX3_part_205g.1
theorem dX3_part_206 : decode cX3_part 206 = .ok (.ireturn, 1) := dX3_part_205g.2
set_option maxHeartbeats 4000000 in
set_option maxRecDepth 100000 in
theorem c_X3_part (l : Launch) (E : Nat → Nat) (D : va_G) (G : th_G) (k : Nat) : ∀ (h0 : Nat) (hG0 : G h0 = some (7, 12)) (x1 : Int32) (ft fp fn : Nat → Int32) (TT pp nc LL : Nat) (ZZ : Nat → Int) (YY : Nat → Bool) (nk : Nat) (XX : Nat × Bool) (hTK : TK ft fn TT ZZ YY) (dd : Nat) (hdd : x1.toInt = (dd : Int)) (hd8 : dd ≤ 8) (hk : 8 ≤ dd + k) (fl : List Nat) (hdp : pd_dp (fl) = dd) (hpd : pd_R ZZ YY TT (1, fl, nk, LL) pp = XX), Met l yX3_part (tb (.code yX3_part cX3_part 4 (some .boolean))) (rm (2 + 2 * k)) (va_Pc [.ref h0, .int x1] (PCx E D G (fun H => RC E D G h0 ft fp fn TT pp nc LL H))) (QCi E D G (fun r H => ((r : Int32) = 1 ∧ ∃ p2 L2 : Nat, RC E D G h0 ft fp fn TT p2 nc L2 H ∧ pp + 1 ≤ p2 ∧ pd_R ZZ YY TT (2, fl, nk, L2) p2 = XX) ∨ ((r : Int32) = 0 ∧ ∃ p2 L2 : Nat, RC E D G h0 ft fp fn TT p2 nc L2 H ∧ pp ≤ p2 ∧ XX = (p2, false)))) 0 0 (th_A G) := by
  induction k using Nat.strongRecOn with
  | ind k ih =>
  intro h0 hG0 x1 ft fp fn TT pp nc LL ZZ YY nk XX hTK dd hdd hd8 hk fl hdp hpd
  refine Met.ofW (cc := cX3_part) (maxL := 4) (ret := (some .boolean)) (by decide) rfl ?_
  intro p e s m args below meth c s₁ B hml hv
  obtain ⟨hav, ⟨hI, hN, hK⟩, hX⟩ := hv
  have hx := B.exec
  have hb := B.bytes
  have hr := B.returns
  have hts := atoms_spec (ws := tb (.code yX3_part cX3_part 4 (some .boolean))) B.pre
  have hown : s.vm.findClass RX3 = some m.cls := findClass_of_methodNamed B.named
  have hlocks := B.notSynchronized
  have hS : va_S (th_A G) s.heap s.heap [] := va_S.rf
  have hl := lv_entry ([.ref h0, .int x1]) (n := 4) (Nat.le_of_ble_eq_true rfl)
  rw [show entryFrame m args 4 = entryFrame m ([.ref h0, .int x1] : List Value).toArray 4 from by rw [hav], lg_entry_eq]
  generalize (lg_sl ([.ref h0, .int x1]) ++ List.replicate (4 - (lg_sl ([.ref h0, .int x1])).length) Slot.unset).toArray = ls at hl ⊢
  have hl : lv_has ls 4 [(0, .ref h0), (1, .int x1)] := hl
  generalize hR : (headSpec (tb (.code yX3_part cX3_part 4 (some .boolean))) (rm (2 + 2 * k))).room = R
  have hR := hR.symm
  generalize hQ : MQ below (QCi E D G (fun r H => ((r : Int32) = 1 ∧ ∃ p2 L2 : Nat, RC E D G h0 ft fp fn TT p2 nc L2 H ∧ pp + 1 ≤ p2 ∧ pd_R ZZ YY TT (2, fl, nk, L2) p2 = XX) ∨ ((r : Int32) = 0 ∧ ∃ p2 L2 : Nat, RC E D G h0 ft fp fn TT p2 nc L2 H ∧ pp ≤ p2 ∧ XX = (p2, false)))) args s 0 0 (th_A G) = QF
  have hQ := hQ.symm
  obtain ⟨hT4, hn12, ⟨a1, hf2, hq3, hA4⟩, ⟨a5, hf6, hq7, hA8⟩, ⟨a9, hf10, hq11, hA12⟩, ⟨w13, hg14, k15⟩, ⟨w16, hg17, k18⟩, ⟨w19, hg20, k21⟩, hpT, ⟨w22, hg23, k24⟩, ⟨w25, hg26, k27⟩⟩ := hX
  have k28 := iv_lo w19
  have k29 := iv_hi w19
  have k30 := TK.at hTK hpT
  refine lv_aload_n hx hb dX3_part_0 rfl (lv_at hl 0 rfl) ?_
  refine gmIC hx hb hts inT3 hown hK hI List.not_mem_nil hG0 11 (by decide) (hts _ (tb_c wd_140)) rfl rfl dX3_part_1 (fun w31 hg32 k33 k34 => ?_)
  obtain rfl := gfC.uniq (by decide) hg26 hg32
  refine lv_bipush (v := 91) hx hb dX3_part_4 (by decide) ?_
  have k35 := iv_lo w25
  have k36 := iv_hi w25
  refine lv_icmp_ne (tgt := 75) hx hb dX3_part_6 (by decide) (fun c37 => ?_) (fun c37 => ?_)
  · skip
    have k38 := iv_ne (X := w25.toInt) (Y := (91)) rfl (by decide) c37
    refine lv_aload_n hx hb dX3_part_75 rfl (lv_at hl 0 rfl) ?_
    refine gmIC hx hb hts inT3 hown hK hI List.not_mem_nil hG0 10 (by decide) (hts _ (tb_c wd_139)) rfl rfl dX3_part_76 (fun w39 hg40 k41 k42 => ?_)
    obtain rfl := gfC.uniq (by decide) hg23 hg40
    refine lv_if_lt (tgt := 106) hx hb dX3_part_79 (by decide) (fun c43 => ?_) (fun c43 => ?_)
    · skip
      have k44 := iv_lt (X := w22.toInt) (Y := (0)) rfl (by decide) c43
      exfalso; omega
    · skip
      have k45 := iv_nlt (X := w22.toInt) (Y := (0)) rfl (by decide) c43
      refine lv_aload_n hx hb dX3_part_82 rfl (lv_at hl 0 rfl) ?_
      refine gmIC hx hb hts inT3 hown hK hI List.not_mem_nil hG0 10 (by decide) (hts _ (tb_c wd_139)) rfl rfl dX3_part_83 (fun w46 hg47 k48 k49 => ?_)
      obtain rfl := gfC.uniq (by decide) hg23 hg47
      refine lv_aload_n hx hb dX3_part_86 rfl (lv_at hl 0 rfl) ?_
      refine gmAC hx hb hts inT3 hown hK hI List.not_mem_nil hG0 5 (by decide) (hts _ (tb_c wd_134)) rfl rfl dX3_part_87 (fun a50 hq51 hf52 => ?_)
      obtain rfl := frC.uniq (by decide) hf10 hf52
      refine va_alen hx hb hK (th_one hA12) 0 0 rfl (v := 401) rfl (show Int32.ofNat 401 = (401 : Int32) from by decide) dX3_part_90 ?_
      refine lv_icmp_ge (tgt := 106) hx hb dX3_part_91 (by decide) (fun c53 => ?_) (fun c53 => ?_)
      · skip
        have k54 := iv_le (X := (401)) (Y := w22.toInt) (by decide) rfl c53
        exfalso; omega
      · skip
        have k55 := iv_nle (X := (401)) (Y := w22.toInt) (by decide) rfl c53
        refine lv_aload_n hx hb dX3_part_94 rfl (lv_at hl 0 rfl) ?_
        refine gmAC hx hb hts inT3 hown hK hI List.not_mem_nil hG0 5 (by decide) (hts _ (tb_c wd_134)) rfl rfl dX3_part_95 (fun a56 hq57 hf58 => ?_)
        obtain rfl := frC.uniq (by decide) hf10 hf58
        refine lv_aload_n hx hb dX3_part_98 rfl (lv_at hl 0 rfl) ?_
        refine gmIC hx hb hts inT3 hown hK hI List.not_mem_nil hG0 10 (by decide) (hts _ (tb_c wd_139)) rfl rfl dX3_part_99 (fun w59 hg60 k61 k62 => ?_)
        obtain rfl := gfC.uniq (by decide) hg23 hg60
        refine th_iald hx hb hK hA12 0 rfl (iv_in (X := w22.toInt) rfl (by omega) (by omega)) dX3_part_102 (fun v63 e64 => ?_)
        have k65 := rd_at (p := pp) e64 (by omega)
        refine lv_goto (tgt := 107) hx hb dX3_part_103 (by decide) ?_
        refine lv_istore_n (lv' := [(2, .int v63), (0, .ref h0), (1, .int x1)]) hx hb dX3_part_107 rfl hl (by decide) rfl (fun ls hl => ?_)
        refine lv_aload_n hx hb dX3_part_108 rfl (lv_at hl 1 rfl) ?_
        refine gmIC hx hb hts inT3 hown hK hI List.not_mem_nil hG0 11 (by decide) (hts _ (tb_c wd_140)) rfl rfl dX3_part_109 (fun w66 hg67 k68 k69 => ?_)
        obtain rfl := gfC.uniq (by decide) hg26 hg67
        refine lv_bipush (v := (-2)) hx hb dX3_part_112 (by decide) ?_
        refine lv_icmp_ne (tgt := 128) hx hb dX3_part_114 (by decide) (fun c70 => ?_) (fun c70 => ?_)
        · skip
          have k71 := iv_ne (X := w25.toInt) (Y := (-2)) rfl (by decide) c70
          refine lv_iconst (v := 0) hx hb dX3_part_128 (by decide) ?_
          refine lv_istore_n (lv' := [(3, .int 0), (2, .int v63), (0, .ref h0), (1, .int x1)]) hx hb dX3_part_129 rfl hl (by decide) rfl (fun ls hl => ?_)
          refine lv_aload_n hx hb dX3_part_130 rfl (lv_at hl 2 rfl) ?_
          refine gmIC hx hb hts inT3 hown hK hI List.not_mem_nil hG0 8 (by decide) (hts _ (tb_c wd_137)) rfl rfl dX3_part_131 (fun w72 hg73 k74 k75 => ?_)
          obtain rfl := gfC.uniq (by decide) hg20 hg73
          refine lv_bipush (v := 50) hx hb dX3_part_134 (by decide) ?_
          refine lv_icmp_ge (tgt := 153) hx hb dX3_part_136 (by decide) (fun c76 => ?_) (fun c76 => ?_)
          · skip
            have k77 := iv_le (X := (50)) (Y := w19.toInt) (by decide) rfl c76
            refine lv_iconst (v := 0) hx hb dX3_part_153 (by decide) ?_
            have hpost : ((0 : Int32) = 1 ∧ ∃ p2 L2 : Nat, RC E D G h0 ft fp fn TT p2 nc L2 s.heap ∧ pp + 1 ≤ p2 ∧ pd_R ZZ YY TT (2, fl, nk, L2) p2 = XX) ∨ ((0 : Int32) = 0 ∧ ∃ p2 L2 : Nat, RC E D G h0 ft fp fn TT p2 nc L2 s.heap ∧ pp ≤ p2 ∧ XX = (p2, false)) := Or.inr ⟨rfl, pp, LL, ⟨by omega, by omega, ⟨a1, hf2, hq3, hA4⟩, ⟨a5, hf6, hq7, hA8⟩, ⟨a9, hf10, hq11, hA12⟩, ⟨w13, hg14, by first | omega | decide⟩, ⟨w16, hg17, by first | omega | decide⟩, ⟨w19, hg20, by first | omega | decide⟩, by omega, ⟨w22, hg23, by first | omega | decide⟩, ⟨w25, hg26, by first | omega | decide⟩⟩, by omega, (hpd.symm.trans (pd_E_no (fun _ h => by omega) (fun h9 h => by rcases h with ⟨h, hy⟩ | h <;> first | omega | (have := (TK.y hTK h9).mp hy; omega))))⟩
            rw [hQ]
            exact W.zret (v := 0) hx hb hr (by decide) (fun t ht hW => ⟨⟨0, 0, rfl, rfl, ⟨by rw [ht]; exact hI, hN.warm hW, va_K.moved hW.alike hK⟩, by first | (rw [ht]; exact hpost) | exact hpost⟩, hS.F ht⟩) hS.2.2 dX3_part_154
          · skip
            have k78 := iv_nle (X := (50)) (Y := w19.toInt) (by decide) rfl c76
            refine lv_iload_n hx hb dX3_part_139 rfl (lv_at hl 0 rfl) ?_
            refine lv_if_ne (tgt := 155) hx hb dX3_part_140 (by decide) (fun c => absurd c (by decide)) (fun _ => ?_)
            refine lv_aload_n hx hb dX3_part_143 rfl (lv_at hl 2 rfl) ?_
            refine gmIC hx hb hts inT3 hown hK hI List.not_mem_nil hG0 11 (by decide) (hts _ (tb_c wd_140)) rfl rfl dX3_part_144 (fun w79 hg80 k81 k82 => ?_)
            obtain rfl := gfC.uniq (by decide) hg26 hg80
            refine lv_sipush (v := 264) hx hb dX3_part_147 (by decide) ?_
            refine lv_icmp_ge (tgt := 155) hx hb dX3_part_150 (by decide) (fun c83 => ?_) (fun c83 => ?_)
            · skip
              have k84 := iv_le (X := (264)) (Y := w25.toInt) (by decide) rfl c83
              refine lv_aload_n hx hb dX3_part_155 rfl (lv_at hl 2 rfl) ?_
              refine lv_iload_n hx hb dX3_part_156 rfl (lv_at hl 0 rfl) ?_
              refine lv_if_eq (tgt := 164) hx hb dX3_part_157 (by decide) (fun _ => ?_) (fun c => absurd c (by decide))
              refine lv_iconst (v := 1) hx hb dX3_part_164 (by decide) ?_
              refine lv_iload_n hx hb dX3_part_165 rfl (lv_at hl 0 rfl) ?_
              refine lv_if_eq (tgt := 173) hx hb dX3_part_166 (by decide) (fun _ => ?_) (fun c => absurd c (by decide))
              refine lv_aload_n hx hb dX3_part_173 rfl (lv_at hl 2 rfl) ?_
              refine gmIC hx hb hts inT3 hown hK hI List.not_mem_nil hG0 11 (by decide) (hts _ (tb_c wd_140)) rfl rfl dX3_part_174 (fun w85 hg86 k87 k88 => ?_)
              obtain rfl := gfC.uniq (by decide) hg26 hg86
              refine lv_sipush (v := 264) hx hb dX3_part_177 (by decide) ?_
              refine lv_isub hx hb dX3_part_180 ?_
              refine lv_topi (fun v89 e90 => ?_)
              have tv89 : v89.toInt = w25.toInt - (264) := iv_sub rfl (by decide) e90 (by omega) (by omega)
              refine nx_i (As := [.int 1, .int v89]) (rest := []) (n := 2) (d := 0) ⟨hx, hb, hml, hown, hts⟩ (c_X3_emit l E D G h0 hG0 1 v89 ft fp fn TT pp nc LL) wd_723 wd_725 wp_17 wd_5 wd_726 (by decide +kernel) ⟨by rw [hR]; show 0 + 1 ≤ 2 + 2 * k; omega, by rw [hR]; show 8 + (3 + 11) + 40 * (0) ≤ 40 * (2 + 2 * k); omega⟩ hI hN hK hS hG0 (⟨by omega, by omega, ⟨a1, hf2, hq3, hA4⟩, ⟨a5, hf6, hq7, hA8⟩, ⟨a9, hf10, hq11, hA12⟩, ⟨w13, hg14, by first | omega | decide⟩, ⟨w16, hg17, by first | omega | decide⟩, ⟨w19, hg20, by first | omega | decide⟩, by omega, ⟨w22, hg23, by first | omega | decide⟩, ⟨w25, hg26, by first | omega | decide⟩⟩) rfl hl.1 rfl (Nat.le_of_ble_eq_true rfl) dX3_part_181 ⟨Nat.zero_le _, Nat.zero_le _⟩ (fun r91 H locs hI hp hS => ?_)
              obtain ⟨hT4, hn12, ⟨a92, hf93, hq94, hA95⟩, ⟨a96, hf97, hq98, hA99⟩, ⟨a100, hf101, hq102, hA103⟩, ⟨w104, hg105, k106⟩, ⟨w107, hg108, k109⟩, ⟨w110, hg111, k112⟩, hpT, ⟨w113, hg114, k115⟩, ⟨w116, hg117, k118⟩⟩ := hp
              have k119 := iv_lo w110
              have k120 := iv_hi w110
              have k121 := TK.at hTK hpT
              refine lv_pop hx hb dX3_part_184 rfl ?_
              refine lv_aload_n hx hb dX3_part_185 rfl (lv_at hl 2 rfl) ?_
              refine lv_dup hx hb dX3_part_186 rfl ?_
              refine gmIC hx hb hts inT3 hown hK hI List.not_mem_nil hG0 8 (by decide) (hts _ (tb_c wd_137)) rfl rfl dX3_part_187 (fun w122 hg123 k124 k125 => ?_)
              obtain rfl := gfC.uniq (by decide) hg111 hg123
              refine lv_iconst (v := 1) hx hb dX3_part_190 (by decide) ?_
              refine lv_iadd hx hb dX3_part_191 ?_
              refine lv_topi (fun v126 e127 => ?_)
              try have tv126 : v126.toInt = w110.toInt + (1) := iv_add rfl (by decide) e127 (by omega) (by omega)
              have k128 := iv_lo v126
              have k129 := iv_hi v126
              refine pmIC (ty := .int) hx hb hts inT3 hown hK hI List.not_mem_nil hG0 hS ⟨_, hG0⟩ 8 (by decide) (hts _ (tb_c wd_137)) rfl rfl (by decide +kernel) rfl rfl rfl (by omega) (by omega) dX3_part_192 (fun H locs hI hgP hS => ?_)
              have hg105 := hgP.2.2.1 6 _ (by decide) (by decide) hg105
              have hg108 := hgP.2.2.1 7 _ (by decide) (by decide) hg108
              have hg114 := hgP.2.2.1 10 _ (by decide) (by decide) hg114
              have hg117 := hgP.2.2.1 11 _ (by decide) (by decide) hg117
              have hg130 := hgP.2.1
              have hf93 := hgP.2.2.2 3 _ (by decide) (by decide) hf93
              have hf97 := hgP.2.2.2 4 _ (by decide) (by decide) hf97
              have hf101 := hgP.2.2.2 5 _ (by decide) (by decide) hf101
              have hA95 := va_at.kept hA95 (hgP.1 _ (m_ne hq94 hG0 (by first | decide | (dsimp only; decide))))
              have hA99 := va_at.kept hA99 (hgP.1 _ (m_ne hq98 hG0 (by first | decide | (dsimp only; decide))))
              have hA103 := va_at.kept hA103 (hgP.1 _ (m_ne hq102 hG0 (by first | decide | (dsimp only; decide))))
              refine lv_aload_n hx hb dX3_part_195 rfl (lv_at hl 2 rfl) ?_
              refine lv_aload_n hx hb dX3_part_196 rfl (lv_at hl 2 rfl) ?_
              refine gmIC hx hb hts inT3 hown hK hI List.not_mem_nil hG0 10 (by decide) (hts _ (tb_c wd_139)) rfl rfl dX3_part_197 (fun w131 hg132 k133 k134 => ?_)
              obtain rfl := gfC.uniq (by decide) hg114 hg132
              refine lv_iconst (v := 1) hx hb dX3_part_200 (by decide) ?_
              refine lv_iadd hx hb dX3_part_201 ?_
              refine lv_topi (fun v135 e136 => ?_)
              have tv135 : v135.toInt = w113.toInt + (1) := iv_add rfl (by decide) e136 (by omega) (by omega)
              have hpd137 : pd_R ZZ YY TT (2, fl, nk, LL + 1) (pp + 1) = XX := (pd_E_lf (by omega) (by first | exact Or.inr ⟨by omega, by omega⟩ | exact Or.inl ⟨by omega, (TK.y hTK (by omega)).mpr (by omega)⟩) (by omega)).symm.trans hpd
              refine nx_v (As := [.int v135]) (rest := []) (n := 1) (d := 0) ⟨hx, hb, hml, hown, hts⟩ (c_X3_moveTo l E D G h0 hG0 v135 ft fp fn TT (pp + 1) nc (LL + 1) (by first | omega | decide) (by omega)) wd_707 wd_709 wp_13 wd_5 wd_710 (by decide +kernel) ⟨by rw [hR]; show 0 + 1 ≤ 2 + 2 * k; omega, by rw [hR]; show 8 + (2 + 11) + 40 * (0) ≤ 40 * (2 + 2 * k); omega⟩ hI hN hK hS hG0 (⟨by omega, by omega, ⟨a92, hf93, hq94, hA95⟩, ⟨a96, hf97, hq98, hA99⟩, ⟨a100, hf101, hq102, hA103⟩, ⟨w104, hg105, by first | omega | decide⟩, ⟨w107, hg108, by first | omega | decide⟩, ⟨v126, hg130, by first | omega | decide⟩⟩) rfl hl.1 rfl (Nat.le_of_ble_eq_true rfl) dX3_part_202 ⟨Nat.zero_le _, Nat.zero_le _⟩ (fun H locs hI hp hS => ?_)
              obtain ⟨hT4, hn12, ⟨a139, hf140, hq141, hA142⟩, ⟨a143, hf144, hq145, hA146⟩, ⟨a147, hf148, hq149, hA150⟩, ⟨w151, hg152, k153⟩, ⟨w154, hg155, k156⟩, ⟨w157, hg158, k159⟩, hpT, ⟨w160, hg161, k162⟩, ⟨w163, hg164, k165⟩⟩ := hp
              have k166 := iv_lo w157
              have k167 := iv_hi w157
              have k168 := TK.at hTK hpT
              refine lv_iconst (v := 1) hx hb dX3_part_205 (by decide) ?_
              have hpost : ((1 : Int32) = 1 ∧ ∃ p2 L2 : Nat, RC E D G h0 ft fp fn TT p2 nc L2 H ∧ pp + 1 ≤ p2 ∧ pd_R ZZ YY TT (2, fl, nk, L2) p2 = XX) ∨ ((1 : Int32) = 0 ∧ ∃ p2 L2 : Nat, RC E D G h0 ft fp fn TT p2 nc L2 H ∧ pp ≤ p2 ∧ XX = (p2, false)) := Or.inl ⟨rfl, (pp + 1), (LL + 1), ⟨by omega, by omega, ⟨a139, hf140, hq141, hA142⟩, ⟨a143, hf144, hq145, hA146⟩, ⟨a147, hf148, hq149, hA150⟩, ⟨w151, hg152, by first | omega | decide⟩, ⟨w154, hg155, by first | omega | decide⟩, ⟨w157, hg158, by first | omega | decide⟩, by omega, ⟨w160, hg161, by first | omega | decide⟩, ⟨w163, hg164, by first | omega | decide⟩⟩, by omega, hpd137⟩
              rw [hQ]
              exact W.zret (v := 1) hx hb hr (by decide) (fun t ht hW => ⟨⟨1, 1, rfl, rfl, ⟨by rw [ht]; exact hI, hN.warm hW, va_K.moved hW.alike hK⟩, by first | (rw [ht]; exact hpost) | exact hpost⟩, hS.F ht⟩) hS.2.2 dX3_part_206
            · skip
              have k169 := iv_nle (X := (264)) (Y := w25.toInt) (by decide) rfl c83
              refine lv_iconst (v := 0) hx hb dX3_part_153 (by decide) ?_
              have hpost : ((0 : Int32) = 1 ∧ ∃ p2 L2 : Nat, RC E D G h0 ft fp fn TT p2 nc L2 s.heap ∧ pp + 1 ≤ p2 ∧ pd_R ZZ YY TT (2, fl, nk, L2) p2 = XX) ∨ ((0 : Int32) = 0 ∧ ∃ p2 L2 : Nat, RC E D G h0 ft fp fn TT p2 nc L2 s.heap ∧ pp ≤ p2 ∧ XX = (p2, false)) := Or.inr ⟨rfl, pp, LL, ⟨by omega, by omega, ⟨a1, hf2, hq3, hA4⟩, ⟨a5, hf6, hq7, hA8⟩, ⟨a9, hf10, hq11, hA12⟩, ⟨w13, hg14, by first | omega | decide⟩, ⟨w16, hg17, by first | omega | decide⟩, ⟨w19, hg20, by first | omega | decide⟩, by omega, ⟨w22, hg23, by first | omega | decide⟩, ⟨w25, hg26, by first | omega | decide⟩⟩, by omega, (hpd.symm.trans (pd_E_no (fun _ h => by omega) (fun h9 h => by rcases h with ⟨h, hy⟩ | h <;> first | omega | (have := (TK.y hTK h9).mp hy; omega))))⟩
              rw [hQ]
              exact W.zret (v := 0) hx hb hr (by decide) (fun t ht hW => ⟨⟨0, 0, rfl, rfl, ⟨by rw [ht]; exact hI, hN.warm hW, va_K.moved hW.alike hK⟩, by first | (rw [ht]; exact hpost) | exact hpost⟩, hS.F ht⟩) hS.2.2 dX3_part_154
        · skip
          have k170 := iv_eq (X := w25.toInt) (Y := (-2)) rfl (by decide) c70
          refine lv_iload_n hx hb dX3_part_117 rfl (lv_at hl 0 rfl) ?_
          refine lv_sipush (v := 1000) hx hb dX3_part_118 (by decide) ?_
          have k171 := iv_lo v63
          have k172 := iv_hi v63
          refine lv_icmp_gt (tgt := 128) hx hb dX3_part_121 (by decide) (fun c173 => ?_) (fun c173 => ?_)
          · skip
            have k174 := iv_lt (X := (1000)) (Y := v63.toInt) (by decide) rfl c173
            refine lv_iconst (v := 0) hx hb dX3_part_128 (by decide) ?_
            refine lv_istore_n (lv' := [(3, .int 0), (2, .int v63), (0, .ref h0), (1, .int x1)]) hx hb dX3_part_129 rfl hl (by decide) rfl (fun ls hl => ?_)
            refine lv_aload_n hx hb dX3_part_130 rfl (lv_at hl 2 rfl) ?_
            refine gmIC hx hb hts inT3 hown hK hI List.not_mem_nil hG0 8 (by decide) (hts _ (tb_c wd_137)) rfl rfl dX3_part_131 (fun w175 hg176 k177 k178 => ?_)
            obtain rfl := gfC.uniq (by decide) hg20 hg176
            refine lv_bipush (v := 50) hx hb dX3_part_134 (by decide) ?_
            refine lv_icmp_ge (tgt := 153) hx hb dX3_part_136 (by decide) (fun c179 => ?_) (fun c179 => ?_)
            · skip
              have k180 := iv_le (X := (50)) (Y := w19.toInt) (by decide) rfl c179
              refine lv_iconst (v := 0) hx hb dX3_part_153 (by decide) ?_
              have hpost : ((0 : Int32) = 1 ∧ ∃ p2 L2 : Nat, RC E D G h0 ft fp fn TT p2 nc L2 s.heap ∧ pp + 1 ≤ p2 ∧ pd_R ZZ YY TT (2, fl, nk, L2) p2 = XX) ∨ ((0 : Int32) = 0 ∧ ∃ p2 L2 : Nat, RC E D G h0 ft fp fn TT p2 nc L2 s.heap ∧ pp ≤ p2 ∧ XX = (p2, false)) := Or.inr ⟨rfl, pp, LL, ⟨by omega, by omega, ⟨a1, hf2, hq3, hA4⟩, ⟨a5, hf6, hq7, hA8⟩, ⟨a9, hf10, hq11, hA12⟩, ⟨w13, hg14, by first | omega | decide⟩, ⟨w16, hg17, by first | omega | decide⟩, ⟨w19, hg20, by first | omega | decide⟩, by omega, ⟨w22, hg23, by first | omega | decide⟩, ⟨w25, hg26, by first | omega | decide⟩⟩, by omega, (hpd.symm.trans (pd_E_no (fun _ h => by omega) (fun h9 h => by rcases h with ⟨h, hy⟩ | h <;> first | omega | (have := (TK.y hTK h9).mp hy; omega))))⟩
              rw [hQ]
              exact W.zret (v := 0) hx hb hr (by decide) (fun t ht hW => ⟨⟨0, 0, rfl, rfl, ⟨by rw [ht]; exact hI, hN.warm hW, va_K.moved hW.alike hK⟩, by first | (rw [ht]; exact hpost) | exact hpost⟩, hS.F ht⟩) hS.2.2 dX3_part_154
            · skip
              have k181 := iv_nle (X := (50)) (Y := w19.toInt) (by decide) rfl c179
              refine lv_iload_n hx hb dX3_part_139 rfl (lv_at hl 0 rfl) ?_
              refine lv_if_ne (tgt := 155) hx hb dX3_part_140 (by decide) (fun c => absurd c (by decide)) (fun _ => ?_)
              refine lv_aload_n hx hb dX3_part_143 rfl (lv_at hl 2 rfl) ?_
              refine gmIC hx hb hts inT3 hown hK hI List.not_mem_nil hG0 11 (by decide) (hts _ (tb_c wd_140)) rfl rfl dX3_part_144 (fun w182 hg183 k184 k185 => ?_)
              obtain rfl := gfC.uniq (by decide) hg26 hg183
              refine lv_sipush (v := 264) hx hb dX3_part_147 (by decide) ?_
              refine lv_icmp_ge (tgt := 155) hx hb dX3_part_150 (by decide) (fun c186 => ?_) (fun c186 => ?_)
              · skip
                have k187 := iv_le (X := (264)) (Y := w25.toInt) (by decide) rfl c186
                exfalso; omega
              · skip
                have k188 := iv_nle (X := (264)) (Y := w25.toInt) (by decide) rfl c186
                refine lv_iconst (v := 0) hx hb dX3_part_153 (by decide) ?_
                have hpost : ((0 : Int32) = 1 ∧ ∃ p2 L2 : Nat, RC E D G h0 ft fp fn TT p2 nc L2 s.heap ∧ pp + 1 ≤ p2 ∧ pd_R ZZ YY TT (2, fl, nk, L2) p2 = XX) ∨ ((0 : Int32) = 0 ∧ ∃ p2 L2 : Nat, RC E D G h0 ft fp fn TT p2 nc L2 s.heap ∧ pp ≤ p2 ∧ XX = (p2, false)) := Or.inr ⟨rfl, pp, LL, ⟨by omega, by omega, ⟨a1, hf2, hq3, hA4⟩, ⟨a5, hf6, hq7, hA8⟩, ⟨a9, hf10, hq11, hA12⟩, ⟨w13, hg14, by first | omega | decide⟩, ⟨w16, hg17, by first | omega | decide⟩, ⟨w19, hg20, by first | omega | decide⟩, by omega, ⟨w22, hg23, by first | omega | decide⟩, ⟨w25, hg26, by first | omega | decide⟩⟩, by omega, (hpd.symm.trans (pd_E_no (fun _ h => by omega) (fun h9 h => by rcases h with ⟨h, hy⟩ | h <;> first | omega | (have := (TK.y hTK h9).mp hy; omega))))⟩
                rw [hQ]
                exact W.zret (v := 0) hx hb hr (by decide) (fun t ht hW => ⟨⟨0, 0, rfl, rfl, ⟨by rw [ht]; exact hI, hN.warm hW, va_K.moved hW.alike hK⟩, by first | (rw [ht]; exact hpost) | exact hpost⟩, hS.F ht⟩) hS.2.2 dX3_part_154
          · skip
            have k189 := iv_nlt (X := (1000)) (Y := v63.toInt) (by decide) rfl c173
            refine lv_iconst (v := 1) hx hb dX3_part_124 (by decide) ?_
            refine lv_goto (tgt := 129) hx hb dX3_part_125 (by decide) ?_
            refine lv_istore_n (lv' := [(3, .int 1), (2, .int v63), (0, .ref h0), (1, .int x1)]) hx hb dX3_part_129 rfl hl (by decide) rfl (fun ls hl => ?_)
            refine lv_aload_n hx hb dX3_part_130 rfl (lv_at hl 2 rfl) ?_
            refine gmIC hx hb hts inT3 hown hK hI List.not_mem_nil hG0 8 (by decide) (hts _ (tb_c wd_137)) rfl rfl dX3_part_131 (fun w190 hg191 k192 k193 => ?_)
            obtain rfl := gfC.uniq (by decide) hg20 hg191
            refine lv_bipush (v := 50) hx hb dX3_part_134 (by decide) ?_
            refine lv_icmp_ge (tgt := 153) hx hb dX3_part_136 (by decide) (fun c194 => ?_) (fun c194 => ?_)
            · skip
              have k195 := iv_le (X := (50)) (Y := w19.toInt) (by decide) rfl c194
              refine lv_iconst (v := 0) hx hb dX3_part_153 (by decide) ?_
              have hpost : ((0 : Int32) = 1 ∧ ∃ p2 L2 : Nat, RC E D G h0 ft fp fn TT p2 nc L2 s.heap ∧ pp + 1 ≤ p2 ∧ pd_R ZZ YY TT (2, fl, nk, L2) p2 = XX) ∨ ((0 : Int32) = 0 ∧ ∃ p2 L2 : Nat, RC E D G h0 ft fp fn TT p2 nc L2 s.heap ∧ pp ≤ p2 ∧ XX = (p2, false)) := Or.inr ⟨rfl, pp, LL, ⟨by omega, by omega, ⟨a1, hf2, hq3, hA4⟩, ⟨a5, hf6, hq7, hA8⟩, ⟨a9, hf10, hq11, hA12⟩, ⟨w13, hg14, by first | omega | decide⟩, ⟨w16, hg17, by first | omega | decide⟩, ⟨w19, hg20, by first | omega | decide⟩, by omega, ⟨w22, hg23, by first | omega | decide⟩, ⟨w25, hg26, by first | omega | decide⟩⟩, by omega, (hpd.symm.trans (pd_E_no (fun _ h => by omega) (fun h9 h => by rcases h with ⟨h, hy⟩ | h <;> first | omega | (have := (TK.y hTK h9).mp hy; omega))))⟩
              rw [hQ]
              exact W.zret (v := 0) hx hb hr (by decide) (fun t ht hW => ⟨⟨0, 0, rfl, rfl, ⟨by rw [ht]; exact hI, hN.warm hW, va_K.moved hW.alike hK⟩, by first | (rw [ht]; exact hpost) | exact hpost⟩, hS.F ht⟩) hS.2.2 dX3_part_154
            · skip
              have k196 := iv_nle (X := (50)) (Y := w19.toInt) (by decide) rfl c194
              refine lv_iload_n hx hb dX3_part_139 rfl (lv_at hl 0 rfl) ?_
              refine lv_if_ne (tgt := 155) hx hb dX3_part_140 (by decide) (fun _ => ?_) (fun c => absurd c (by decide))
              refine lv_aload_n hx hb dX3_part_155 rfl (lv_at hl 2 rfl) ?_
              refine lv_iload_n hx hb dX3_part_156 rfl (lv_at hl 0 rfl) ?_
              refine lv_if_eq (tgt := 164) hx hb dX3_part_157 (by decide) (fun c => absurd c (by decide)) (fun _ => ?_)
              refine lv_iconst (v := 0) hx hb dX3_part_160 (by decide) ?_
              refine lv_goto (tgt := 165) hx hb dX3_part_161 (by decide) ?_
              refine lv_iload_n hx hb dX3_part_165 rfl (lv_at hl 0 rfl) ?_
              refine lv_if_eq (tgt := 173) hx hb dX3_part_166 (by decide) (fun c => absurd c (by decide)) (fun _ => ?_)
              refine lv_iload_n hx hb dX3_part_169 rfl (lv_at hl 1 rfl) ?_
              refine lv_goto (tgt := 181) hx hb dX3_part_170 (by decide) ?_
              refine nx_i (As := [.int 0, .int v63]) (rest := []) (n := 2) (d := 0) ⟨hx, hb, hml, hown, hts⟩ (c_X3_emit l E D G h0 hG0 0 v63 ft fp fn TT pp nc LL) wd_723 wd_725 wp_17 wd_5 wd_726 (by decide +kernel) ⟨by rw [hR]; show 0 + 1 ≤ 2 + 2 * k; omega, by rw [hR]; show 8 + (3 + 11) + 40 * (0) ≤ 40 * (2 + 2 * k); omega⟩ hI hN hK hS hG0 (⟨by omega, by omega, ⟨a1, hf2, hq3, hA4⟩, ⟨a5, hf6, hq7, hA8⟩, ⟨a9, hf10, hq11, hA12⟩, ⟨w13, hg14, by first | omega | decide⟩, ⟨w16, hg17, by first | omega | decide⟩, ⟨w19, hg20, by first | omega | decide⟩, by omega, ⟨w22, hg23, by first | omega | decide⟩, ⟨w25, hg26, by first | omega | decide⟩⟩) rfl hl.1 rfl (Nat.le_of_ble_eq_true rfl) dX3_part_181 ⟨Nat.zero_le _, Nat.zero_le _⟩ (fun r197 H locs hI hp hS => ?_)
              obtain ⟨hT4, hn12, ⟨a198, hf199, hq200, hA201⟩, ⟨a202, hf203, hq204, hA205⟩, ⟨a206, hf207, hq208, hA209⟩, ⟨w210, hg211, k212⟩, ⟨w213, hg214, k215⟩, ⟨w216, hg217, k218⟩, hpT, ⟨w219, hg220, k221⟩, ⟨w222, hg223, k224⟩⟩ := hp
              have k225 := iv_lo w216
              have k226 := iv_hi w216
              have k227 := TK.at hTK hpT
              refine lv_pop hx hb dX3_part_184 rfl ?_
              refine lv_aload_n hx hb dX3_part_185 rfl (lv_at hl 2 rfl) ?_
              refine lv_dup hx hb dX3_part_186 rfl ?_
              refine gmIC hx hb hts inT3 hown hK hI List.not_mem_nil hG0 8 (by decide) (hts _ (tb_c wd_137)) rfl rfl dX3_part_187 (fun w228 hg229 k230 k231 => ?_)
              obtain rfl := gfC.uniq (by decide) hg217 hg229
              refine lv_iconst (v := 1) hx hb dX3_part_190 (by decide) ?_
              refine lv_iadd hx hb dX3_part_191 ?_
              refine lv_topi (fun v232 e233 => ?_)
              try have tv232 : v232.toInt = w216.toInt + (1) := iv_add rfl (by decide) e233 (by omega) (by omega)
              have k234 := iv_lo v232
              have k235 := iv_hi v232
              refine pmIC (ty := .int) hx hb hts inT3 hown hK hI List.not_mem_nil hG0 hS ⟨_, hG0⟩ 8 (by decide) (hts _ (tb_c wd_137)) rfl rfl (by decide +kernel) rfl rfl rfl (by omega) (by omega) dX3_part_192 (fun H locs hI hgP hS => ?_)
              have hg211 := hgP.2.2.1 6 _ (by decide) (by decide) hg211
              have hg214 := hgP.2.2.1 7 _ (by decide) (by decide) hg214
              have hg220 := hgP.2.2.1 10 _ (by decide) (by decide) hg220
              have hg223 := hgP.2.2.1 11 _ (by decide) (by decide) hg223
              have hg236 := hgP.2.1
              have hf199 := hgP.2.2.2 3 _ (by decide) (by decide) hf199
              have hf203 := hgP.2.2.2 4 _ (by decide) (by decide) hf203
              have hf207 := hgP.2.2.2 5 _ (by decide) (by decide) hf207
              have hA201 := va_at.kept hA201 (hgP.1 _ (m_ne hq200 hG0 (by first | decide | (dsimp only; decide))))
              have hA205 := va_at.kept hA205 (hgP.1 _ (m_ne hq204 hG0 (by first | decide | (dsimp only; decide))))
              have hA209 := va_at.kept hA209 (hgP.1 _ (m_ne hq208 hG0 (by first | decide | (dsimp only; decide))))
              refine lv_aload_n hx hb dX3_part_195 rfl (lv_at hl 2 rfl) ?_
              refine lv_aload_n hx hb dX3_part_196 rfl (lv_at hl 2 rfl) ?_
              refine gmIC hx hb hts inT3 hown hK hI List.not_mem_nil hG0 10 (by decide) (hts _ (tb_c wd_139)) rfl rfl dX3_part_197 (fun w237 hg238 k239 k240 => ?_)
              obtain rfl := gfC.uniq (by decide) hg220 hg238
              refine lv_iconst (v := 1) hx hb dX3_part_200 (by decide) ?_
              refine lv_iadd hx hb dX3_part_201 ?_
              refine lv_topi (fun v241 e242 => ?_)
              have tv241 : v241.toInt = w219.toInt + (1) := iv_add rfl (by decide) e242 (by omega) (by omega)
              have hpd243 : pd_R ZZ YY TT (2, fl, nk, LL + 1) (pp + 1) = XX := (pd_E_lf (by omega) (by first | exact Or.inr ⟨by omega, by omega⟩ | exact Or.inl ⟨by omega, (TK.y hTK (by omega)).mpr (by omega)⟩) (by omega)).symm.trans hpd
              refine nx_v (As := [.int v241]) (rest := []) (n := 1) (d := 0) ⟨hx, hb, hml, hown, hts⟩ (c_X3_moveTo l E D G h0 hG0 v241 ft fp fn TT (pp + 1) nc (LL + 1) (by first | omega | decide) (by omega)) wd_707 wd_709 wp_13 wd_5 wd_710 (by decide +kernel) ⟨by rw [hR]; show 0 + 1 ≤ 2 + 2 * k; omega, by rw [hR]; show 8 + (2 + 11) + 40 * (0) ≤ 40 * (2 + 2 * k); omega⟩ hI hN hK hS hG0 (⟨by omega, by omega, ⟨a198, hf199, hq200, hA201⟩, ⟨a202, hf203, hq204, hA205⟩, ⟨a206, hf207, hq208, hA209⟩, ⟨w210, hg211, by first | omega | decide⟩, ⟨w213, hg214, by first | omega | decide⟩, ⟨v232, hg236, by first | omega | decide⟩⟩) rfl hl.1 rfl (Nat.le_of_ble_eq_true rfl) dX3_part_202 ⟨Nat.zero_le _, Nat.zero_le _⟩ (fun H locs hI hp hS => ?_)
              obtain ⟨hT4, hn12, ⟨a245, hf246, hq247, hA248⟩, ⟨a249, hf250, hq251, hA252⟩, ⟨a253, hf254, hq255, hA256⟩, ⟨w257, hg258, k259⟩, ⟨w260, hg261, k262⟩, ⟨w263, hg264, k265⟩, hpT, ⟨w266, hg267, k268⟩, ⟨w269, hg270, k271⟩⟩ := hp
              have k272 := iv_lo w263
              have k273 := iv_hi w263
              have k274 := TK.at hTK hpT
              refine lv_iconst (v := 1) hx hb dX3_part_205 (by decide) ?_
              have hpost : ((1 : Int32) = 1 ∧ ∃ p2 L2 : Nat, RC E D G h0 ft fp fn TT p2 nc L2 H ∧ pp + 1 ≤ p2 ∧ pd_R ZZ YY TT (2, fl, nk, L2) p2 = XX) ∨ ((1 : Int32) = 0 ∧ ∃ p2 L2 : Nat, RC E D G h0 ft fp fn TT p2 nc L2 H ∧ pp ≤ p2 ∧ XX = (p2, false)) := Or.inl ⟨rfl, (pp + 1), (LL + 1), ⟨by omega, by omega, ⟨a245, hf246, hq247, hA248⟩, ⟨a249, hf250, hq251, hA252⟩, ⟨a253, hf254, hq255, hA256⟩, ⟨w257, hg258, by first | omega | decide⟩, ⟨w260, hg261, by first | omega | decide⟩, ⟨w263, hg264, by first | omega | decide⟩, by omega, ⟨w266, hg267, by first | omega | decide⟩, ⟨w269, hg270, by first | omega | decide⟩⟩, by omega, hpd243⟩
              rw [hQ]
              exact W.zret (v := 1) hx hb hr (by decide) (fun t ht hW => ⟨⟨1, 1, rfl, rfl, ⟨by rw [ht]; exact hI, hN.warm hW, va_K.moved hW.alike hK⟩, by first | (rw [ht]; exact hpost) | exact hpost⟩, hS.F ht⟩) hS.2.2 dX3_part_206
  · skip
    have k275 := iv_eq (X := w25.toInt) (Y := (91)) rfl (by decide) c37
    refine lv_iload_n hx hb dX3_part_9 rfl (lv_at hl 1 rfl) ?_
    refine lv_bipush (v := 8) hx hb dX3_part_10 (by decide) ?_
    refine lv_icmp_lt (tgt := 17) hx hb dX3_part_12 (by decide) (fun c276 => ?_) (fun c276 => ?_)
    · skip
      have k277 := iv_lt (X := x1.toInt) (Y := (8)) rfl (by decide) c276
      refine lv_aload_n hx hb dX3_part_17 rfl (lv_at hl 0 rfl) ?_
      refine lv_aload_n hx hb dX3_part_18 rfl (lv_at hl 0 rfl) ?_
      refine gmIC hx hb hts inT3 hown hK hI List.not_mem_nil hG0 10 (by decide) (hts _ (tb_c wd_139)) rfl rfl dX3_part_19 (fun w278 hg279 k280 k281 => ?_)
      obtain rfl := gfC.uniq (by decide) hg23 hg279
      refine lv_iconst (v := 1) hx hb dX3_part_22 (by decide) ?_
      refine lv_iadd hx hb dX3_part_23 ?_
      refine lv_topi (fun v282 e283 => ?_)
      have tv282 : v282.toInt = w22.toInt + (1) := iv_add rfl (by decide) e283 (by omega) (by omega)
      have hpd284 : pd_R ZZ YY TT (1, 3 :: fl, nk, LL) (pp + 1) = XX := (pd_E_br (by omega) (by omega) (by omega)).symm.trans hpd
      refine nx_v (As := [.int v282]) (rest := []) (n := 1) (d := 0) ⟨hx, hb, hml, hown, hts⟩ (c_X3_moveTo l E D G h0 hG0 v282 ft fp fn TT (pp + 1) nc LL (by first | omega | decide) (by omega)) wd_707 wd_709 wp_13 wd_5 wd_710 (by decide +kernel) ⟨by rw [hR]; show 0 + 1 ≤ 2 + 2 * k; omega, by rw [hR]; show 8 + (2 + 11) + 40 * (0) ≤ 40 * (2 + 2 * k); omega⟩ hI hN hK hS hG0 (⟨by omega, by omega, ⟨a1, hf2, hq3, hA4⟩, ⟨a5, hf6, hq7, hA8⟩, ⟨a9, hf10, hq11, hA12⟩, ⟨w13, hg14, by first | omega | decide⟩, ⟨w16, hg17, by first | omega | decide⟩, ⟨w19, hg20, by first | omega | decide⟩⟩) rfl hl.1 rfl (Nat.le_of_ble_eq_true rfl) dX3_part_24 ⟨Nat.zero_le _, Nat.zero_le _⟩ (fun H locs hI hp hS => ?_)
      obtain ⟨hT4, hn12, ⟨a286, hf287, hq288, hA289⟩, ⟨a290, hf291, hq292, hA293⟩, ⟨a294, hf295, hq296, hA297⟩, ⟨w298, hg299, k300⟩, ⟨w301, hg302, k303⟩, ⟨w304, hg305, k306⟩, hpT, ⟨w307, hg308, k309⟩, ⟨w310, hg311, k312⟩⟩ := hp
      have k313 := iv_lo w304
      have k314 := iv_hi w304
      have k315 := TK.at hTK hpT
      refine lv_aload_n hx hb dX3_part_27 rfl (lv_at hl 0 rfl) ?_
      refine lv_iload_n hx hb dX3_part_28 rfl (lv_at hl 1 rfl) ?_
      refine lv_iconst (v := 1) hx hb dX3_part_29 (by decide) ?_
      refine lv_iadd hx hb dX3_part_30 ?_
      refine lv_topi (fun v316 e317 => ?_)
      have tv316 : v316.toInt = x1.toInt + (1) := iv_add rfl (by decide) e317 (by omega) (by omega)
      refine nx_i (As := [.int v316]) (rest := []) (n := 1) (d := (3 + 2 * (k - 1))) ⟨hx, hb, hml, hown, hts⟩ (c_X3_sum l E D G (k - 1) h0 hG0 v316 ft fp fn TT (pp + 1) nc LL ZZ YY nk XX hTK (dd + 1) (by first | decide | omega) (by omega) (by omega) (3 :: fl) (by rw [pd_dp3, hdp]) hpd284 (ih (k - 1) (by omega))) wd_715 wd_717 wp_15 wd_5 wd_718 (by decide +kernel) ⟨by rw [hR]; show (3 + 2 * (k - 1)) + 1 ≤ 2 + 2 * k; omega, by rw [hR]; show 8 + (7 + 11) + 40 * ((3 + 2 * (k - 1))) ≤ 40 * (2 + 2 * k); omega⟩ hI hN hK hS hG0 (⟨by omega, by omega, ⟨a286, hf287, hq288, hA289⟩, ⟨a290, hf291, hq292, hA293⟩, ⟨a294, hf295, hq296, hA297⟩, ⟨w298, hg299, by first | omega | decide⟩, ⟨w301, hg302, by first | omega | decide⟩, ⟨w304, hg305, by first | omega | decide⟩, by omega, ⟨w307, hg308, by first | omega | decide⟩, ⟨w310, hg311, by first | omega | decide⟩⟩) rfl hl.1 rfl (Nat.le_of_ble_eq_true rfl) dX3_part_31 ⟨Nat.zero_le _, Nat.zero_le _⟩ (fun r318 H locs hI hp hS => ?_)
      rcases hp with ⟨rfl, hp⟩ | ⟨rfl, hp⟩
      · skip
        try simp only [rg, not_and, Int.not_le] at hp
        have hp319 := hp
        obtain ⟨pn320, Ln321, hE, k322, hpd323, hno324⟩ := hp319
        have hp319 : True := trivial
        obtain ⟨hT4, hn12, ⟨a325, hf326, hq327, hA328⟩, ⟨a329, hf330, hq331, hA332⟩, ⟨a333, hf334, hq335, hA336⟩, ⟨w337, hg338, k339⟩, ⟨w340, hg341, k342⟩, ⟨w343, hg344, k345⟩, hpT, ⟨w346, hg347, k348⟩, ⟨w349, hg350, k351⟩⟩ := hE
        have k352 := iv_lo w343
        have k353 := iv_hi w343
        have k354 := TK.at hTK hpT
        refine lv_if_eq (tgt := 50) hx hb dX3_part_34 (by decide) (fun c => absurd c (by decide)) (fun _ => ?_)
        refine lv_aload_n hx hb dX3_part_37 rfl (lv_at hl 0 rfl) ?_
        refine gmIC hx hb hts inT3 hown hK hI List.not_mem_nil hG0 11 (by decide) (hts _ (tb_c wd_140)) rfl rfl dX3_part_38 (fun w355 hg356 k357 k358 => ?_)
        obtain rfl := gfC.uniq (by decide) hg350 hg356
        refine lv_bipush (v := 93) hx hb dX3_part_41 (by decide) ?_
        have k359 := iv_lo w349
        have k360 := iv_hi w349
        refine lv_icmp_ne (tgt := 50) hx hb dX3_part_43 (by decide) (fun c361 => ?_) (fun c361 => ?_)
        · skip
          have k362 := iv_ne (X := w349.toInt) (Y := (93)) rfl (by decide) c361
          refine lv_iconst (v := 0) hx hb dX3_part_50 (by decide) ?_
          refine lv_istore_n (lv' := [(2, .int 0), (0, .ref h0), (1, .int x1)]) hx hb dX3_part_51 rfl hl (by decide) rfl (fun ls hl => ?_)
          refine lv_aload_n hx hb dX3_part_52 rfl (lv_at hl 1 rfl) ?_
          refine lv_iload_n hx hb dX3_part_53 rfl (lv_at hl 0 rfl) ?_
          refine lv_if_eq (tgt := 66) hx hb dX3_part_54 (by decide) (fun _ => ?_) (fun c => absurd c (by decide))
          refine lv_aload_n hx hb dX3_part_66 rfl (lv_at hl 1 rfl) ?_
          refine gmIC hx hb hts inT3 hown hK hI List.not_mem_nil hG0 10 (by decide) (hts _ (tb_c wd_139)) rfl rfl dX3_part_67 (fun w363 hg364 k365 k366 => ?_)
          obtain rfl := gfC.uniq (by decide) hg347 hg364
          refine nx_v (As := [.int w346]) (rest := []) (n := 1) (d := 0) ⟨hx, hb, hml, hown, hts⟩ (c_X3_moveTo l E D G h0 hG0 w346 ft fp fn TT pn320 nc Ln321 (by first | omega | decide) (by omega)) wd_707 wd_709 wp_13 wd_5 wd_710 (by decide +kernel) ⟨by rw [hR]; show 0 + 1 ≤ 2 + 2 * k; omega, by rw [hR]; show 8 + (2 + 11) + 40 * (0) ≤ 40 * (2 + 2 * k); omega⟩ hI hN hK hS hG0 (⟨by omega, by omega, ⟨a325, hf326, hq327, hA328⟩, ⟨a329, hf330, hq331, hA332⟩, ⟨a333, hf334, hq335, hA336⟩, ⟨w337, hg338, by first | omega | decide⟩, ⟨w340, hg341, by first | omega | decide⟩, ⟨w343, hg344, by first | omega | decide⟩⟩) rfl hl.1 rfl (Nat.le_of_ble_eq_true rfl) dX3_part_70 ⟨Nat.zero_le _, Nat.zero_le _⟩ (fun H locs hI hp hS => ?_)
          obtain ⟨hT4, hn12, ⟨a368, hf369, hq370, hA371⟩, ⟨a372, hf373, hq374, hA375⟩, ⟨a376, hf377, hq378, hA379⟩, ⟨w380, hg381, k382⟩, ⟨w383, hg384, k385⟩, ⟨w386, hg387, k388⟩, hpT, ⟨w389, hg390, k391⟩, ⟨w392, hg393, k394⟩⟩ := hp
          have k395 := iv_lo w386
          have k396 := iv_hi w386
          have k397 := TK.at hTK hpT
          refine lv_iload_n hx hb dX3_part_73 rfl (lv_at hl 0 rfl) ?_
          have hpost : ((0 : Int32) = 1 ∧ ∃ p2 L2 : Nat, RC E D G h0 ft fp fn TT p2 nc L2 H ∧ pp + 1 ≤ p2 ∧ pd_R ZZ YY TT (2, fl, nk, L2) p2 = XX) ∨ ((0 : Int32) = 0 ∧ ∃ p2 L2 : Nat, RC E D G h0 ft fp fn TT p2 nc L2 H ∧ pp ≤ p2 ∧ XX = (p2, false)) := Or.inr ⟨rfl, pn320, Ln321, ⟨by omega, by omega, ⟨a368, hf369, hq370, hA371⟩, ⟨a372, hf373, hq374, hA375⟩, ⟨a376, hf377, hq378, hA379⟩, ⟨w380, hg381, by first | omega | decide⟩, ⟨w383, hg384, by first | omega | decide⟩, ⟨w386, hg387, by first | omega | decide⟩, by omega, ⟨w389, hg390, by first | omega | decide⟩, ⟨w392, hg393, by first | omega | decide⟩⟩, by omega, (hpd323.symm.trans (pd_A_brno (fun _ => ⟨by unfold pd_op; unfold oc at hno324; omega, by omega⟩)))⟩
          rw [hQ]
          exact W.zret (v := 0) hx hb hr (by decide) (fun t ht hW => ⟨⟨0, 0, rfl, rfl, ⟨by rw [ht]; exact hI, hN.warm hW, va_K.moved hW.alike hK⟩, by first | (rw [ht]; exact hpost) | exact hpost⟩, hS.F ht⟩) hS.2.2 dX3_part_74
        · skip
          have k398 := iv_eq (X := w349.toInt) (Y := (93)) rfl (by decide) c361
          refine lv_iconst (v := 1) hx hb dX3_part_46 (by decide) ?_
          refine lv_goto (tgt := 51) hx hb dX3_part_47 (by decide) ?_
          refine lv_istore_n (lv' := [(2, .int 1), (0, .ref h0), (1, .int x1)]) hx hb dX3_part_51 rfl hl (by decide) rfl (fun ls hl => ?_)
          refine lv_aload_n hx hb dX3_part_52 rfl (lv_at hl 1 rfl) ?_
          refine lv_iload_n hx hb dX3_part_53 rfl (lv_at hl 0 rfl) ?_
          refine lv_if_eq (tgt := 66) hx hb dX3_part_54 (by decide) (fun c => absurd c (by decide)) (fun _ => ?_)
          refine lv_aload_n hx hb dX3_part_57 rfl (lv_at hl 1 rfl) ?_
          refine gmIC hx hb hts inT3 hown hK hI List.not_mem_nil hG0 10 (by decide) (hts _ (tb_c wd_139)) rfl rfl dX3_part_58 (fun w399 hg400 k401 k402 => ?_)
          obtain rfl := gfC.uniq (by decide) hg347 hg400
          refine lv_iconst (v := 1) hx hb dX3_part_61 (by decide) ?_
          refine lv_iadd hx hb dX3_part_62 ?_
          refine lv_topi (fun v403 e404 => ?_)
          have tv403 : v403.toInt = w346.toInt + (1) := iv_add rfl (by decide) e404 (by omega) (by omega)
          refine lv_goto (tgt := 70) hx hb dX3_part_63 (by decide) ?_
          have hpd405 : pd_R ZZ YY TT (2, fl, nk, Ln321) (pn320 + 1) = XX := (pd_A_br (by omega) (by omega)).symm.trans hpd323
          refine nx_v (As := [.int v403]) (rest := []) (n := 1) (d := 0) ⟨hx, hb, hml, hown, hts⟩ (c_X3_moveTo l E D G h0 hG0 v403 ft fp fn TT (pn320 + 1) nc Ln321 (by first | omega | decide) (by omega)) wd_707 wd_709 wp_13 wd_5 wd_710 (by decide +kernel) ⟨by rw [hR]; show 0 + 1 ≤ 2 + 2 * k; omega, by rw [hR]; show 8 + (2 + 11) + 40 * (0) ≤ 40 * (2 + 2 * k); omega⟩ hI hN hK hS hG0 (⟨by omega, by omega, ⟨a325, hf326, hq327, hA328⟩, ⟨a329, hf330, hq331, hA332⟩, ⟨a333, hf334, hq335, hA336⟩, ⟨w337, hg338, by first | omega | decide⟩, ⟨w340, hg341, by first | omega | decide⟩, ⟨w343, hg344, by first | omega | decide⟩⟩) rfl hl.1 rfl (Nat.le_of_ble_eq_true rfl) dX3_part_70 ⟨Nat.zero_le _, Nat.zero_le _⟩ (fun H locs hI hp hS => ?_)
          obtain ⟨hT4, hn12, ⟨a407, hf408, hq409, hA410⟩, ⟨a411, hf412, hq413, hA414⟩, ⟨a415, hf416, hq417, hA418⟩, ⟨w419, hg420, k421⟩, ⟨w422, hg423, k424⟩, ⟨w425, hg426, k427⟩, hpT, ⟨w428, hg429, k430⟩, ⟨w431, hg432, k433⟩⟩ := hp
          have k434 := iv_lo w425
          have k435 := iv_hi w425
          have k436 := TK.at hTK hpT
          refine lv_iload_n hx hb dX3_part_73 rfl (lv_at hl 0 rfl) ?_
          have hpost : ((1 : Int32) = 1 ∧ ∃ p2 L2 : Nat, RC E D G h0 ft fp fn TT p2 nc L2 H ∧ pp + 1 ≤ p2 ∧ pd_R ZZ YY TT (2, fl, nk, L2) p2 = XX) ∨ ((1 : Int32) = 0 ∧ ∃ p2 L2 : Nat, RC E D G h0 ft fp fn TT p2 nc L2 H ∧ pp ≤ p2 ∧ XX = (p2, false)) := Or.inl ⟨rfl, (pn320 + 1), Ln321, ⟨by omega, by omega, ⟨a407, hf408, hq409, hA410⟩, ⟨a411, hf412, hq413, hA414⟩, ⟨a415, hf416, hq417, hA418⟩, ⟨w419, hg420, by first | omega | decide⟩, ⟨w422, hg423, by first | omega | decide⟩, ⟨w425, hg426, by first | omega | decide⟩, by omega, ⟨w428, hg429, by first | omega | decide⟩, ⟨w431, hg432, by first | omega | decide⟩⟩, by omega, hpd405⟩
          rw [hQ]
          exact W.zret (v := 1) hx hb hr (by decide) (fun t ht hW => ⟨⟨1, 1, rfl, rfl, ⟨by rw [ht]; exact hI, hN.warm hW, va_K.moved hW.alike hK⟩, by first | (rw [ht]; exact hpost) | exact hpost⟩, hS.F ht⟩) hS.2.2 dX3_part_74
      · skip
        try simp only [rg, not_and, Int.not_le] at hp
        have hp437 := hp
        obtain ⟨pn438, Ln439, hE, k440, hfl441⟩ := hp437
        have hp437 : True := trivial
        obtain ⟨hT4, hn12, ⟨a442, hf443, hq444, hA445⟩, ⟨a446, hf447, hq448, hA449⟩, ⟨a450, hf451, hq452, hA453⟩, ⟨w454, hg455, k456⟩, ⟨w457, hg458, k459⟩, ⟨w460, hg461, k462⟩, hpT, ⟨w463, hg464, k465⟩, ⟨w466, hg467, k468⟩⟩ := hE
        have k469 := iv_lo w460
        have k470 := iv_hi w460
        have k471 := TK.at hTK hpT
        refine lv_if_eq (tgt := 50) hx hb dX3_part_34 (by decide) (fun _ => ?_) (fun c => absurd c (by decide))
        refine lv_iconst (v := 0) hx hb dX3_part_50 (by decide) ?_
        refine lv_istore_n (lv' := [(2, .int 0), (0, .ref h0), (1, .int x1)]) hx hb dX3_part_51 rfl hl (by decide) rfl (fun ls hl => ?_)
        refine lv_aload_n hx hb dX3_part_52 rfl (lv_at hl 1 rfl) ?_
        refine lv_iload_n hx hb dX3_part_53 rfl (lv_at hl 0 rfl) ?_
        refine lv_if_eq (tgt := 66) hx hb dX3_part_54 (by decide) (fun _ => ?_) (fun c => absurd c (by decide))
        refine lv_aload_n hx hb dX3_part_66 rfl (lv_at hl 1 rfl) ?_
        refine gmIC hx hb hts inT3 hown hK hI List.not_mem_nil hG0 10 (by decide) (hts _ (tb_c wd_139)) rfl rfl dX3_part_67 (fun w472 hg473 k474 k475 => ?_)
        obtain rfl := gfC.uniq (by decide) hg464 hg473
        refine nx_v (As := [.int w463]) (rest := []) (n := 1) (d := 0) ⟨hx, hb, hml, hown, hts⟩ (c_X3_moveTo l E D G h0 hG0 w463 ft fp fn TT pn438 nc Ln439 (by first | omega | decide) (by omega)) wd_707 wd_709 wp_13 wd_5 wd_710 (by decide +kernel) ⟨by rw [hR]; show 0 + 1 ≤ 2 + 2 * k; omega, by rw [hR]; show 8 + (2 + 11) + 40 * (0) ≤ 40 * (2 + 2 * k); omega⟩ hI hN hK hS hG0 (⟨by omega, by omega, ⟨a442, hf443, hq444, hA445⟩, ⟨a446, hf447, hq448, hA449⟩, ⟨a450, hf451, hq452, hA453⟩, ⟨w454, hg455, by first | omega | decide⟩, ⟨w457, hg458, by first | omega | decide⟩, ⟨w460, hg461, by first | omega | decide⟩⟩) rfl hl.1 rfl (Nat.le_of_ble_eq_true rfl) dX3_part_70 ⟨Nat.zero_le _, Nat.zero_le _⟩ (fun H locs hI hp hS => ?_)
        obtain ⟨hT4, hn12, ⟨a477, hf478, hq479, hA480⟩, ⟨a481, hf482, hq483, hA484⟩, ⟨a485, hf486, hq487, hA488⟩, ⟨w489, hg490, k491⟩, ⟨w492, hg493, k494⟩, ⟨w495, hg496, k497⟩, hpT, ⟨w498, hg499, k500⟩, ⟨w501, hg502, k503⟩⟩ := hp
        have k504 := iv_lo w495
        have k505 := iv_hi w495
        have k506 := TK.at hTK hpT
        refine lv_iload_n hx hb dX3_part_73 rfl (lv_at hl 0 rfl) ?_
        have hpost : ((0 : Int32) = 1 ∧ ∃ p2 L2 : Nat, RC E D G h0 ft fp fn TT p2 nc L2 H ∧ pp + 1 ≤ p2 ∧ pd_R ZZ YY TT (2, fl, nk, L2) p2 = XX) ∨ ((0 : Int32) = 0 ∧ ∃ p2 L2 : Nat, RC E D G h0 ft fp fn TT p2 nc L2 H ∧ pp ≤ p2 ∧ XX = (p2, false)) := Or.inr ⟨rfl, pn438, Ln439, ⟨by omega, by omega, ⟨a477, hf478, hq479, hA480⟩, ⟨a481, hf482, hq483, hA484⟩, ⟨a485, hf486, hq487, hA488⟩, ⟨w489, hg490, by first | omega | decide⟩, ⟨w492, hg493, by first | omega | decide⟩, ⟨w495, hg496, by first | omega | decide⟩, by omega, ⟨w498, hg499, by first | omega | decide⟩, ⟨w501, hg502, by first | omega | decide⟩⟩, by omega, hfl441⟩
        rw [hQ]
        exact W.zret (v := 0) hx hb hr (by decide) (fun t ht hW => ⟨⟨0, 0, rfl, rfl, ⟨by rw [ht]; exact hI, hN.warm hW, va_K.moved hW.alike hK⟩, by first | (rw [ht]; exact hpost) | exact hpost⟩, hS.F ht⟩) hS.2.2 dX3_part_74
    · skip
      have k507 := iv_nlt (X := x1.toInt) (Y := (8)) rfl (by decide) c276
      refine lv_iconst (v := 0) hx hb dX3_part_15 (by decide) ?_
      have hpost : ((0 : Int32) = 1 ∧ ∃ p2 L2 : Nat, RC E D G h0 ft fp fn TT p2 nc L2 s.heap ∧ pp + 1 ≤ p2 ∧ pd_R ZZ YY TT (2, fl, nk, L2) p2 = XX) ∨ ((0 : Int32) = 0 ∧ ∃ p2 L2 : Nat, RC E D G h0 ft fp fn TT p2 nc L2 s.heap ∧ pp ≤ p2 ∧ XX = (p2, false)) := Or.inr ⟨rfl, pp, LL, ⟨by omega, by omega, ⟨a1, hf2, hq3, hA4⟩, ⟨a5, hf6, hq7, hA8⟩, ⟨a9, hf10, hq11, hA12⟩, ⟨w13, hg14, by first | omega | decide⟩, ⟨w16, hg17, by first | omega | decide⟩, ⟨w19, hg20, by first | omega | decide⟩, by omega, ⟨w22, hg23, by first | omega | decide⟩, ⟨w25, hg26, by first | omega | decide⟩⟩, by omega, (hpd.symm.trans (pd_E_no (fun _ h => by omega) (fun h9 h => by rcases h with ⟨h, hy⟩ | h <;> first | omega | (have := (TK.y hTK h9).mp hy; omega))))⟩
      rw [hQ]
      exact W.zret (v := 0) hx hb hr (by decide) (fun t ht hW => ⟨⟨0, 0, rfl, rfl, ⟨by rw [ht]; exact hI, hN.warm hW, va_K.moved hW.alike hK⟩, by first | (rw [ht]; exact hpost) | exact hpost⟩, hS.F ht⟩) hS.2.2 dX3_part_16
