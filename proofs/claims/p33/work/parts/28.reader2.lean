theorem wp_19 : Cond.selects RX3 yX3_test yX3_test ∈ TB := tv 19 (by decide +kernel) (by decide +kernel)
theorem wp_20 : Cond.selects RX3 yX3_plain yX3_plain ∈ TB := tv 20 (by decide +kernel) (by decide +kernel)
theorem wp_21 : Cond.selects RX3 yX3_enclosed yX3_enclosed ∈ TB := tv 21 (by decide +kernel) (by decide +kernel)
theorem wp_22 : Cond.selects RX3 yX3_aim yX3_aim ∈ TB := tv 22 (by decide +kernel) (by decide +kernel)
theorem wd_1202 : (Cond.methodLink RX11 (342 : Nat) yX6_copyFrom) ∈ TB := tw 1202 (by decide +kernel) (by decide +kernel)
theorem wd_1203 : (Jvm.Cond.instanceMethod yX6_copyFrom) ∈ TB := tw 1203 (by decide +kernel) (by decide +kernel)
theorem wd_1204 : (Cond.selects RX6 yX6_copyFrom yX6_copyFrom) ∈ TB := tw 1204 (by decide +kernel) (by decide +kernel)
theorem wd_1205 : (Cond.code yX6_copyFrom cX6_copyFrom 3 (Option.none : Option Jvm.ClassFile.FieldType)) ∈ TB := tw 1205 (by decide +kernel) (by decide +kernel)
theorem wd_129 : (Cond.fieldLink RX3 (11 : Nat) "NineRiver$Reader" "kinds" "[I") ∈ TB := tw 129 (by decide +kernel) (by decide +kernel)
theorem wd_130 : (Cond.fieldLink RX3 (15 : Nat) "NineRiver$Reader" "marks" "[I") ∈ TB := tw 130 (by decide +kernel) (by decide +kernel)
theorem wd_136 : (Cond.fieldLink RX3 (34 : Nat) "NineRiver$Reader" "clauses" "I") ∈ TB := tw 136 (by decide +kernel) (by decide +kernel)
theorem wd_346 : (Cond.fieldLink RX11 (16 : Nat) "NineRiver" "images" "[LNineRiver$State;") ∈ TB := tw 346 (by decide +kernel) (by decide +kernel)
theorem wd_731 : (Cond.methodLink RX3 (100 : Nat) yX3_test) ∈ TB := tw 731 (by decide +kernel) (by decide +kernel)
theorem wd_733 : (Jvm.Cond.instanceMethod yX3_test) ∈ TB := tw 733 (by decide +kernel) (by decide +kernel)
theorem wd_734 : (Cond.code yX3_test cX3_test 7 (Option.some Jvm.ClassFile.FieldType.boolean)) ∈ TB := tw 734 (by decide +kernel) (by decide +kernel)
theorem wd_735 : (Cond.methodLink RX3 (103 : Nat) yX3_plain) ∈ TB := tw 735 (by decide +kernel) (by decide +kernel)
theorem wd_737 : (Jvm.Cond.instanceMethod yX3_plain) ∈ TB := tw 737 (by decide +kernel) (by decide +kernel)
theorem wd_738 : (Cond.code yX3_plain cX3_plain 5 (Option.some Jvm.ClassFile.FieldType.boolean)) ∈ TB := tw 738 (by decide +kernel) (by decide +kernel)
theorem wd_739 : (Cond.methodLink RX3 (112 : Nat) yX3_enclosed) ∈ TB := tw 739 (by decide +kernel) (by decide +kernel)
theorem wd_741 : (Jvm.Cond.instanceMethod yX3_enclosed) ∈ TB := tw 741 (by decide +kernel) (by decide +kernel)
theorem wd_742 : (Cond.code yX3_enclosed cX3_enclosed 3 (Option.some Jvm.ClassFile.FieldType.boolean)) ∈ TB := tw 742 (by decide +kernel) (by decide +kernel)
theorem wd_743 : (Cond.methodLink RX3 (106 : Nat) yX3_aim) ∈ TB := tw 743 (by decide +kernel) (by decide +kernel)
theorem wd_745 : (Jvm.Cond.instanceMethod yX3_aim) ∈ TB := tw 745 (by decide +kernel) (by decide +kernel)
theorem wd_746 : (Cond.code yX3_aim cX3_aim 2 (Option.none : Option Jvm.ClassFile.FieldType)) ∈ TB := tw 746 (by decide +kernel) (by decide +kernel)
theorem dX3_plain_0g : (decode cX3_plain 0 = .ok (.iconst 0, 1)) ∧ (decode cX3_plain 1 = .ok (.istore_n 2, 1)) ∧ (decode cX3_plain 2 = .ok (.iconst 0, 1)) ∧ (decode cX3_plain 3 = .ok (.istore_n 3, 1)) ∧ (decode cX3_plain 4 = .ok (.iload_n 3, 1)) ∧ (decode cX3_plain 5 = .ok (.sipush 400, 3)) ∧ (decode cX3_plain 8 = .ok (.if_icmp .ge 39, 3)) ∧ (decode cX3_plain 11 = .ok (.aload_n 0, 1)) ∧ (decode cX3_plain 12 = .ok (.getfield 46, 3)) ∧ (decode cX3_plain 15 = .ok (.sipush 263, 3)) := by decide +kernel
theorem dX3_plain_0 : decode cX3_plain 0 = .ok (.iconst 0, 1) := dX3_plain_0g.1
theorem dX3_plain_1 : decode cX3_plain 1 = .ok (.istore_n 2, 1) := dX3_plain_0g.2.1
theorem dX3_plain_2 : decode cX3_plain 2 = .ok (.iconst 0, 1) := dX3_plain_0g.2.2.1
theorem dX3_plain_3 : decode cX3_plain 3 = .ok (.istore_n 3, 1) := dX3_plain_0g.2.2.2.1
theorem dX3_plain_4 : decode cX3_plain 4 = .ok (.iload_n 3, 1) := dX3_plain_0g.2.2.2.2.1
theorem dX3_plain_5 : decode cX3_plain 5 = .ok (.sipush 400, 3) := dX3_plain_0g.2.2.2.2.2.1
theorem dX3_plain_8 : decode cX3_plain 8 = .ok (.if_icmp .ge 39, 3) := dX3_plain_0g.2.2.2.2.2.2.1
theorem dX3_plain_11 : decode cX3_plain 11 = .ok (.aload_n 0, 1) := dX3_plain_0g.2.2.2.2.2.2.2.1
theorem dX3_plain_12 : decode cX3_plain 12 = .ok (.getfield 46, 3) := dX3_plain_0g.2.2.2.2.2.2.2.2.1
theorem dX3_plain_15 : decode cX3_plain 15 = .ok (.sipush 263, 3) := dX3_plain_0g.2.2.2.2.2.2.2.2.2
theorem dX3_plain_18g : (decode cX3_plain 18 = .ok (.if_icmp .ne 29, 3)) ∧ (decode cX3_plain 21 = .ok (.iload_n 2, 1)) ∧ (decode cX3_plain 22 = .ok (.ifCond .ne 7, 3)) ∧ (decode cX3_plain 25 = .ok (.iconst 1, 1)) ∧ (decode cX3_plain 26 = .ok (.goto 4, 3)) ∧ (decode cX3_plain 29 = .ok (.iconst 0, 1)) ∧ (decode cX3_plain 30 = .ok (.istore_n 2, 1)) ∧ (decode cX3_plain 31 = .ok (.aload_n 0, 1)) ∧ (decode cX3_plain 32 = .ok (.aload_n 0, 1)) ∧ (decode cX3_plain 33 = .ok (.getfield 43, 3)) := by decide +kernel
theorem dX3_plain_18 : decode cX3_plain 18 = .ok (.if_icmp .ne 29, 3) := dX3_plain_18g.1
theorem dX3_plain_21 : decode cX3_plain 21 = .ok (.iload_n 2, 1) := dX3_plain_18g.2.1
theorem dX3_plain_22 : decode cX3_plain 22 = .ok (.ifCond .ne 7, 3) := dX3_plain_18g.2.2.1
theorem dX3_plain_25 : decode cX3_plain 25 = .ok (.iconst 1, 1) := dX3_plain_18g.2.2.2.1
theorem dX3_plain_26 : decode cX3_plain 26 = .ok (.goto 4, 3) := dX3_plain_18g.2.2.2.2.1
theorem dX3_plain_29 : decode cX3_plain 29 = .ok (.iconst 0, 1) := dX3_plain_18g.2.2.2.2.2.1
theorem dX3_plain_30 : decode cX3_plain 30 = .ok (.istore_n 2, 1) := dX3_plain_18g.2.2.2.2.2.2.1
theorem dX3_plain_31 : decode cX3_plain 31 = .ok (.aload_n 0, 1) := dX3_plain_18g.2.2.2.2.2.2.2.1
theorem dX3_plain_32 : decode cX3_plain 32 = .ok (.aload_n 0, 1) := dX3_plain_18g.2.2.2.2.2.2.2.2.1
theorem dX3_plain_33 : decode cX3_plain 33 = .ok (.getfield 43, 3) := dX3_plain_18g.2.2.2.2.2.2.2.2.2
theorem dX3_plain_36g : (decode cX3_plain 36 = .ok (.iconst 1, 1)) ∧ (decode cX3_plain 37 = .ok (.iadd, 1)) ∧ (decode cX3_plain 38 = .ok (.invokevirtual 66, 3)) ∧ (decode cX3_plain 41 = .ok (.iinc 3 1, 3)) ∧ (decode cX3_plain 44 = .ok (.goto (-40), 3)) ∧ (decode cX3_plain 47 = .ok (.aload_n 0, 1)) ∧ (decode cX3_plain 48 = .ok (.getfield 46, 3)) ∧ (decode cX3_plain 51 = .ok (.bipush 40, 2)) ∧ (decode cX3_plain 53 = .ok (.if_icmp .ne 12, 3)) ∧ (decode cX3_plain 56 = .ok (.aload_n 0, 1)) := by decide +kernel
theorem dX3_plain_36 : decode cX3_plain 36 = .ok (.iconst 1, 1) := dX3_plain_36g.1
theorem dX3_plain_37 : decode cX3_plain 37 = .ok (.iadd, 1) := dX3_plain_36g.2.1
theorem dX3_plain_38 : decode cX3_plain 38 = .ok (.invokevirtual 66, 3) := dX3_plain_36g.2.2.1
theorem dX3_plain_41 : decode cX3_plain 41 = .ok (.iinc 3 1, 3) := dX3_plain_36g.2.2.2.1
theorem dX3_plain_44 : decode cX3_plain 44 = .ok (.goto (-40), 3) := dX3_plain_36g.2.2.2.2.1
theorem dX3_plain_47 : decode cX3_plain 47 = .ok (.aload_n 0, 1) := dX3_plain_36g.2.2.2.2.2.1
theorem dX3_plain_48 : decode cX3_plain 48 = .ok (.getfield 46, 3) := dX3_plain_36g.2.2.2.2.2.2.1
theorem dX3_plain_51 : decode cX3_plain 51 = .ok (.bipush 40, 2) := dX3_plain_36g.2.2.2.2.2.2.2.1
theorem dX3_plain_53 : decode cX3_plain 53 = .ok (.if_icmp .ne 12, 3) := dX3_plain_36g.2.2.2.2.2.2.2.2.1
theorem dX3_plain_56 : decode cX3_plain 56 = .ok (.aload_n 0, 1) := dX3_plain_36g.2.2.2.2.2.2.2.2.2
theorem dX3_plain_57g : (decode cX3_plain 57 = .ok (.iload_n 1, 1)) ∧ (decode cX3_plain 58 = .ok (.invokevirtual 112, 3)) ∧ (decode cX3_plain 61 = .ok (.istore_n 3, 1)) ∧ (decode cX3_plain 62 = .ok (.goto 87, 3)) ∧ (decode cX3_plain 65 = .ok (.aload_n 0, 1)) ∧ (decode cX3_plain 66 = .ok (.iload_n 1, 1)) ∧ (decode cX3_plain 67 = .ok (.invokevirtual 97, 3)) ∧ (decode cX3_plain 70 = .ok (.istore_n 3, 1)) ∧ (decode cX3_plain 71 = .ok (.aload_n 0, 1)) ∧ (decode cX3_plain 72 = .ok (.getfield 46, 3)) := by decide +kernel
theorem dX3_plain_57 : decode cX3_plain 57 = .ok (.iload_n 1, 1) := dX3_plain_57g.1
theorem dX3_plain_58 : decode cX3_plain 58 = .ok (.invokevirtual 112, 3) := dX3_plain_57g.2.1
theorem dX3_plain_61 : decode cX3_plain 61 = .ok (.istore_n 3, 1) := dX3_plain_57g.2.2.1
theorem dX3_plain_62 : decode cX3_plain 62 = .ok (.goto 87, 3) := dX3_plain_57g.2.2.2.1
theorem dX3_plain_65 : decode cX3_plain 65 = .ok (.aload_n 0, 1) := dX3_plain_57g.2.2.2.2.1
theorem dX3_plain_66 : decode cX3_plain 66 = .ok (.iload_n 1, 1) := dX3_plain_57g.2.2.2.2.2.1
theorem dX3_plain_67 : decode cX3_plain 67 = .ok (.invokevirtual 97, 3) := dX3_plain_57g.2.2.2.2.2.2.1
theorem dX3_plain_70 : decode cX3_plain 70 = .ok (.istore_n 3, 1) := dX3_plain_57g.2.2.2.2.2.2.2.1
theorem dX3_plain_71 : decode cX3_plain 71 = .ok (.aload_n 0, 1) := dX3_plain_57g.2.2.2.2.2.2.2.2.1
theorem dX3_plain_72 : decode cX3_plain 72 = .ok (.getfield 46, 3) := dX3_plain_57g.2.2.2.2.2.2.2.2.2
theorem dX3_plain_75g : (decode cX3_plain 75 = .ok (.bipush 60, 2)) ∧ (decode cX3_plain 77 = .ok (.if_icmp .ne 8, 3)) ∧ (decode cX3_plain 80 = .ok (.bipush 7, 2)) ∧ (decode cX3_plain 82 = .ok (.goto 19, 3)) ∧ (decode cX3_plain 85 = .ok (.aload_n 0, 1)) ∧ (decode cX3_plain 86 = .ok (.getfield 46, 3)) ∧ (decode cX3_plain 89 = .ok (.bipush 62, 2)) ∧ (decode cX3_plain 91 = .ok (.if_icmp .ne 8, 3)) ∧ (decode cX3_plain 94 = .ok (.bipush 8, 2)) ∧ (decode cX3_plain 96 = .ok (.goto 5, 3)) := by decide +kernel
theorem dX3_plain_75 : decode cX3_plain 75 = .ok (.bipush 60, 2) := dX3_plain_75g.1
theorem dX3_plain_77 : decode cX3_plain 77 = .ok (.if_icmp .ne 8, 3) := dX3_plain_75g.2.1
theorem dX3_plain_80 : decode cX3_plain 80 = .ok (.bipush 7, 2) := dX3_plain_75g.2.2.1
theorem dX3_plain_82 : decode cX3_plain 82 = .ok (.goto 19, 3) := dX3_plain_75g.2.2.2.1
theorem dX3_plain_85 : decode cX3_plain 85 = .ok (.aload_n 0, 1) := dX3_plain_75g.2.2.2.2.1
theorem dX3_plain_86 : decode cX3_plain 86 = .ok (.getfield 46, 3) := dX3_plain_75g.2.2.2.2.2.1
theorem dX3_plain_89 : decode cX3_plain 89 = .ok (.bipush 62, 2) := dX3_plain_75g.2.2.2.2.2.2.1
theorem dX3_plain_91 : decode cX3_plain 91 = .ok (.if_icmp .ne 8, 3) := dX3_plain_75g.2.2.2.2.2.2.2.1
theorem dX3_plain_94 : decode cX3_plain 94 = .ok (.bipush 8, 2) := dX3_plain_75g.2.2.2.2.2.2.2.2.1
theorem dX3_plain_96 : decode cX3_plain 96 = .ok (.goto 5, 3) := dX3_plain_75g.2.2.2.2.2.2.2.2.2
theorem dX3_plain_99g : (decode cX3_plain 99 = .ok (.bipush 9, 2)) ∧ (decode cX3_plain 101 = .ok (.istore 4, 2)) ∧ (decode cX3_plain 103 = .ok (.iload_n 3, 1)) ∧ (decode cX3_plain 104 = .ok (.ifCond .eq 19, 3)) ∧ (decode cX3_plain 107 = .ok (.iload 4, 2)) ∧ (decode cX3_plain 109 = .ok (.bipush 9, 2)) ∧ (decode cX3_plain 111 = .ok (.if_icmp .ne 14, 3)) ∧ (decode cX3_plain 114 = .ok (.aload_n 0, 1)) ∧ (decode cX3_plain 115 = .ok (.getfield 46, 3)) ∧ (decode cX3_plain 118 = .ok (.bipush 61, 2)) := by decide +kernel
theorem dX3_plain_99 : decode cX3_plain 99 = .ok (.bipush 9, 2) := dX3_plain_99g.1
theorem dX3_plain_101 : decode cX3_plain 101 = .ok (.istore 4, 2) := dX3_plain_99g.2.1
theorem dX3_plain_103 : decode cX3_plain 103 = .ok (.iload_n 3, 1) := dX3_plain_99g.2.2.1
theorem dX3_plain_104 : decode cX3_plain 104 = .ok (.ifCond .eq 19, 3) := dX3_plain_99g.2.2.2.1
theorem dX3_plain_107 : decode cX3_plain 107 = .ok (.iload 4, 2) := dX3_plain_99g.2.2.2.2.1
theorem dX3_plain_109 : decode cX3_plain 109 = .ok (.bipush 9, 2) := dX3_plain_99g.2.2.2.2.2.1
theorem dX3_plain_111 : decode cX3_plain 111 = .ok (.if_icmp .ne 14, 3) := dX3_plain_99g.2.2.2.2.2.2.1
theorem dX3_plain_114 : decode cX3_plain 114 = .ok (.aload_n 0, 1) := dX3_plain_99g.2.2.2.2.2.2.2.1
theorem dX3_plain_115 : decode cX3_plain 115 = .ok (.getfield 46, 3) := dX3_plain_99g.2.2.2.2.2.2.2.2.1
theorem dX3_plain_118 : decode cX3_plain 118 = .ok (.bipush 61, 2) := dX3_plain_99g.2.2.2.2.2.2.2.2.2
theorem dX3_plain_120g : (decode cX3_plain 120 = .ok (.if_icmp .eq 5, 3)) ∧ (decode cX3_plain 123 = .ok (.iconst 0, 1)) ∧ (decode cX3_plain 124 = .ok (.ireturn, 1)) ∧ (decode cX3_plain 125 = .ok (.aload_n 0, 1)) ∧ (decode cX3_plain 126 = .ok (.aload_n 0, 1)) ∧ (decode cX3_plain 127 = .ok (.getfield 43, 3)) ∧ (decode cX3_plain 130 = .ok (.iconst 1, 1)) ∧ (decode cX3_plain 131 = .ok (.iadd, 1)) ∧ (decode cX3_plain 132 = .ok (.invokevirtual 66, 3)) ∧ (decode cX3_plain 135 = .ok (.aload_n 0, 1)) := by decide +kernel
theorem dX3_plain_120 : decode cX3_plain 120 = .ok (.if_icmp .eq 5, 3) := dX3_plain_120g.1
theorem dX3_plain_123 : decode cX3_plain 123 = .ok (.iconst 0, 1) := dX3_plain_120g.2.1
theorem dX3_plain_124 : decode cX3_plain 124 = .ok (.ireturn, 1) := dX3_plain_120g.2.2.1
theorem dX3_plain_125 : decode cX3_plain 125 = .ok (.aload_n 0, 1) := dX3_plain_120g.2.2.2.1
theorem dX3_plain_126 : decode cX3_plain 126 = .ok (.aload_n 0, 1) := dX3_plain_120g.2.2.2.2.1
theorem dX3_plain_127 : decode cX3_plain 127 = .ok (.getfield 43, 3) := dX3_plain_120g.2.2.2.2.2.1
theorem dX3_plain_130 : decode cX3_plain 130 = .ok (.iconst 1, 1) := dX3_plain_120g.2.2.2.2.2.2.1
theorem dX3_plain_131 : decode cX3_plain 131 = .ok (.iadd, 1) := dX3_plain_120g.2.2.2.2.2.2.2.1
theorem dX3_plain_132 : decode cX3_plain 132 = .ok (.invokevirtual 66, 3) := dX3_plain_120g.2.2.2.2.2.2.2.2.1
theorem dX3_plain_135 : decode cX3_plain 135 = .ok (.aload_n 0, 1) := dX3_plain_120g.2.2.2.2.2.2.2.2.2
theorem dX3_plain_136g : (decode cX3_plain 136 = .ok (.iload_n 1, 1)) ∧ (decode cX3_plain 137 = .ok (.invokevirtual 97, 3)) ∧ (decode cX3_plain 140 = .ok (.istore_n 3, 1)) ∧ (decode cX3_plain 141 = .ok (.aload_n 0, 1)) ∧ (decode cX3_plain 142 = .ok (.iload 4, 2)) ∧ (decode cX3_plain 144 = .ok (.iconst 0, 1)) ∧ (decode cX3_plain 145 = .ok (.invokevirtual 109, 3)) ∧ (decode cX3_plain 148 = .ok (.pop, 1)) ∧ (decode cX3_plain 149 = .ok (.iload_n 2, 1)) ∧ (decode cX3_plain 150 = .ok (.ifCond .eq 11, 3)) := by decide +kernel
theorem dX3_plain_136 : decode cX3_plain 136 = .ok (.iload_n 1, 1) := dX3_plain_136g.1
theorem dX3_plain_137 : decode cX3_plain 137 = .ok (.invokevirtual 97, 3) := dX3_plain_136g.2.1
theorem dX3_plain_140 : decode cX3_plain 140 = .ok (.istore_n 3, 1) := dX3_plain_136g.2.2.1
theorem dX3_plain_141 : decode cX3_plain 141 = .ok (.aload_n 0, 1) := dX3_plain_136g.2.2.2.1
theorem dX3_plain_142 : decode cX3_plain 142 = .ok (.iload 4, 2) := dX3_plain_136g.2.2.2.2.1
theorem dX3_plain_144 : decode cX3_plain 144 = .ok (.iconst 0, 1) := dX3_plain_136g.2.2.2.2.2.1
theorem dX3_plain_145 : decode cX3_plain 145 = .ok (.invokevirtual 109, 3) := dX3_plain_136g.2.2.2.2.2.2.1
theorem dX3_plain_148 : decode cX3_plain 148 = .ok (.pop, 1) := dX3_plain_136g.2.2.2.2.2.2.2.1
theorem dX3_plain_149 : decode cX3_plain 149 = .ok (.iload_n 2, 1) := dX3_plain_136g.2.2.2.2.2.2.2.2.1
theorem dX3_plain_150 : decode cX3_plain 150 = .ok (.ifCond .eq 11, 3) := dX3_plain_136g.2.2.2.2.2.2.2.2.2
theorem dX3_plain_153g : (decode cX3_plain 153 = .ok (.aload_n 0, 1)) ∧ (decode cX3_plain 154 = .ok (.bipush 10, 2)) ∧ (decode cX3_plain 156 = .ok (.iconst 0, 1)) ∧ (decode cX3_plain 157 = .ok (.invokevirtual 109, 3)) ∧ (decode cX3_plain 160 = .ok (.pop, 1)) ∧ (decode cX3_plain 161 = .ok (.iload_n 3, 1)) ∧ (decode cX3_plain 162 = .ok (.ireturn, 1)) := by decide +kernel
theorem dX3_plain_153 : decode cX3_plain 153 = .ok (.aload_n 0, 1) := dX3_plain_153g.1
theorem dX3_plain_154 : decode cX3_plain 154 = .ok (.bipush 10, 2) := dX3_plain_153g.2.1
theorem dX3_plain_156 : decode cX3_plain 156 = .ok (.iconst 0, 1) := dX3_plain_153g.2.2.1
theorem dX3_plain_157 : decode cX3_plain 157 = .ok (.invokevirtual 109, 3) := dX3_plain_153g.2.2.2.1
theorem dX3_plain_160 : decode cX3_plain 160 = .ok (.pop, 1) := dX3_plain_153g.2.2.2.2.1
theorem dX3_plain_161 : decode cX3_plain 161 = .ok (.iload_n 3, 1) := dX3_plain_153g.2.2.2.2.2.1
theorem dX3_plain_162 : decode cX3_plain 162 = .ok (.ireturn, 1) := dX3_plain_153g.2.2.2.2.2.2
set_option maxHeartbeats 4000000 in
set_option maxRecDepth 100000 in
theorem c_X3_plain (l : Launch) (E : Nat → Nat) (D : va_G) (G : th_G) (k : Nat) (h0 n : Nat) (hG0 : G h0 = some (7, n)) (x1 : Int32) (hx1 : (0 : Int) ≤ x1.toInt) (hk : (8 : Int) - x1.toInt ≤ (k : Int)) (henc : ∀ (h0 n : Nat) (hG0 : G h0 = some (7, n)) (x1 : Int32) (_ : (0 : Int) ≤ x1.toInt) (_ : (8 : Int) - x1.toInt ≤ (k : Int)), Met l yX3_enclosed (tb (.code yX3_enclosed cX3_enclosed 3 (some .boolean))) (rm (20 + 3 * k)) (va_Pc [.ref h0, .int x1] (th_P E D G)) (QI E D G (fun r => 0 ≤ (r : Int32).toInt ∧ (r : Int32).toInt ≤ 1)) 0 0 (th_A G)) : Met l yX3_plain (tb (.code yX3_plain cX3_plain 5 (some .boolean))) (rm (21 + 3 * k)) (va_Pc [.ref h0, .int x1] (th_P E D G)) (QI E D G (fun r => 0 ≤ (r : Int32).toInt ∧ (r : Int32).toInt ≤ 1)) 0 0 (th_A G) := by
  refine Met.ofW (cc := cX3_plain) (maxL := 5) (ret := (some .boolean)) (by decide) rfl ?_
  intro p e s m args below meth c s₁ B hml hv
  obtain ⟨hav, hI, hN, hK⟩ := hv
  have hx := B.exec
  have hb := B.bytes
  have hr := B.returns
  have hts := atoms_spec (ws := tb (.code yX3_plain cX3_plain 5 (some .boolean))) B.pre
  have hown : s.vm.findClass RX3 = some m.cls := findClass_of_methodNamed B.named
  have hlocks := B.notSynchronized
  have hS : va_S (th_A G) s.heap s.heap [] := va_S.rf
  have hl := lv_entry ([.ref h0, .int x1]) (n := 5) (Nat.le_of_ble_eq_true rfl)
  rw [show entryFrame m args 5 = entryFrame m ([.ref h0, .int x1] : List Value).toArray 5 from by rw [hav], lg_entry_eq]
  generalize (lg_sl ([.ref h0, .int x1]) ++ List.replicate (5 - (lg_sl ([.ref h0, .int x1])).length) Slot.unset).toArray = ls at hl ⊢
  have hl : lv_has ls 5 [(0, .ref h0), (1, .int x1)] := hl
  generalize hR : (headSpec (tb (.code yX3_plain cX3_plain 5 (some .boolean))) (rm (21 + 3 * k))).room = R
  have hR := hR.symm
  generalize hQ : MQ below (QI E D G (fun r => 0 ≤ (r : Int32).toInt ∧ (r : Int32).toInt ≤ 1)) args s 0 0 (th_A G) = QF
  have hQ := hQ.symm
  have J_149 : ∀ (H : Heap) (locs : List Loc) (ls : Array Slot) (v10762 : Int32) (v10763 : Int32), lv_has ls 5 [(3, .int v10762), (2, .int v10763), (0, .ref h0), (1, .int x1)] → ((0 : Int) ≤ v10762.toInt ∧ v10762.toInt ≤ 1) → ((0 : Int) ≤ v10763.toInt ∧ v10763.toInt ≤ 1) → ((0 : Int) ≤ x1.toInt) → th_I (okC E) D G [] H → va_S (th_A G) s.heap H locs → W p l e R s m args below meth c H locs 0 0 QF (F0 m 149 ls []) := by
    intro H locs ls v10762 v10763 hl k10764 k10765 k10766 hI hS
    refine lv_iload_n hx hb dX3_plain_149 rfl (lv_at hl 1 rfl) ?_
    refine lv_if_eq (tgt := 161) hx hb dX3_plain_150 (by decide) (fun c10767 => ?_) (fun c10767 => ?_)
    · skip
      have k10768 := iv_eq (X := v10763.toInt) (Y := (0)) rfl (by decide) c10767
      refine lv_iload_n hx hb dX3_plain_161 rfl (lv_at hl 0 rfl) ?_
      have hpost : 0 ≤ (v10762 : Int32).toInt ∧ (v10762 : Int32).toInt ≤ 1 := by first | decide | omega
      rw [hQ]
      exact W.zret (v := v10762) hx hb hr (th_zn (by omega)) (fun t ht hW => ⟨⟨v10762, (), rfl, hpost, by rw [ht]; exact hI, hN.warm hW, va_K.moved hW.alike hK⟩, hS.F ht⟩) hS.2.2 dX3_plain_162
    · skip
      have k10769 := iv_ne (X := v10763.toInt) (Y := (0)) rfl (by decide) c10767
      refine lv_aload_n hx hb dX3_plain_153 rfl (lv_at hl 2 rfl) ?_
      refine lv_bipush (v := 10) hx hb dX3_plain_154 (by decide) ?_
      refine lv_iconst (v := 0) hx hb dX3_plain_156 (by decide) ?_
      refine th_cVi (As := [.int 10, .int 0]) (rest := []) (n := 2) (d := 0) ⟨hx, hb, hml, hown, hts⟩ (c_X3_emit l E D G h0 (n) hG0 10 0) wd_723 wd_725 wp_17 wd_5 wd_726 (by decide +kernel) ⟨by rw [hR]; show 0 + 1 ≤ 21 + 3 * k; omega, by rw [hR]; show 8 + (3 + 11) + 40 * (0) ≤ 40 * (21 + 3 * k); omega⟩ hI hN hK hS (rc_7 hI hG0 List.not_mem_nil) rfl rfl hl.1 rfl (Nat.le_of_ble_eq_true rfl) dX3_plain_157 ⟨Nat.zero_le _, Nat.zero_le _⟩ (fun r10770 H locs hp hI hS => ?_)
      refine lv_pop hx hb dX3_plain_160 rfl ?_
      refine lv_iload_n hx hb dX3_plain_161 rfl (lv_at hl 0 rfl) ?_
      have hpost : 0 ≤ (v10762 : Int32).toInt ∧ (v10762 : Int32).toInt ≤ 1 := by first | decide | omega
      rw [hQ]
      exact W.zret (v := v10762) hx hb hr (th_zn (by omega)) (fun t ht hW => ⟨⟨v10762, (), rfl, hpost, by rw [ht]; exact hI, hN.warm hW, va_K.moved hW.alike hK⟩, hS.F ht⟩) hS.2.2 dX3_plain_162
  have J_125 : ∀ (H : Heap) (locs : List Loc) (ls : Array Slot) (v10771 : Int32) (v10772 : Int32) (v10773 : Int32), lv_has ls 5 [(4, .int v10771), (3, .int v10772), (2, .int v10773), (0, .ref h0), (1, .int x1)] → ((7 : Int) ≤ v10771.toInt ∧ v10771.toInt ≤ 9) → ((1 : Int) ≤ v10772.toInt ∧ v10772.toInt ≤ 1) → ((0 : Int) ≤ v10773.toInt ∧ v10773.toInt ≤ 1) → ((0 : Int) ≤ x1.toInt) → th_I (okC E) D G [] H → va_S (th_A G) s.heap H locs → W p l e R s m args below meth c H locs 0 0 QF (F0 m 125 ls []) := by
    intro H locs ls v10771 v10772 v10773 hl k10774 k10775 k10776 k10777 hI hS
    refine lv_aload_n hx hb dX3_plain_125 rfl (lv_at hl 3 rfl) ?_
    refine lv_aload_n hx hb dX3_plain_126 rfl (lv_at hl 3 rfl) ?_
    obtain ⟨a10778, a10780, a10782, a10784, a10786, a10788, w10790, w10793, w10796, w10797, w10800, w10801, hO, hq10779, hq10781, hq10783, hq10785, hq10787, hq10789, ⟨k10791, k10792⟩, ⟨k10794, k10795⟩, ⟨k10798, k10799⟩, k10802⟩ := op_7 hI hG0 List.not_mem_nil
    have hI := th_I.weak (a := h0) hI
    refine th_get hx hb hts inT3 hown hK hO rfl 10 (by decide) (hts _ (tb_c wd_139)) rfl rfl dX3_plain_127 ?_
    refine lv_iconst (v := 1) hx hb dX3_plain_130 (by decide) ?_
    refine lv_iadd hx hb dX3_plain_131 ?_
    refine lv_topi (fun v10803 e10804 => ?_)
    try have tv10803 : v10803.toInt = w10800.toInt + (1) := iv_add rfl (by decide) e10804 (by omega) (by omega)
    have hI := th_I.close hI hG0 hO (ok_7 hq10779 hq10781 hq10783 hq10785 hq10787 hq10789 ⟨by omega, by omega⟩ ⟨by omega, by omega⟩ ⟨by omega, by omega⟩ (by omega))
    refine th_cVv (As := [.int v10803]) (rest := []) (n := 1) (d := 0) ⟨hx, hb, hml, hown, hts⟩ (c_X3_moveTo l E D G h0 (n) hG0 v10803) wd_707 wd_709 wp_13 wd_5 wd_710 (by decide +kernel) ⟨by rw [hR]; show 0 + 1 ≤ 21 + 3 * k; omega, by rw [hR]; show 8 + (2 + 11) + 40 * (0) ≤ 40 * (21 + 3 * k); omega⟩ hI hN hK hS (rc_7 hI hG0 List.not_mem_nil) rfl rfl hl.1 rfl (Nat.le_of_ble_eq_true rfl) dX3_plain_132 ⟨Nat.zero_le _, Nat.zero_le _⟩ (fun H locs hI hS => ?_)
    refine lv_aload_n hx hb dX3_plain_135 rfl (lv_at hl 3 rfl) ?_
    refine lv_iload_n hx hb dX3_plain_136 rfl (lv_at hl 4 rfl) ?_
    refine th_cVi (As := [.int x1]) (rest := []) (n := 1) (d := 19) ⟨hx, hb, hml, hown, hts⟩ (c_X3_sum l E D G 8 h0 (n) hG0 x1 (by first | decide | omega) (by first | decide | omega) (c_X3_part l E D G 8)) wd_715 wd_717 wp_15 wd_5 wd_718 (by decide +kernel) ⟨by rw [hR]; show 19 + 1 ≤ 21 + 3 * k; omega, by rw [hR]; show 8 + (7 + 11) + 40 * (19) ≤ 40 * (21 + 3 * k); omega⟩ hI hN hK hS (rc_7 hI hG0 List.not_mem_nil) rfl rfl hl.1 rfl (Nat.le_of_ble_eq_true rfl) dX3_plain_137 ⟨Nat.zero_le _, Nat.zero_le _⟩ (fun r10806 H locs hp hI hS => ?_)
    have hp10807 := hp
    refine lv_istore_n (lv' := [(3, .int r10806), (4, .int v10771), (2, .int v10773), (0, .ref h0), (1, .int x1)]) hx hb dX3_plain_140 rfl hl (by decide) rfl (fun ls hl => ?_)
    refine lv_aload_n hx hb dX3_plain_141 rfl (lv_at hl 3 rfl) ?_
    refine lv_iload hx hb dX3_plain_142 (lv_at hl 1 rfl) ?_
    refine lv_iconst (v := 0) hx hb dX3_plain_144 (by decide) ?_
    refine th_cVi (As := [.int v10771, .int 0]) (rest := []) (n := 2) (d := 0) ⟨hx, hb, hml, hown, hts⟩ (c_X3_emit l E D G h0 (n) hG0 v10771 0) wd_723 wd_725 wp_17 wd_5 wd_726 (by decide +kernel) ⟨by rw [hR]; show 0 + 1 ≤ 21 + 3 * k; omega, by rw [hR]; show 8 + (3 + 11) + 40 * (0) ≤ 40 * (21 + 3 * k); omega⟩ hI hN hK hS (rc_7 hI hG0 List.not_mem_nil) rfl rfl hl.1 rfl (Nat.le_of_ble_eq_true rfl) dX3_plain_145 ⟨Nat.zero_le _, Nat.zero_le _⟩ (fun r10808 H locs hp hI hS => ?_)
    refine lv_pop hx hb dX3_plain_148 rfl ?_
    exact J_149 H locs ls r10806 v10773 (lv_sub hl [0, 2, 3, 4] rfl) ⟨by omega, by omega⟩ ⟨by omega, by omega⟩ (by omega) hI hS
  have J_123 : ∀ (H : Heap) (locs : List Loc) (ls : Array Slot) (v10809 : Int32) (v10810 : Int32) (v10811 : Int32), lv_has ls 5 [(4, .int v10809), (3, .int v10810), (2, .int v10811), (0, .ref h0), (1, .int x1)] → ((7 : Int) ≤ v10809.toInt ∧ v10809.toInt ≤ 9) → ((0 : Int) ≤ v10810.toInt ∧ v10810.toInt ≤ 1) → ((0 : Int) ≤ v10811.toInt ∧ v10811.toInt ≤ 1) → ((0 : Int) ≤ x1.toInt) → th_I (okC E) D G [] H → va_S (th_A G) s.heap H locs → W p l e R s m args below meth c H locs 0 0 QF (F0 m 123 ls []) := by
    intro H locs ls v10809 v10810 v10811 hl k10812 k10813 k10814 k10815 hI hS
    refine lv_iconst (v := 0) hx hb dX3_plain_123 (by decide) ?_
    have hpost : 0 ≤ (0 : Int32).toInt ∧ (0 : Int32).toInt ≤ 1 := by first | decide | omega
    rw [hQ]
    exact W.zret (v := 0) hx hb hr (by decide) (fun t ht hW => ⟨⟨0, (), rfl, hpost, by rw [ht]; exact hI, hN.warm hW, va_K.moved hW.alike hK⟩, hS.F ht⟩) hS.2.2 dX3_plain_124
  have J_101 : ∀ (H : Heap) (locs : List Loc) (ls : Array Slot) (v10816 : Int32) (v10817 : Int32) (v10818 : Int32), lv_has ls 5 [(3, .int v10816), (2, .int v10817), (0, .ref h0), (1, .int x1)] → ((0 : Int) ≤ v10816.toInt ∧ v10816.toInt ≤ 1) → ((0 : Int) ≤ v10817.toInt ∧ v10817.toInt ≤ 1) → ((0 : Int) ≤ x1.toInt) → ((7 : Int) ≤ v10818.toInt ∧ v10818.toInt ≤ 9) → th_I (okC E) D G [] H → va_S (th_A G) s.heap H locs → W p l e R s m args below meth c H locs 0 0 QF (F0 m 101 ls [.int v10818]) := by
    intro H locs ls v10816 v10817 v10818 hl k10819 k10820 k10821 k10822 hI hS
    refine lv_istore (lv' := [(4, .int v10818), (3, .int v10816), (2, .int v10817), (0, .ref h0), (1, .int x1)]) hx hb dX3_plain_101 hl (by decide) rfl (fun ls hl => ?_)
    refine lv_iload_n hx hb dX3_plain_103 rfl (lv_at hl 1 rfl) ?_
    refine lv_if_eq (tgt := 123) hx hb dX3_plain_104 (by decide) (fun c10823 => ?_) (fun c10823 => ?_)
    · skip
      have k10824 := iv_eq (X := v10816.toInt) (Y := (0)) rfl (by decide) c10823
      exact J_123 H locs ls v10818 v10816 v10817 (lv_sub hl [0, 1, 2, 3, 4] rfl) ⟨by omega, by omega⟩ ⟨by omega, by omega⟩ ⟨by omega, by omega⟩ (by omega) hI hS
    · skip
      have k10825 := iv_ne (X := v10816.toInt) (Y := (0)) rfl (by decide) c10823
      refine lv_iload hx hb dX3_plain_107 (lv_at hl 0 rfl) ?_
      refine lv_bipush (v := 9) hx hb dX3_plain_109 (by decide) ?_
      refine lv_icmp_ne (tgt := 125) hx hb dX3_plain_111 (by decide) (fun c10826 => ?_) (fun c10826 => ?_)
      · skip
        have k10827 := iv_ne (X := v10818.toInt) (Y := (9)) rfl (by decide) c10826
        exact J_125 H locs ls v10818 v10816 v10817 (lv_sub hl [0, 1, 2, 3, 4] rfl) ⟨by omega, by omega⟩ ⟨by omega, by omega⟩ ⟨by omega, by omega⟩ (by omega) hI hS
      · skip
        have k10828 := iv_eq (X := v10818.toInt) (Y := (9)) rfl (by decide) c10826
        refine lv_aload_n hx hb dX3_plain_114 rfl (lv_at hl 3 rfl) ?_
        obtain ⟨a10829, a10831, a10833, a10835, a10837, a10839, w10841, w10844, w10847, w10848, w10851, w10852, hO, hq10830, hq10832, hq10834, hq10836, hq10838, hq10840, ⟨k10842, k10843⟩, ⟨k10845, k10846⟩, ⟨k10849, k10850⟩, k10853⟩ := op_7 hI hG0 List.not_mem_nil
        have hI := th_I.weak (a := h0) hI
        refine th_get hx hb hts inT3 hown hK hO rfl 11 (by decide) (hts _ (tb_c wd_140)) rfl rfl dX3_plain_115 ?_
        refine lv_bipush (v := 61) hx hb dX3_plain_118 (by decide) ?_
        have k10854 := iv_lo w10852
        have k10855 := iv_hi w10852
        refine lv_icmp_eq (tgt := 125) hx hb dX3_plain_120 (by decide) (fun c10856 => ?_) (fun c10856 => ?_)
        · skip
          have k10857 := iv_eq (X := w10852.toInt) (Y := (61)) rfl (by decide) c10856
          have hI := th_I.close hI hG0 hO (ok_7 hq10830 hq10832 hq10834 hq10836 hq10838 hq10840 ⟨by omega, by omega⟩ ⟨by omega, by omega⟩ ⟨by omega, by omega⟩ (by omega))
          exact J_125 H locs ls v10818 v10816 v10817 (lv_sub hl [0, 1, 2, 3, 4] rfl) ⟨by omega, by omega⟩ ⟨by omega, by omega⟩ ⟨by omega, by omega⟩ (by omega) hI hS
        · skip
          have k10858 := iv_ne (X := w10852.toInt) (Y := (61)) rfl (by decide) c10856
          have hI := th_I.close hI hG0 hO (ok_7 hq10830 hq10832 hq10834 hq10836 hq10838 hq10840 ⟨by omega, by omega⟩ ⟨by omega, by omega⟩ ⟨by omega, by omega⟩ (by omega))
          exact J_123 H locs ls v10818 v10816 v10817 (lv_sub hl [0, 1, 2, 3, 4] rfl) ⟨by omega, by omega⟩ ⟨by omega, by omega⟩ ⟨by omega, by omega⟩ (by omega) hI hS
  have J_47 : ∀ (H : Heap) (locs : List Loc) (ls : Array Slot) (v10859 : Int32) (v10860 : Int32), lv_has ls 5 [(3, .int v10859), (2, .int v10860), (0, .ref h0), (1, .int x1)] → ((0 : Int) ≤ v10859.toInt ∧ v10859.toInt ≤ 400) → ((0 : Int) ≤ v10860.toInt ∧ v10860.toInt ≤ 1) → ((0 : Int) ≤ x1.toInt) → th_I (okC E) D G [] H → va_S (th_A G) s.heap H locs → W p l e R s m args below meth c H locs 0 0 QF (F0 m 47 ls []) := by
    intro H locs ls v10859 v10860 hl k10861 k10862 k10863 hI hS
    refine lv_aload_n hx hb dX3_plain_47 rfl (lv_at hl 2 rfl) ?_
    obtain ⟨a10864, a10866, a10868, a10870, a10872, a10874, w10876, w10879, w10882, w10883, w10886, w10887, hO, hq10865, hq10867, hq10869, hq10871, hq10873, hq10875, ⟨k10877, k10878⟩, ⟨k10880, k10881⟩, ⟨k10884, k10885⟩, k10888⟩ := op_7 hI hG0 List.not_mem_nil
    have hI := th_I.weak (a := h0) hI
    refine th_get hx hb hts inT3 hown hK hO rfl 11 (by decide) (hts _ (tb_c wd_140)) rfl rfl dX3_plain_48 ?_
    refine lv_bipush (v := 40) hx hb dX3_plain_51 (by decide) ?_
    have k10889 := iv_lo w10887
    have k10890 := iv_hi w10887
    refine lv_icmp_ne (tgt := 65) hx hb dX3_plain_53 (by decide) (fun c10891 => ?_) (fun c10891 => ?_)
    · skip
      have k10892 := iv_ne (X := w10887.toInt) (Y := (40)) rfl (by decide) c10891
      refine lv_aload_n hx hb dX3_plain_65 rfl (lv_at hl 2 rfl) ?_
      refine lv_iload_n hx hb dX3_plain_66 rfl (lv_at hl 3 rfl) ?_
      have hI := th_I.close hI hG0 hO (ok_7 hq10865 hq10867 hq10869 hq10871 hq10873 hq10875 ⟨by omega, by omega⟩ ⟨by omega, by omega⟩ ⟨by omega, by omega⟩ (by omega))
      refine th_cVi (As := [.int x1]) (rest := []) (n := 1) (d := 19) ⟨hx, hb, hml, hown, hts⟩ (c_X3_sum l E D G 8 h0 (n) hG0 x1 (by first | decide | omega) (by first | decide | omega) (c_X3_part l E D G 8)) wd_715 wd_717 wp_15 wd_5 wd_718 (by decide +kernel) ⟨by rw [hR]; show 19 + 1 ≤ 21 + 3 * k; omega, by rw [hR]; show 8 + (7 + 11) + 40 * (19) ≤ 40 * (21 + 3 * k); omega⟩ hI hN hK hS (rc_7 hI hG0 List.not_mem_nil) rfl rfl hl.1 rfl (Nat.le_of_ble_eq_true rfl) dX3_plain_67 ⟨Nat.zero_le _, Nat.zero_le _⟩ (fun r10893 H locs hp hI hS => ?_)
      have hp10894 := hp
      refine lv_istore_n (lv' := [(3, .int r10893), (2, .int v10860), (0, .ref h0), (1, .int x1)]) hx hb dX3_plain_70 rfl hl (by decide) rfl (fun ls hl => ?_)
      refine lv_aload_n hx hb dX3_plain_71 rfl (lv_at hl 2 rfl) ?_
      obtain ⟨a10895, a10897, a10899, a10901, a10903, a10905, w10907, w10910, w10913, w10914, w10917, w10918, hO, hq10896, hq10898, hq10900, hq10902, hq10904, hq10906, ⟨k10908, k10909⟩, ⟨k10911, k10912⟩, ⟨k10915, k10916⟩, k10919⟩ := op_7 hI hG0 List.not_mem_nil
      have hI := th_I.weak (a := h0) hI
      refine th_get hx hb hts inT3 hown hK hO rfl 11 (by decide) (hts _ (tb_c wd_140)) rfl rfl dX3_plain_72 ?_
      refine lv_bipush (v := 60) hx hb dX3_plain_75 (by decide) ?_
      have k10920 := iv_lo w10918
      have k10921 := iv_hi w10918
      refine lv_icmp_ne (tgt := 85) hx hb dX3_plain_77 (by decide) (fun c10922 => ?_) (fun c10922 => ?_)
      · skip
        have k10923 := iv_ne (X := w10918.toInt) (Y := (60)) rfl (by decide) c10922
        refine lv_aload_n hx hb dX3_plain_85 rfl (lv_at hl 2 rfl) ?_
        refine th_get hx hb hts inT3 hown hK hO rfl 11 (by decide) (hts _ (tb_c wd_140)) rfl rfl dX3_plain_86 ?_
        refine lv_bipush (v := 62) hx hb dX3_plain_89 (by decide) ?_
        refine lv_icmp_ne (tgt := 99) hx hb dX3_plain_91 (by decide) (fun c10924 => ?_) (fun c10924 => ?_)
        · skip
          have k10925 := iv_ne (X := w10918.toInt) (Y := (62)) rfl (by decide) c10924
          refine lv_bipush (v := 9) hx hb dX3_plain_99 (by decide) ?_
          have hI := th_I.close hI hG0 hO (ok_7 hq10896 hq10898 hq10900 hq10902 hq10904 hq10906 ⟨by omega, by omega⟩ ⟨by omega, by omega⟩ ⟨by omega, by omega⟩ (by omega))
          exact J_101 H locs ls r10893 v10860 9 (lv_sub hl [0, 1, 2, 3] rfl) ⟨by omega, by omega⟩ ⟨by omega, by omega⟩ (by omega) ⟨by decide, by decide⟩ hI hS
        · skip
          have k10926 := iv_eq (X := w10918.toInt) (Y := (62)) rfl (by decide) c10924
          refine lv_bipush (v := 8) hx hb dX3_plain_94 (by decide) ?_
          refine lv_goto (tgt := 101) hx hb dX3_plain_96 (by decide) ?_
          have hI := th_I.close hI hG0 hO (ok_7 hq10896 hq10898 hq10900 hq10902 hq10904 hq10906 ⟨by omega, by omega⟩ ⟨by omega, by omega⟩ ⟨by omega, by omega⟩ (by omega))
          exact J_101 H locs ls r10893 v10860 8 (lv_sub hl [0, 1, 2, 3] rfl) ⟨by omega, by omega⟩ ⟨by omega, by omega⟩ (by omega) ⟨by decide, by decide⟩ hI hS
      · skip
        have k10927 := iv_eq (X := w10918.toInt) (Y := (60)) rfl (by decide) c10922
        refine lv_bipush (v := 7) hx hb dX3_plain_80 (by decide) ?_
        refine lv_goto (tgt := 101) hx hb dX3_plain_82 (by decide) ?_
        have hI := th_I.close hI hG0 hO (ok_7 hq10896 hq10898 hq10900 hq10902 hq10904 hq10906 ⟨by omega, by omega⟩ ⟨by omega, by omega⟩ ⟨by omega, by omega⟩ (by omega))
        exact J_101 H locs ls r10893 v10860 7 (lv_sub hl [0, 1, 2, 3] rfl) ⟨by omega, by omega⟩ ⟨by omega, by omega⟩ (by omega) ⟨by decide, by decide⟩ hI hS
    · skip
      have k10928 := iv_eq (X := w10887.toInt) (Y := (40)) rfl (by decide) c10891
      refine lv_aload_n hx hb dX3_plain_56 rfl (lv_at hl 2 rfl) ?_
      refine lv_iload_n hx hb dX3_plain_57 rfl (lv_at hl 3 rfl) ?_
      have hI := th_I.close hI hG0 hO (ok_7 hq10865 hq10867 hq10869 hq10871 hq10873 hq10875 ⟨by omega, by omega⟩ ⟨by omega, by omega⟩ ⟨by omega, by omega⟩ (by omega))
      refine th_cVi (As := [.int x1]) (rest := []) (n := 1) (d := (20 + 3 * k)) ⟨hx, hb, hml, hown, hts⟩ (henc h0 n hG0 x1 (by omega) (by omega)) wd_739 wd_741 wp_21 wd_5 wd_742 (by decide +kernel) ⟨by rw [hR]; show (20 + 3 * k) + 1 ≤ 21 + 3 * k; omega, by rw [hR]; show 8 + (3 + 11) + 40 * ((20 + 3 * k)) ≤ 40 * (21 + 3 * k); omega⟩ hI hN hK hS (rc_7 hI hG0 List.not_mem_nil) rfl rfl hl.1 rfl (Nat.le_of_ble_eq_true rfl) dX3_plain_58 ⟨Nat.zero_le _, Nat.zero_le _⟩ (fun r10929 H locs hp hI hS => ?_)
      have hp10930 := hp
      refine lv_istore_n (lv' := [(3, .int r10929), (2, .int v10860), (0, .ref h0), (1, .int x1)]) hx hb dX3_plain_61 rfl hl (by decide) rfl (fun ls hl => ?_)
      refine lv_goto (tgt := 149) hx hb dX3_plain_62 (by decide) ?_
      exact J_149 H locs ls r10929 v10860 (lv_sub hl [0, 1, 2, 3] rfl) ⟨by omega, by omega⟩ ⟨by omega, by omega⟩ (by omega) hI hS
  have J_4 : ∀ (nn : Nat) (H : Heap) (locs : List Loc) (ls : Array Slot) (v10931 : Int32) (v10932 : Int32), (Int.toNat (400 - v10931.toInt) = nn) → lv_has ls 5 [(3, .int v10931), (2, .int v10932), (0, .ref h0), (1, .int x1)] → ((0 : Int) ≤ v10931.toInt ∧ v10931.toInt ≤ 400) → ((0 : Int) ≤ v10932.toInt ∧ v10932.toInt ≤ 1) → ((0 : Int) ≤ x1.toInt) → th_I (okC E) D G [] H → va_S (th_A G) s.heap H locs → W p l e R s m args below meth c H locs 0 0 QF (F0 m 4 ls []) := by
    intro nn
    induction nn using Nat.strongRecOn with
    | ind nn ih_4 =>
      intro H locs ls v10931 v10932 hm hl k10933 k10934 k10935 hI hS
      have J_30 : ∀ (H : Heap) (locs : List Loc) (ls : Array Slot) (v10938 : Int32), lv_has ls 5 [(3, .int v10931), (2, .int v10932), (0, .ref h0), (1, .int x1)] → ((0 : Int) ≤ v10931.toInt ∧ v10931.toInt ≤ 399) → ((0 : Int) ≤ v10938.toInt ∧ v10938.toInt ≤ 1) → th_I (okC E) D G [] H → va_S (th_A G) s.heap H locs → W p l e R s m args below meth c H locs 0 0 QF (F0 m 30 ls [.int v10938]) := by
        intro H locs ls v10938 hl k10939 k10940 hI hS
        refine lv_istore_n (lv' := [(2, .int v10938), (3, .int v10931), (0, .ref h0), (1, .int x1)]) hx hb dX3_plain_30 rfl hl (by decide) rfl (fun ls hl => ?_)
        refine lv_aload_n hx hb dX3_plain_31 rfl (lv_at hl 2 rfl) ?_
        refine lv_aload_n hx hb dX3_plain_32 rfl (lv_at hl 2 rfl) ?_
        obtain ⟨a10941, a10943, a10945, a10947, a10949, a10951, w10953, w10956, w10959, w10960, w10963, w10964, hO, hq10942, hq10944, hq10946, hq10948, hq10950, hq10952, ⟨k10954, k10955⟩, ⟨k10957, k10958⟩, ⟨k10961, k10962⟩, k10965⟩ := op_7 hI hG0 List.not_mem_nil
        have hI := th_I.weak (a := h0) hI
        refine th_get hx hb hts inT3 hown hK hO rfl 10 (by decide) (hts _ (tb_c wd_139)) rfl rfl dX3_plain_33 ?_
        refine lv_iconst (v := 1) hx hb dX3_plain_36 (by decide) ?_
        refine lv_iadd hx hb dX3_plain_37 ?_
        refine lv_topi (fun v10966 e10967 => ?_)
        try have tv10966 : v10966.toInt = w10963.toInt + (1) := iv_add rfl (by decide) e10967 (by omega) (by omega)
        have hI := th_I.close hI hG0 hO (ok_7 hq10942 hq10944 hq10946 hq10948 hq10950 hq10952 ⟨by omega, by omega⟩ ⟨by omega, by omega⟩ ⟨by omega, by omega⟩ (by omega))
        refine th_cVv (As := [.int v10966]) (rest := []) (n := 1) (d := 0) ⟨hx, hb, hml, hown, hts⟩ (c_X3_moveTo l E D G h0 (n) hG0 v10966) wd_707 wd_709 wp_13 wd_5 wd_710 (by decide +kernel) ⟨by rw [hR]; show 0 + 1 ≤ 21 + 3 * k; omega, by rw [hR]; show 8 + (2 + 11) + 40 * (0) ≤ 40 * (21 + 3 * k); omega⟩ hI hN hK hS (rc_7 hI hG0 List.not_mem_nil) rfl rfl hl.1 rfl (Nat.le_of_ble_eq_true rfl) dX3_plain_38 ⟨Nat.zero_le _, Nat.zero_le _⟩ (fun H locs hI hS => ?_)
        obtain ⟨v10969, e10970⟩ : ∃ y : Int32, y = v10931 + (1) := ⟨_, rfl⟩
        have tv10969 : v10969.toInt = v10931.toInt + (1) := iv_add rfl (by decide) e10970 (by omega) (by omega)
        refine lv_iinc (v := v10969) (lv' := [(3, .int v10969), (2, .int v10938), (0, .ref h0), (1, .int x1)]) hx hb dX3_plain_41 hl (k := 1) rfl (by rw [e10970]; rfl) (by decide) rfl (fun ls hl => ?_)
        refine lv_goto (tgt := 4) hx hb dX3_plain_44 (by decide) ?_
        exact ih_4 _ (by omega) H locs ls v10969 v10938 rfl (lv_sub hl [0, 1, 2, 3] rfl) ⟨by omega, by omega⟩ ⟨by omega, by omega⟩ (by omega) hI hS
      refine lv_iload_n hx hb dX3_plain_4 rfl (lv_at hl 0 rfl) ?_
      refine lv_sipush (v := 400) hx hb dX3_plain_5 (by decide) ?_
      refine lv_icmp_ge (tgt := 47) hx hb dX3_plain_8 (by decide) (fun c10971 => ?_) (fun c10971 => ?_)
      · skip
        have k10972 := iv_le (X := (400)) (Y := v10931.toInt) (by decide) rfl c10971
        exact J_47 H locs ls v10931 v10932 (lv_sub hl [0, 1, 2, 3] rfl) ⟨by omega, by omega⟩ ⟨by omega, by omega⟩ (by omega) hI hS
      · skip
        have k10973 := iv_nle (X := (400)) (Y := v10931.toInt) (by decide) rfl c10971
        refine lv_aload_n hx hb dX3_plain_11 rfl (lv_at hl 2 rfl) ?_
        obtain ⟨a10974, a10976, a10978, a10980, a10982, a10984, w10986, w10989, w10992, w10993, w10996, w10997, hO, hq10975, hq10977, hq10979, hq10981, hq10983, hq10985, ⟨k10987, k10988⟩, ⟨k10990, k10991⟩, ⟨k10994, k10995⟩, k10998⟩ := op_7 hI hG0 List.not_mem_nil
        have hI := th_I.weak (a := h0) hI
        refine th_get hx hb hts inT3 hown hK hO rfl 11 (by decide) (hts _ (tb_c wd_140)) rfl rfl dX3_plain_12 ?_
        refine lv_sipush (v := 263) hx hb dX3_plain_15 (by decide) ?_
        have k10999 := iv_lo w10997
        have k11000 := iv_hi w10997
        refine lv_icmp_ne (tgt := 47) hx hb dX3_plain_18 (by decide) (fun c11001 => ?_) (fun c11001 => ?_)
        · skip
          have k11002 := iv_ne (X := w10997.toInt) (Y := (263)) rfl (by decide) c11001
          have hI := th_I.close hI hG0 hO (ok_7 hq10975 hq10977 hq10979 hq10981 hq10983 hq10985 ⟨by omega, by omega⟩ ⟨by omega, by omega⟩ ⟨by omega, by omega⟩ (by omega))
          exact J_47 H locs ls v10931 v10932 (lv_sub hl [0, 1, 2, 3] rfl) ⟨by omega, by omega⟩ ⟨by omega, by omega⟩ (by omega) hI hS
        · skip
          have k11003 := iv_eq (X := w10997.toInt) (Y := (263)) rfl (by decide) c11001
          refine lv_iload_n hx hb dX3_plain_21 rfl (lv_at hl 1 rfl) ?_
          refine lv_if_ne (tgt := 29) hx hb dX3_plain_22 (by decide) (fun c11004 => ?_) (fun c11004 => ?_)
          · skip
            have k11005 := iv_ne (X := v10932.toInt) (Y := (0)) rfl (by decide) c11004
            refine lv_iconst (v := 0) hx hb dX3_plain_29 (by decide) ?_
            have hI := th_I.close hI hG0 hO (ok_7 hq10975 hq10977 hq10979 hq10981 hq10983 hq10985 ⟨by omega, by omega⟩ ⟨by omega, by omega⟩ ⟨by omega, by omega⟩ (by omega))
            exact J_30 H locs ls 0 (lv_sub hl [0, 1, 2, 3] rfl) ⟨by omega, by omega⟩ ⟨by decide, by decide⟩ hI hS
          · skip
            have k11006 := iv_eq (X := v10932.toInt) (Y := (0)) rfl (by decide) c11004
            refine lv_iconst (v := 1) hx hb dX3_plain_25 (by decide) ?_
            refine lv_goto (tgt := 30) hx hb dX3_plain_26 (by decide) ?_
            have hI := th_I.close hI hG0 hO (ok_7 hq10975 hq10977 hq10979 hq10981 hq10983 hq10985 ⟨by omega, by omega⟩ ⟨by omega, by omega⟩ ⟨by omega, by omega⟩ (by omega))
            exact J_30 H locs ls 1 (lv_sub hl [0, 1, 2, 3] rfl) ⟨by omega, by omega⟩ ⟨by decide, by decide⟩ hI hS
  refine lv_iconst (v := 0) hx hb dX3_plain_0 (by decide) ?_
  refine lv_istore_n (lv' := [(2, .int 0), (0, .ref h0), (1, .int x1)]) hx hb dX3_plain_1 rfl hl (by decide) rfl (fun ls hl => ?_)
  refine lv_iconst (v := 0) hx hb dX3_plain_2 (by decide) ?_
  refine lv_istore_n (lv' := [(3, .int 0), (2, .int 0), (0, .ref h0), (1, .int x1)]) hx hb dX3_plain_3 rfl hl (by decide) rfl (fun ls hl => ?_)
  have zl : (0 : Int32).toInt = 0 := by decide
  exact J_4 _ s.heap [] ls 0 0 rfl (lv_sub hl [0, 1, 2, 3] rfl) ⟨by decide, by decide⟩ ⟨by decide, by decide⟩ (by omega) hI hS
theorem dX3_test_0g : (decode cX3_test 0 = .ok (.iconst (-1), 1)) ∧ (decode cX3_test 1 = .ok (.istore_n 2, 1)) ∧ (decode cX3_test 2 = .ok (.aload_n 0, 1)) ∧ (decode cX3_test 3 = .ok (.iload_n 1, 1)) ∧ (decode cX3_test 4 = .ok (.invokevirtual 103, 3)) ∧ (decode cX3_test 7 = .ok (.istore_n 3, 1)) ∧ (decode cX3_test 8 = .ok (.iconst 0, 1)) ∧ (decode cX3_test 9 = .ok (.istore 4, 2)) ∧ (decode cX3_test 11 = .ok (.iload 4, 2)) ∧ (decode cX3_test 13 = .ok (.sipush 400, 3)) := by decide +kernel
theorem dX3_test_0 : decode cX3_test 0 = .ok (.iconst (-1), 1) := dX3_test_0g.1
theorem dX3_test_1 : decode cX3_test 1 = .ok (.istore_n 2, 1) := dX3_test_0g.2.1
theorem dX3_test_2 : decode cX3_test 2 = .ok (.aload_n 0, 1) := dX3_test_0g.2.2.1
theorem dX3_test_3 : decode cX3_test 3 = .ok (.iload_n 1, 1) := dX3_test_0g.2.2.2.1
theorem dX3_test_4 : decode cX3_test 4 = .ok (.invokevirtual 103, 3) := dX3_test_0g.2.2.2.2.1
theorem dX3_test_7 : decode cX3_test 7 = .ok (.istore_n 3, 1) := dX3_test_0g.2.2.2.2.2.1
theorem dX3_test_8 : decode cX3_test 8 = .ok (.iconst 0, 1) := dX3_test_0g.2.2.2.2.2.2.1
theorem dX3_test_9 : decode cX3_test 9 = .ok (.istore 4, 2) := dX3_test_0g.2.2.2.2.2.2.2.1
theorem dX3_test_11 : decode cX3_test 11 = .ok (.iload 4, 2) := dX3_test_0g.2.2.2.2.2.2.2.2.1
theorem dX3_test_13 : decode cX3_test 13 = .ok (.sipush 400, 3) := dX3_test_0g.2.2.2.2.2.2.2.2.2
theorem dX3_test_16g : (decode cX3_test 16 = .ok (.if_icmp .ge 112, 3)) ∧ (decode cX3_test 19 = .ok (.iload_n 3, 1)) ∧ (decode cX3_test 20 = .ok (.ifCond .eq 108, 3)) ∧ (decode cX3_test 23 = .ok (.aload_n 0, 1)) ∧ (decode cX3_test 24 = .ok (.getfield 46, 3)) ∧ (decode cX3_test 27 = .ok (.sipush 261, 3)) ∧ (decode cX3_test 30 = .ok (.if_icmp .eq 13, 3)) ∧ (decode cX3_test 33 = .ok (.aload_n 0, 1)) ∧ (decode cX3_test 34 = .ok (.getfield 46, 3)) ∧ (decode cX3_test 37 = .ok (.sipush 262, 3)) := by decide +kernel
theorem dX3_test_16 : decode cX3_test 16 = .ok (.if_icmp .ge 112, 3) := dX3_test_16g.1
theorem dX3_test_19 : decode cX3_test 19 = .ok (.iload_n 3, 1) := dX3_test_16g.2.1
theorem dX3_test_20 : decode cX3_test 20 = .ok (.ifCond .eq 108, 3) := dX3_test_16g.2.2.1
theorem dX3_test_23 : decode cX3_test 23 = .ok (.aload_n 0, 1) := dX3_test_16g.2.2.2.1
theorem dX3_test_24 : decode cX3_test 24 = .ok (.getfield 46, 3) := dX3_test_16g.2.2.2.2.1
theorem dX3_test_27 : decode cX3_test 27 = .ok (.sipush 261, 3) := dX3_test_16g.2.2.2.2.2.1
theorem dX3_test_30 : decode cX3_test 30 = .ok (.if_icmp .eq 13, 3) := dX3_test_16g.2.2.2.2.2.2.1
theorem dX3_test_33 : decode cX3_test 33 = .ok (.aload_n 0, 1) := dX3_test_16g.2.2.2.2.2.2.2.1
theorem dX3_test_34 : decode cX3_test 34 = .ok (.getfield 46, 3) := dX3_test_16g.2.2.2.2.2.2.2.2.1
theorem dX3_test_37 : decode cX3_test 37 = .ok (.sipush 262, 3) := dX3_test_16g.2.2.2.2.2.2.2.2.2
theorem dX3_test_40g : (decode cX3_test 40 = .ok (.if_icmp .ne 88, 3)) ∧ (decode cX3_test 43 = .ok (.aload_n 0, 1)) ∧ (decode cX3_test 44 = .ok (.getfield 46, 3)) ∧ (decode cX3_test 47 = .ok (.sipush 261, 3)) ∧ (decode cX3_test 50 = .ok (.if_icmp .ne 7, 3)) ∧ (decode cX3_test 53 = .ok (.iconst 1, 1)) ∧ (decode cX3_test 54 = .ok (.goto 4, 3)) ∧ (decode cX3_test 57 = .ok (.iconst 0, 1)) ∧ (decode cX3_test 58 = .ok (.istore 5, 2)) ∧ (decode cX3_test 60 = .ok (.iload 5, 2)) := by decide +kernel
theorem dX3_test_40 : decode cX3_test 40 = .ok (.if_icmp .ne 88, 3) := dX3_test_40g.1
theorem dX3_test_43 : decode cX3_test 43 = .ok (.aload_n 0, 1) := dX3_test_40g.2.1
theorem dX3_test_44 : decode cX3_test 44 = .ok (.getfield 46, 3) := dX3_test_40g.2.2.1
theorem dX3_test_47 : decode cX3_test 47 = .ok (.sipush 261, 3) := dX3_test_40g.2.2.2.1
theorem dX3_test_50 : decode cX3_test 50 = .ok (.if_icmp .ne 7, 3) := dX3_test_40g.2.2.2.2.1
theorem dX3_test_53 : decode cX3_test 53 = .ok (.iconst 1, 1) := dX3_test_40g.2.2.2.2.2.1
theorem dX3_test_54 : decode cX3_test 54 = .ok (.goto 4, 3) := dX3_test_40g.2.2.2.2.2.2.1
theorem dX3_test_57 : decode cX3_test 57 = .ok (.iconst 0, 1) := dX3_test_40g.2.2.2.2.2.2.2.1
theorem dX3_test_58 : decode cX3_test 58 = .ok (.istore 5, 2) := dX3_test_40g.2.2.2.2.2.2.2.2.1
theorem dX3_test_60 : decode cX3_test 60 = .ok (.iload 5, 2) := dX3_test_40g.2.2.2.2.2.2.2.2.2
theorem dX3_test_62g : (decode cX3_test 62 = .ok (.ifCond .eq 8, 3)) ∧ (decode cX3_test 65 = .ok (.aload_n 0, 1)) ∧ (decode cX3_test 66 = .ok (.iload_n 2, 1)) ∧ (decode cX3_test 67 = .ok (.invokevirtual 106, 3)) ∧ (decode cX3_test 70 = .ok (.aload_n 0, 1)) ∧ (decode cX3_test 71 = .ok (.iload 5, 2)) ∧ (decode cX3_test 73 = .ok (.ifCond .eq 8, 3)) ∧ (decode cX3_test 76 = .ok (.bipush 11, 2)) ∧ (decode cX3_test 78 = .ok (.goto 5, 3)) ∧ (decode cX3_test 81 = .ok (.bipush 12, 2)) := by decide +kernel
theorem dX3_test_62 : decode cX3_test 62 = .ok (.ifCond .eq 8, 3) := dX3_test_62g.1
theorem dX3_test_65 : decode cX3_test 65 = .ok (.aload_n 0, 1) := dX3_test_62g.2.1
theorem dX3_test_66 : decode cX3_test 66 = .ok (.iload_n 2, 1) := dX3_test_62g.2.2.1
theorem dX3_test_67 : decode cX3_test 67 = .ok (.invokevirtual 106, 3) := dX3_test_62g.2.2.2.1
theorem dX3_test_70 : decode cX3_test 70 = .ok (.aload_n 0, 1) := dX3_test_62g.2.2.2.2.1
theorem dX3_test_71 : decode cX3_test 71 = .ok (.iload 5, 2) := dX3_test_62g.2.2.2.2.2.1
theorem dX3_test_73 : decode cX3_test 73 = .ok (.ifCond .eq 8, 3) := dX3_test_62g.2.2.2.2.2.2.1
theorem dX3_test_76 : decode cX3_test 76 = .ok (.bipush 11, 2) := dX3_test_62g.2.2.2.2.2.2.2.1
theorem dX3_test_78 : decode cX3_test 78 = .ok (.goto 5, 3) := dX3_test_62g.2.2.2.2.2.2.2.2.1
theorem dX3_test_81 : decode cX3_test 81 = .ok (.bipush 12, 2) := dX3_test_62g.2.2.2.2.2.2.2.2.2
theorem dX3_test_83g : (decode cX3_test 83 = .ok (.iconst 0, 1)) ∧ (decode cX3_test 84 = .ok (.invokevirtual 109, 3)) ∧ (decode cX3_test 87 = .ok (.istore 6, 2)) ∧ (decode cX3_test 89 = .ok (.aload_n 0, 1)) ∧ (decode cX3_test 90 = .ok (.aload_n 0, 1)) ∧ (decode cX3_test 91 = .ok (.getfield 43, 3)) ∧ (decode cX3_test 94 = .ok (.iconst 1, 1)) ∧ (decode cX3_test 95 = .ok (.iadd, 1)) ∧ (decode cX3_test 96 = .ok (.invokevirtual 66, 3)) ∧ (decode cX3_test 99 = .ok (.aload_n 0, 1)) := by decide +kernel
theorem dX3_test_83 : decode cX3_test 83 = .ok (.iconst 0, 1) := dX3_test_83g.1
theorem dX3_test_84 : decode cX3_test 84 = .ok (.invokevirtual 109, 3) := dX3_test_83g.2.1
theorem dX3_test_87 : decode cX3_test 87 = .ok (.istore 6, 2) := dX3_test_83g.2.2.1
theorem dX3_test_89 : decode cX3_test 89 = .ok (.aload_n 0, 1) := dX3_test_83g.2.2.2.1
theorem dX3_test_90 : decode cX3_test 90 = .ok (.aload_n 0, 1) := dX3_test_83g.2.2.2.2.1
theorem dX3_test_91 : decode cX3_test 91 = .ok (.getfield 43, 3) := dX3_test_83g.2.2.2.2.2.1
theorem dX3_test_94 : decode cX3_test 94 = .ok (.iconst 1, 1) := dX3_test_83g.2.2.2.2.2.2.1
theorem dX3_test_95 : decode cX3_test 95 = .ok (.iadd, 1) := dX3_test_83g.2.2.2.2.2.2.2.1
theorem dX3_test_96 : decode cX3_test 96 = .ok (.invokevirtual 66, 3) := dX3_test_83g.2.2.2.2.2.2.2.2.1
theorem dX3_test_99 : decode cX3_test 99 = .ok (.aload_n 0, 1) := dX3_test_83g.2.2.2.2.2.2.2.2.2
theorem dX3_test_100g : (decode cX3_test 100 = .ok (.iload_n 1, 1)) ∧ (decode cX3_test 101 = .ok (.invokevirtual 103, 3)) ∧ (decode cX3_test 104 = .ok (.istore_n 3, 1)) ∧ (decode cX3_test 105 = .ok (.iload 5, 2)) ∧ (decode cX3_test 107 = .ok (.ifCond .eq 9, 3)) ∧ (decode cX3_test 110 = .ok (.iload 6, 2)) ∧ (decode cX3_test 112 = .ok (.istore_n 2, 1)) ∧ (decode cX3_test 113 = .ok (.goto 9, 3)) ∧ (decode cX3_test 116 = .ok (.aload_n 0, 1)) ∧ (decode cX3_test 117 = .ok (.iload 6, 2)) := by decide +kernel
theorem dX3_test_100 : decode cX3_test 100 = .ok (.iload_n 1, 1) := dX3_test_100g.1
theorem dX3_test_101 : decode cX3_test 101 = .ok (.invokevirtual 103, 3) := dX3_test_100g.2.1
theorem dX3_test_104 : decode cX3_test 104 = .ok (.istore_n 3, 1) := dX3_test_100g.2.2.1
theorem dX3_test_105 : decode cX3_test 105 = .ok (.iload 5, 2) := dX3_test_100g.2.2.2.1
theorem dX3_test_107 : decode cX3_test 107 = .ok (.ifCond .eq 9, 3) := dX3_test_100g.2.2.2.2.1
theorem dX3_test_110 : decode cX3_test 110 = .ok (.iload 6, 2) := dX3_test_100g.2.2.2.2.2.1
theorem dX3_test_112 : decode cX3_test 112 = .ok (.istore_n 2, 1) := dX3_test_100g.2.2.2.2.2.2.1
theorem dX3_test_113 : decode cX3_test 113 = .ok (.goto 9, 3) := dX3_test_100g.2.2.2.2.2.2.2.1
theorem dX3_test_116 : decode cX3_test 116 = .ok (.aload_n 0, 1) := dX3_test_100g.2.2.2.2.2.2.2.2.1
theorem dX3_test_117 : decode cX3_test 117 = .ok (.iload 6, 2) := dX3_test_100g.2.2.2.2.2.2.2.2.2
theorem dX3_test_119g : (decode cX3_test 119 = .ok (.invokevirtual 106, 3)) ∧ (decode cX3_test 122 = .ok (.iinc 4 1, 3)) ∧ (decode cX3_test 125 = .ok (.goto (-114), 3)) ∧ (decode cX3_test 128 = .ok (.aload_n 0, 1)) ∧ (decode cX3_test 129 = .ok (.iload_n 2, 1)) ∧ (decode cX3_test 130 = .ok (.invokevirtual 106, 3)) ∧ (decode cX3_test 133 = .ok (.iload_n 3, 1)) ∧ (decode cX3_test 134 = .ok (.ireturn, 1)) := by decide +kernel
theorem dX3_test_119 : decode cX3_test 119 = .ok (.invokevirtual 106, 3) := dX3_test_119g.1
theorem dX3_test_122 : decode cX3_test 122 = .ok (.iinc 4 1, 3) := dX3_test_119g.2.1
theorem dX3_test_125 : decode cX3_test 125 = .ok (.goto (-114), 3) := dX3_test_119g.2.2.1
theorem dX3_test_128 : decode cX3_test 128 = .ok (.aload_n 0, 1) := dX3_test_119g.2.2.2.1
theorem dX3_test_129 : decode cX3_test 129 = .ok (.iload_n 2, 1) := dX3_test_119g.2.2.2.2.1
theorem dX3_test_130 : decode cX3_test 130 = .ok (.invokevirtual 106, 3) := dX3_test_119g.2.2.2.2.2.1
theorem dX3_test_133 : decode cX3_test 133 = .ok (.iload_n 3, 1) := dX3_test_119g.2.2.2.2.2.2.1
theorem dX3_test_134 : decode cX3_test 134 = .ok (.ireturn, 1) := dX3_test_119g.2.2.2.2.2.2.2
set_option maxHeartbeats 4000000 in
set_option maxRecDepth 100000 in
theorem c_X3_test (l : Launch) (E : Nat → Nat) (D : va_G) (G : th_G) (k : Nat) (h0 n : Nat) (hG0 : G h0 = some (7, n)) (x1 : Int32) (hx1 : (0 : Int) ≤ x1.toInt) (hk : (8 : Int) - x1.toInt ≤ (k : Int)) (hplain : ∀ (h0 n : Nat) (hG0 : G h0 = some (7, n)) (x1 : Int32) (_ : (0 : Int) ≤ x1.toInt) (_ : (8 : Int) - x1.toInt ≤ (k : Int)), Met l yX3_plain (tb (.code yX3_plain cX3_plain 5 (some .boolean))) (rm (21 + 3 * k)) (va_Pc [.ref h0, .int x1] (th_P E D G)) (QI E D G (fun r => 0 ≤ (r : Int32).toInt ∧ (r : Int32).toInt ≤ 1)) 0 0 (th_A G)) : Met l yX3_test (tb (.code yX3_test cX3_test 7 (some .boolean))) (rm (22 + 3 * k)) (va_Pc [.ref h0, .int x1] (th_P E D G)) (QI E D G (fun r => 0 ≤ (r : Int32).toInt ∧ (r : Int32).toInt ≤ 1)) 0 0 (th_A G) := by
  refine Met.ofW (cc := cX3_test) (maxL := 7) (ret := (some .boolean)) (by decide) rfl ?_
  intro p e s m args below meth c s₁ B hml hv
  obtain ⟨hav, hI, hN, hK⟩ := hv
  have hx := B.exec
  have hb := B.bytes
  have hr := B.returns
  have hts := atoms_spec (ws := tb (.code yX3_test cX3_test 7 (some .boolean))) B.pre
  have hown : s.vm.findClass RX3 = some m.cls := findClass_of_methodNamed B.named
  have hlocks := B.notSynchronized
  have hS : va_S (th_A G) s.heap s.heap [] := va_S.rf
  have hl := lv_entry ([.ref h0, .int x1]) (n := 7) (Nat.le_of_ble_eq_true rfl)
  rw [show entryFrame m args 7 = entryFrame m ([.ref h0, .int x1] : List Value).toArray 7 from by rw [hav], lg_entry_eq]
  generalize (lg_sl ([.ref h0, .int x1]) ++ List.replicate (7 - (lg_sl ([.ref h0, .int x1])).length) Slot.unset).toArray = ls at hl ⊢
  have hl : lv_has ls 7 [(0, .ref h0), (1, .int x1)] := hl
  generalize hR : (headSpec (tb (.code yX3_test cX3_test 7 (some .boolean))) (rm (22 + 3 * k))).room = R
  have hR := hR.symm
  generalize hQ : MQ below (QI E D G (fun r => 0 ≤ (r : Int32).toInt ∧ (r : Int32).toInt ≤ 1)) args s 0 0 (th_A G) = QF
  have hQ := hQ.symm
  have J_11 : ∀ (nn : Nat) (H : Heap) (locs : List Loc) (ls : Array Slot) (v15175 : Int32) (v15176 : Int32) (v15177 : Int32), (Int.toNat (401 - v15175.toInt) = nn) → lv_has ls 7 [(4, .int v15175), (3, .int v15176), (2, .int v15177), (0, .ref h0), (1, .int x1)] → ((0 : Int) ≤ v15175.toInt ∧ v15175.toInt ≤ 401) → ((0 : Int) ≤ v15176.toInt ∧ v15176.toInt ≤ 1) → ((0 : Int) ≤ x1.toInt) → th_I (okC E) D G [] H → va_S (th_A G) s.heap H locs → W p l e R s m args below meth c H locs 0 0 QF (F0 m 11 ls []) := by
    intro nn
    induction nn using Nat.strongRecOn with
    | ind nn ih_11 =>
      intro H locs ls v15175 v15176 v15177 hm hl k15178 k15179 k15180 hI hS
      have J_83 : ∀ (H : Heap) (locs : List Loc) (ls : Array Slot) (v15181 : Int32) (v15185 : Int32), lv_has ls 7 [(5, .int v15181), (4, .int v15175), (3, .int v15176), (2, .int v15177), (0, .ref h0), (1, .int x1)] → ((0 : Int) ≤ v15181.toInt ∧ v15181.toInt ≤ 1) → ((0 : Int) ≤ v15175.toInt ∧ v15175.toInt ≤ 400) → ((1 : Int) ≤ v15176.toInt ∧ v15176.toInt ≤ 1) → ((11 : Int) ≤ v15185.toInt ∧ v15185.toInt ≤ 12) → th_I (okC E) D G [] H → va_S (th_A G) s.heap H locs → W p l e R s m args below meth c H locs 0 0 QF (F0 m 83 ls [.int v15185, .ref h0]) := by
        intro H locs ls v15181 v15185 hl k15186 k15187 k15188 k15189 hI hS
        refine lv_iconst (v := 0) hx hb dX3_test_83 (by decide) ?_
        refine th_cVi (As := [.int v15185, .int 0]) (rest := []) (n := 2) (d := 0) ⟨hx, hb, hml, hown, hts⟩ (c_X3_emit l E D G h0 (n) hG0 v15185 0) wd_723 wd_725 wp_17 wd_5 wd_726 (by decide +kernel) ⟨by rw [hR]; show 0 + 1 ≤ 22 + 3 * k; omega, by rw [hR]; show 8 + (3 + 11) + 40 * (0) ≤ 40 * (22 + 3 * k); omega⟩ hI hN hK hS (rc_7 hI hG0 List.not_mem_nil) rfl rfl hl.1 rfl (Nat.le_of_ble_eq_true rfl) dX3_test_84 ⟨Nat.zero_le _, Nat.zero_le _⟩ (fun r15190 H locs hp hI hS => ?_)
        refine lv_istore (lv' := [(6, .int r15190), (5, .int v15181), (4, .int v15175), (3, .int v15176), (2, .int v15177), (0, .ref h0), (1, .int x1)]) hx hb dX3_test_87 hl (by decide) rfl (fun ls hl => ?_)
        refine lv_aload_n hx hb dX3_test_89 rfl (lv_at hl 5 rfl) ?_
        refine lv_aload_n hx hb dX3_test_90 rfl (lv_at hl 5 rfl) ?_
        obtain ⟨a15191, a15193, a15195, a15197, a15199, a15201, w15203, w15206, w15209, w15210, w15213, w15214, hO, hq15192, hq15194, hq15196, hq15198, hq15200, hq15202, ⟨k15204, k15205⟩, ⟨k15207, k15208⟩, ⟨k15211, k15212⟩, k15215⟩ := op_7 hI hG0 List.not_mem_nil
        have hI := th_I.weak (a := h0) hI
        refine th_get hx hb hts inT3 hown hK hO rfl 10 (by decide) (hts _ (tb_c wd_139)) rfl rfl dX3_test_91 ?_
        refine lv_iconst (v := 1) hx hb dX3_test_94 (by decide) ?_
        refine lv_iadd hx hb dX3_test_95 ?_
        refine lv_topi (fun v15216 e15217 => ?_)
        try have tv15216 : v15216.toInt = w15213.toInt + (1) := iv_add rfl (by decide) e15217 (by omega) (by omega)
        have hI := th_I.close hI hG0 hO (ok_7 hq15192 hq15194 hq15196 hq15198 hq15200 hq15202 ⟨by omega, by omega⟩ ⟨by omega, by omega⟩ ⟨by omega, by omega⟩ (by omega))
        refine th_cVv (As := [.int v15216]) (rest := []) (n := 1) (d := 0) ⟨hx, hb, hml, hown, hts⟩ (c_X3_moveTo l E D G h0 (n) hG0 v15216) wd_707 wd_709 wp_13 wd_5 wd_710 (by decide +kernel) ⟨by rw [hR]; show 0 + 1 ≤ 22 + 3 * k; omega, by rw [hR]; show 8 + (2 + 11) + 40 * (0) ≤ 40 * (22 + 3 * k); omega⟩ hI hN hK hS (rc_7 hI hG0 List.not_mem_nil) rfl rfl hl.1 rfl (Nat.le_of_ble_eq_true rfl) dX3_test_96 ⟨Nat.zero_le _, Nat.zero_le _⟩ (fun H locs hI hS => ?_)
        refine lv_aload_n hx hb dX3_test_99 rfl (lv_at hl 5 rfl) ?_
        refine lv_iload_n hx hb dX3_test_100 rfl (lv_at hl 6 rfl) ?_
        refine th_cVi (As := [.int x1]) (rest := []) (n := 1) (d := (21 + 3 * k)) ⟨hx, hb, hml, hown, hts⟩ (hplain h0 n hG0 x1 (by omega) (by omega)) wd_735 wd_737 wp_20 wd_5 wd_738 (by decide +kernel) ⟨by rw [hR]; show (21 + 3 * k) + 1 ≤ 22 + 3 * k; omega, by rw [hR]; show 8 + (5 + 11) + 40 * ((21 + 3 * k)) ≤ 40 * (22 + 3 * k); omega⟩ hI hN hK hS (rc_7 hI hG0 List.not_mem_nil) rfl rfl hl.1 rfl (Nat.le_of_ble_eq_true rfl) dX3_test_101 ⟨Nat.zero_le _, Nat.zero_le _⟩ (fun r15219 H locs hp hI hS => ?_)
        have hp15220 := hp
        refine lv_istore_n (lv' := [(3, .int r15219), (6, .int r15190), (5, .int v15181), (4, .int v15175), (2, .int v15177), (0, .ref h0), (1, .int x1)]) hx hb dX3_test_104 rfl hl (by decide) rfl (fun ls hl => ?_)
        refine lv_iload hx hb dX3_test_105 (lv_at hl 2 rfl) ?_
        refine lv_if_eq (tgt := 116) hx hb dX3_test_107 (by decide) (fun c15221 => ?_) (fun c15221 => ?_)
        · skip
          have k15222 := iv_eq (X := v15181.toInt) (Y := (0)) rfl (by decide) c15221
          refine lv_aload_n hx hb dX3_test_116 rfl (lv_at hl 5 rfl) ?_
          refine lv_iload hx hb dX3_test_117 (lv_at hl 1 rfl) ?_
          refine th_cVv (As := [.int r15190]) (rest := []) (n := 1) (d := 0) ⟨hx, hb, hml, hown, hts⟩ (c_X3_aim l E D G h0 (n) hG0 r15190) wd_743 wd_745 wp_22 wd_5 wd_746 (by decide +kernel) ⟨by rw [hR]; show 0 + 1 ≤ 22 + 3 * k; omega, by rw [hR]; show 8 + (2 + 11) + 40 * (0) ≤ 40 * (22 + 3 * k); omega⟩ hI hN hK hS (rc_7 hI hG0 List.not_mem_nil) rfl rfl hl.1 rfl (Nat.le_of_ble_eq_true rfl) dX3_test_119 ⟨Nat.zero_le _, Nat.zero_le _⟩ (fun H locs hI hS => ?_)
          obtain ⟨v15224, e15225⟩ : ∃ y : Int32, y = v15175 + (1) := ⟨_, rfl⟩
          have tv15224 : v15224.toInt = v15175.toInt + (1) := iv_add rfl (by decide) e15225 (by omega) (by omega)
          refine lv_iinc (v := v15224) (lv' := [(4, .int v15224), (3, .int r15219), (6, .int r15190), (5, .int v15181), (2, .int v15177), (0, .ref h0), (1, .int x1)]) hx hb dX3_test_122 hl (k := 3) rfl (by rw [e15225]; rfl) (by decide) rfl (fun ls hl => ?_)
          refine lv_goto (tgt := 11) hx hb dX3_test_125 (by decide) ?_
          exact ih_11 _ (by omega) H locs ls v15224 r15219 v15177 rfl (lv_sub hl [0, 1, 4, 5, 6] rfl) ⟨by omega, by omega⟩ ⟨by omega, by omega⟩ (by omega) hI hS
        · skip
          have k15226 := iv_ne (X := v15181.toInt) (Y := (0)) rfl (by decide) c15221
          refine lv_iload hx hb dX3_test_110 (lv_at hl 1 rfl) ?_
          refine lv_istore_n (lv' := [(2, .int r15190), (3, .int r15219), (6, .int r15190), (5, .int v15181), (4, .int v15175), (0, .ref h0), (1, .int x1)]) hx hb dX3_test_112 rfl hl (by decide) rfl (fun ls hl => ?_)
          refine lv_goto (tgt := 122) hx hb dX3_test_113 (by decide) ?_
          obtain ⟨v15227, e15228⟩ : ∃ y : Int32, y = v15175 + (1) := ⟨_, rfl⟩
          have tv15227 : v15227.toInt = v15175.toInt + (1) := iv_add rfl (by decide) e15228 (by omega) (by omega)
          refine lv_iinc (v := v15227) (lv' := [(4, .int v15227), (2, .int r15190), (3, .int r15219), (6, .int r15190), (5, .int v15181), (0, .ref h0), (1, .int x1)]) hx hb dX3_test_122 hl (k := 4) rfl (by rw [e15228]; rfl) (by decide) rfl (fun ls hl => ?_)
          refine lv_goto (tgt := 11) hx hb dX3_test_125 (by decide) ?_
          exact ih_11 _ (by omega) H locs ls v15227 r15219 r15190 rfl (lv_sub hl [0, 2, 1, 5, 6] rfl) ⟨by omega, by omega⟩ ⟨by omega, by omega⟩ (by omega) hI hS
      have J_70 : ∀ (H : Heap) (locs : List Loc) (ls : Array Slot) (v15229 : Int32), lv_has ls 7 [(5, .int v15229), (4, .int v15175), (3, .int v15176), (2, .int v15177), (0, .ref h0), (1, .int x1)] → ((0 : Int) ≤ v15229.toInt ∧ v15229.toInt ≤ 1) → ((0 : Int) ≤ v15175.toInt ∧ v15175.toInt ≤ 399) → ((1 : Int) ≤ v15176.toInt ∧ v15176.toInt ≤ 1) → th_I (okC E) D G [] H → va_S (th_A G) s.heap H locs → W p l e R s m args below meth c H locs 0 0 QF (F0 m 70 ls []) := by
        intro H locs ls v15229 hl k15233 k15234 k15235 hI hS
        refine lv_aload_n hx hb dX3_test_70 rfl (lv_at hl 4 rfl) ?_
        refine lv_iload hx hb dX3_test_71 (lv_at hl 0 rfl) ?_
        refine lv_if_eq (tgt := 81) hx hb dX3_test_73 (by decide) (fun c15236 => ?_) (fun c15236 => ?_)
        · skip
          have k15237 := iv_eq (X := v15229.toInt) (Y := (0)) rfl (by decide) c15236
          refine lv_bipush (v := 12) hx hb dX3_test_81 (by decide) ?_
          exact J_83 H locs ls v15229 12 (lv_sub hl [0, 1, 2, 3, 4, 5] rfl) ⟨by omega, by omega⟩ ⟨by omega, by omega⟩ ⟨by omega, by omega⟩ ⟨by decide, by decide⟩ hI hS
        · skip
          have k15238 := iv_ne (X := v15229.toInt) (Y := (0)) rfl (by decide) c15236
          refine lv_bipush (v := 11) hx hb dX3_test_76 (by decide) ?_
          refine lv_goto (tgt := 83) hx hb dX3_test_78 (by decide) ?_
          exact J_83 H locs ls v15229 11 (lv_sub hl [0, 1, 2, 3, 4, 5] rfl) ⟨by omega, by omega⟩ ⟨by omega, by omega⟩ ⟨by omega, by omega⟩ ⟨by decide, by decide⟩ hI hS
      have J_58 : ∀ (H : Heap) (locs : List Loc) (ls : Array Slot) (v15242 : Int32), lv_has ls 7 [(4, .int v15175), (3, .int v15176), (2, .int v15177), (0, .ref h0), (1, .int x1)] → ((0 : Int) ≤ v15175.toInt ∧ v15175.toInt ≤ 399) → ((1 : Int) ≤ v15176.toInt ∧ v15176.toInt ≤ 1) → ((0 : Int) ≤ v15242.toInt ∧ v15242.toInt ≤ 1) → th_I (okC E) D G [] H → va_S (th_A G) s.heap H locs → W p l e R s m args below meth c H locs 0 0 QF (F0 m 58 ls [.int v15242]) := by
        intro H locs ls v15242 hl k15243 k15244 k15245 hI hS
        refine lv_istore (lv' := [(5, .int v15242), (4, .int v15175), (3, .int v15176), (2, .int v15177), (0, .ref h0), (1, .int x1)]) hx hb dX3_test_58 hl (by decide) rfl (fun ls hl => ?_)
        refine lv_iload hx hb dX3_test_60 (lv_at hl 0 rfl) ?_
        refine lv_if_eq (tgt := 70) hx hb dX3_test_62 (by decide) (fun c15246 => ?_) (fun c15246 => ?_)
        · skip
          have k15247 := iv_eq (X := v15242.toInt) (Y := (0)) rfl (by decide) c15246
          exact J_70 H locs ls v15242 (lv_sub hl [0, 1, 2, 3, 4, 5] rfl) ⟨by omega, by omega⟩ ⟨by omega, by omega⟩ ⟨by omega, by omega⟩ hI hS
        · skip
          have k15248 := iv_ne (X := v15242.toInt) (Y := (0)) rfl (by decide) c15246
          refine lv_aload_n hx hb dX3_test_65 rfl (lv_at hl 4 rfl) ?_
          refine lv_iload_n hx hb dX3_test_66 rfl (lv_at hl 3 rfl) ?_
          refine th_cVv (As := [.int v15177]) (rest := []) (n := 1) (d := 0) ⟨hx, hb, hml, hown, hts⟩ (c_X3_aim l E D G h0 (n) hG0 v15177) wd_743 wd_745 wp_22 wd_5 wd_746 (by decide +kernel) ⟨by rw [hR]; show 0 + 1 ≤ 22 + 3 * k; omega, by rw [hR]; show 8 + (2 + 11) + 40 * (0) ≤ 40 * (22 + 3 * k); omega⟩ hI hN hK hS (rc_7 hI hG0 List.not_mem_nil) rfl rfl hl.1 rfl (Nat.le_of_ble_eq_true rfl) dX3_test_67 ⟨Nat.zero_le _, Nat.zero_le _⟩ (fun H locs hI hS => ?_)
          exact J_70 H locs ls v15242 (lv_sub hl [0, 1, 2, 3, 4, 5] rfl) ⟨by omega, by omega⟩ ⟨by omega, by omega⟩ ⟨by omega, by omega⟩ hI hS
      have J_43 : ∀ (H : Heap) (locs : List Loc) (ls : Array Slot) , lv_has ls 7 [(4, .int v15175), (3, .int v15176), (2, .int v15177), (0, .ref h0), (1, .int x1)] → ((0 : Int) ≤ v15175.toInt ∧ v15175.toInt ≤ 399) → ((1 : Int) ≤ v15176.toInt ∧ v15176.toInt ≤ 1) → th_I (okC E) D G [] H → va_S (th_A G) s.heap H locs → W p l e R s m args below meth c H locs 0 0 QF (F0 m 43 ls []) := by
        intro H locs ls  hl k15253 k15254 hI hS
        refine lv_aload_n hx hb dX3_test_43 rfl (lv_at hl 3 rfl) ?_
        obtain ⟨a15255, a15257, a15259, a15261, a15263, a15265, w15267, w15270, w15273, w15274, w15277, w15278, hO, hq15256, hq15258, hq15260, hq15262, hq15264, hq15266, ⟨k15268, k15269⟩, ⟨k15271, k15272⟩, ⟨k15275, k15276⟩, k15279⟩ := op_7 hI hG0 List.not_mem_nil
        have hI := th_I.weak (a := h0) hI
        refine th_get hx hb hts inT3 hown hK hO rfl 11 (by decide) (hts _ (tb_c wd_140)) rfl rfl dX3_test_44 ?_
        refine lv_sipush (v := 261) hx hb dX3_test_47 (by decide) ?_
        have k15280 := iv_lo w15278
        have k15281 := iv_hi w15278
        refine lv_icmp_ne (tgt := 57) hx hb dX3_test_50 (by decide) (fun c15282 => ?_) (fun c15282 => ?_)
        · skip
          have k15283 := iv_ne (X := w15278.toInt) (Y := (261)) rfl (by decide) c15282
          refine lv_iconst (v := 0) hx hb dX3_test_57 (by decide) ?_
          have hI := th_I.close hI hG0 hO (ok_7 hq15256 hq15258 hq15260 hq15262 hq15264 hq15266 ⟨by omega, by omega⟩ ⟨by omega, by omega⟩ ⟨by omega, by omega⟩ (by omega))
          exact J_58 H locs ls 0 (lv_sub hl [0, 1, 2, 3, 4] rfl) ⟨by omega, by omega⟩ ⟨by omega, by omega⟩ ⟨by decide, by decide⟩ hI hS
        · skip
          have k15284 := iv_eq (X := w15278.toInt) (Y := (261)) rfl (by decide) c15282
          refine lv_iconst (v := 1) hx hb dX3_test_53 (by decide) ?_
          refine lv_goto (tgt := 58) hx hb dX3_test_54 (by decide) ?_
          have hI := th_I.close hI hG0 hO (ok_7 hq15256 hq15258 hq15260 hq15262 hq15264 hq15266 ⟨by omega, by omega⟩ ⟨by omega, by omega⟩ ⟨by omega, by omega⟩ (by omega))
          exact J_58 H locs ls 1 (lv_sub hl [0, 1, 2, 3, 4] rfl) ⟨by omega, by omega⟩ ⟨by omega, by omega⟩ ⟨by decide, by decide⟩ hI hS
      refine lv_iload hx hb dX3_test_11 (lv_at hl 0 rfl) ?_
      refine lv_sipush (v := 400) hx hb dX3_test_13 (by decide) ?_
      refine lv_icmp_ge (tgt := 128) hx hb dX3_test_16 (by decide) (fun c15285 => ?_) (fun c15285 => ?_)
      · skip
        have k15286 := iv_le (X := (400)) (Y := v15175.toInt) (by decide) rfl c15285
        refine lv_aload_n hx hb dX3_test_128 rfl (lv_at hl 3 rfl) ?_
        refine lv_iload_n hx hb dX3_test_129 rfl (lv_at hl 2 rfl) ?_
        refine th_cVv (As := [.int v15177]) (rest := []) (n := 1) (d := 0) ⟨hx, hb, hml, hown, hts⟩ (c_X3_aim l E D G h0 (n) hG0 v15177) wd_743 wd_745 wp_22 wd_5 wd_746 (by decide +kernel) ⟨by rw [hR]; show 0 + 1 ≤ 22 + 3 * k; omega, by rw [hR]; show 8 + (2 + 11) + 40 * (0) ≤ 40 * (22 + 3 * k); omega⟩ hI hN hK hS (rc_7 hI hG0 List.not_mem_nil) rfl rfl hl.1 rfl (Nat.le_of_ble_eq_true rfl) dX3_test_130 ⟨Nat.zero_le _, Nat.zero_le _⟩ (fun H locs hI hS => ?_)
        refine lv_iload_n hx hb dX3_test_133 rfl (lv_at hl 1 rfl) ?_
        have hpost : 0 ≤ (v15176 : Int32).toInt ∧ (v15176 : Int32).toInt ≤ 1 := by first | decide | omega
        rw [hQ]
        exact W.zret (v := v15176) hx hb hr (th_zn (by omega)) (fun t ht hW => ⟨⟨v15176, (), rfl, hpost, by rw [ht]; exact hI, hN.warm hW, va_K.moved hW.alike hK⟩, hS.F ht⟩) hS.2.2 dX3_test_134
      · skip
        have k15288 := iv_nle (X := (400)) (Y := v15175.toInt) (by decide) rfl c15285
        refine lv_iload_n hx hb dX3_test_19 rfl (lv_at hl 1 rfl) ?_
        refine lv_if_eq (tgt := 128) hx hb dX3_test_20 (by decide) (fun c15289 => ?_) (fun c15289 => ?_)
        · skip
          have k15290 := iv_eq (X := v15176.toInt) (Y := (0)) rfl (by decide) c15289
          refine lv_aload_n hx hb dX3_test_128 rfl (lv_at hl 3 rfl) ?_
          refine lv_iload_n hx hb dX3_test_129 rfl (lv_at hl 2 rfl) ?_
          refine th_cVv (As := [.int v15177]) (rest := []) (n := 1) (d := 0) ⟨hx, hb, hml, hown, hts⟩ (c_X3_aim l E D G h0 (n) hG0 v15177) wd_743 wd_745 wp_22 wd_5 wd_746 (by decide +kernel) ⟨by rw [hR]; show 0 + 1 ≤ 22 + 3 * k; omega, by rw [hR]; show 8 + (2 + 11) + 40 * (0) ≤ 40 * (22 + 3 * k); omega⟩ hI hN hK hS (rc_7 hI hG0 List.not_mem_nil) rfl rfl hl.1 rfl (Nat.le_of_ble_eq_true rfl) dX3_test_130 ⟨Nat.zero_le _, Nat.zero_le _⟩ (fun H locs hI hS => ?_)
          refine lv_iload_n hx hb dX3_test_133 rfl (lv_at hl 1 rfl) ?_
          have hpost : 0 ≤ (v15176 : Int32).toInt ∧ (v15176 : Int32).toInt ≤ 1 := by first | decide | omega
          rw [hQ]
          exact W.zret (v := v15176) hx hb hr (th_zn (by omega)) (fun t ht hW => ⟨⟨v15176, (), rfl, hpost, by rw [ht]; exact hI, hN.warm hW, va_K.moved hW.alike hK⟩, hS.F ht⟩) hS.2.2 dX3_test_134
        · skip
          have k15292 := iv_ne (X := v15176.toInt) (Y := (0)) rfl (by decide) c15289
          refine lv_aload_n hx hb dX3_test_23 rfl (lv_at hl 3 rfl) ?_
          obtain ⟨a15293, a15295, a15297, a15299, a15301, a15303, w15305, w15308, w15311, w15312, w15315, w15316, hO, hq15294, hq15296, hq15298, hq15300, hq15302, hq15304, ⟨k15306, k15307⟩, ⟨k15309, k15310⟩, ⟨k15313, k15314⟩, k15317⟩ := op_7 hI hG0 List.not_mem_nil
          have hI := th_I.weak (a := h0) hI
          refine th_get hx hb hts inT3 hown hK hO rfl 11 (by decide) (hts _ (tb_c wd_140)) rfl rfl dX3_test_24 ?_
          refine lv_sipush (v := 261) hx hb dX3_test_27 (by decide) ?_
          have k15318 := iv_lo w15316
          have k15319 := iv_hi w15316
          refine lv_icmp_eq (tgt := 43) hx hb dX3_test_30 (by decide) (fun c15320 => ?_) (fun c15320 => ?_)
          · skip
            have k15321 := iv_eq (X := w15316.toInt) (Y := (261)) rfl (by decide) c15320
            have hI := th_I.close hI hG0 hO (ok_7 hq15294 hq15296 hq15298 hq15300 hq15302 hq15304 ⟨by omega, by omega⟩ ⟨by omega, by omega⟩ ⟨by omega, by omega⟩ (by omega))
            exact J_43 H locs ls  (lv_sub hl [0, 1, 2, 3, 4] rfl) ⟨by omega, by omega⟩ ⟨by omega, by omega⟩ hI hS
          · skip
            have k15322 := iv_ne (X := w15316.toInt) (Y := (261)) rfl (by decide) c15320
            refine lv_aload_n hx hb dX3_test_33 rfl (lv_at hl 3 rfl) ?_
            refine th_get hx hb hts inT3 hown hK hO rfl 11 (by decide) (hts _ (tb_c wd_140)) rfl rfl dX3_test_34 ?_
            refine lv_sipush (v := 262) hx hb dX3_test_37 (by decide) ?_
            refine lv_icmp_ne (tgt := 128) hx hb dX3_test_40 (by decide) (fun c15323 => ?_) (fun c15323 => ?_)
            · skip
              have k15324 := iv_ne (X := w15316.toInt) (Y := (262)) rfl (by decide) c15323
              refine lv_aload_n hx hb dX3_test_128 rfl (lv_at hl 3 rfl) ?_
              refine lv_iload_n hx hb dX3_test_129 rfl (lv_at hl 2 rfl) ?_
              have hI := th_I.close hI hG0 hO (ok_7 hq15294 hq15296 hq15298 hq15300 hq15302 hq15304 ⟨by omega, by omega⟩ ⟨by omega, by omega⟩ ⟨by omega, by omega⟩ (by omega))
              refine th_cVv (As := [.int v15177]) (rest := []) (n := 1) (d := 0) ⟨hx, hb, hml, hown, hts⟩ (c_X3_aim l E D G h0 (n) hG0 v15177) wd_743 wd_745 wp_22 wd_5 wd_746 (by decide +kernel) ⟨by rw [hR]; show 0 + 1 ≤ 22 + 3 * k; omega, by rw [hR]; show 8 + (2 + 11) + 40 * (0) ≤ 40 * (22 + 3 * k); omega⟩ hI hN hK hS (rc_7 hI hG0 List.not_mem_nil) rfl rfl hl.1 rfl (Nat.le_of_ble_eq_true rfl) dX3_test_130 ⟨Nat.zero_le _, Nat.zero_le _⟩ (fun H locs hI hS => ?_)
              refine lv_iload_n hx hb dX3_test_133 rfl (lv_at hl 1 rfl) ?_
              have hpost : 0 ≤ (v15176 : Int32).toInt ∧ (v15176 : Int32).toInt ≤ 1 := by first | decide | omega
              rw [hQ]
              exact W.zret (v := v15176) hx hb hr (th_zn (by omega)) (fun t ht hW => ⟨⟨v15176, (), rfl, hpost, by rw [ht]; exact hI, hN.warm hW, va_K.moved hW.alike hK⟩, hS.F ht⟩) hS.2.2 dX3_test_134
            · skip
              have k15326 := iv_eq (X := w15316.toInt) (Y := (262)) rfl (by decide) c15323
              have hI := th_I.close hI hG0 hO (ok_7 hq15294 hq15296 hq15298 hq15300 hq15302 hq15304 ⟨by omega, by omega⟩ ⟨by omega, by omega⟩ ⟨by omega, by omega⟩ (by omega))
              exact J_43 H locs ls  (lv_sub hl [0, 1, 2, 3, 4] rfl) ⟨by omega, by omega⟩ ⟨by omega, by omega⟩ hI hS
  refine lv_iconst (v := (-1)) hx hb dX3_test_0 (by decide) ?_
  refine lv_istore_n (lv' := [(2, .int (-1)), (0, .ref h0), (1, .int x1)]) hx hb dX3_test_1 rfl hl (by decide) rfl (fun ls hl => ?_)
  refine lv_aload_n hx hb dX3_test_2 rfl (lv_at hl 1 rfl) ?_
  refine lv_iload_n hx hb dX3_test_3 rfl (lv_at hl 2 rfl) ?_
  refine th_cVi (As := [.int x1]) (rest := []) (n := 1) (d := (21 + 3 * k)) ⟨hx, hb, hml, hown, hts⟩ (hplain h0 n hG0 x1 (by omega) (by omega)) wd_735 wd_737 wp_20 wd_5 wd_738 (by decide +kernel) ⟨by rw [hR]; show (21 + 3 * k) + 1 ≤ 22 + 3 * k; omega, by rw [hR]; show 8 + (5 + 11) + 40 * ((21 + 3 * k)) ≤ 40 * (22 + 3 * k); omega⟩ hI hN hK hS (rc_7 hI hG0 List.not_mem_nil) rfl rfl hl.1 rfl (Nat.le_of_ble_eq_true rfl) dX3_test_4 ⟨Nat.zero_le _, Nat.zero_le _⟩ (fun r15327 H locs hp hI hS => ?_)
  have hp15328 := hp
  refine lv_istore_n (lv' := [(3, .int r15327), (2, .int (-1)), (0, .ref h0), (1, .int x1)]) hx hb dX3_test_7 rfl hl (by decide) rfl (fun ls hl => ?_)
  refine lv_iconst (v := 0) hx hb dX3_test_8 (by decide) ?_
  refine lv_istore (lv' := [(4, .int 0), (3, .int r15327), (2, .int (-1)), (0, .ref h0), (1, .int x1)]) hx hb dX3_test_9 hl (by decide) rfl (fun ls hl => ?_)
  have zl : (0 : Int32).toInt = 0 := by decide
  exact J_11 _ H locs ls 0 r15327 (-1) rfl (lv_sub hl [0, 1, 2, 3, 4] rfl) ⟨by decide, by decide⟩ ⟨by omega, by omega⟩ (by omega) hI hS
theorem dX3_enclosed_0g : (decode cX3_enclosed 0 = .ok (.iload_n 1, 1)) ∧ (decode cX3_enclosed 1 = .ok (.bipush 8, 2)) ∧ (decode cX3_enclosed 3 = .ok (.if_icmp .lt 5, 3)) ∧ (decode cX3_enclosed 6 = .ok (.iconst 0, 1)) ∧ (decode cX3_enclosed 7 = .ok (.ireturn, 1)) ∧ (decode cX3_enclosed 8 = .ok (.aload_n 0, 1)) ∧ (decode cX3_enclosed 9 = .ok (.aload_n 0, 1)) ∧ (decode cX3_enclosed 10 = .ok (.getfield 43, 3)) ∧ (decode cX3_enclosed 13 = .ok (.iconst 1, 1)) ∧ (decode cX3_enclosed 14 = .ok (.iadd, 1)) := by decide +kernel
theorem dX3_enclosed_0 : decode cX3_enclosed 0 = .ok (.iload_n 1, 1) := dX3_enclosed_0g.1
theorem dX3_enclosed_1 : decode cX3_enclosed 1 = .ok (.bipush 8, 2) := dX3_enclosed_0g.2.1
theorem dX3_enclosed_3 : decode cX3_enclosed 3 = .ok (.if_icmp .lt 5, 3) := dX3_enclosed_0g.2.2.1
theorem dX3_enclosed_6 : decode cX3_enclosed 6 = .ok (.iconst 0, 1) := dX3_enclosed_0g.2.2.2.1
theorem dX3_enclosed_7 : decode cX3_enclosed 7 = .ok (.ireturn, 1) := dX3_enclosed_0g.2.2.2.2.1
theorem dX3_enclosed_8 : decode cX3_enclosed 8 = .ok (.aload_n 0, 1) := dX3_enclosed_0g.2.2.2.2.2.1
theorem dX3_enclosed_9 : decode cX3_enclosed 9 = .ok (.aload_n 0, 1) := dX3_enclosed_0g.2.2.2.2.2.2.1
theorem dX3_enclosed_10 : decode cX3_enclosed 10 = .ok (.getfield 43, 3) := dX3_enclosed_0g.2.2.2.2.2.2.2.1
theorem dX3_enclosed_13 : decode cX3_enclosed 13 = .ok (.iconst 1, 1) := dX3_enclosed_0g.2.2.2.2.2.2.2.2.1
theorem dX3_enclosed_14 : decode cX3_enclosed 14 = .ok (.iadd, 1) := dX3_enclosed_0g.2.2.2.2.2.2.2.2.2
theorem dX3_enclosed_15g : (decode cX3_enclosed 15 = .ok (.invokevirtual 66, 3)) ∧ (decode cX3_enclosed 18 = .ok (.aload_n 0, 1)) ∧ (decode cX3_enclosed 19 = .ok (.iload_n 1, 1)) ∧ (decode cX3_enclosed 20 = .ok (.iconst 1, 1)) ∧ (decode cX3_enclosed 21 = .ok (.iadd, 1)) ∧ (decode cX3_enclosed 22 = .ok (.invokevirtual 100, 3)) ∧ (decode cX3_enclosed 25 = .ok (.ifCond .eq 16, 3)) ∧ (decode cX3_enclosed 28 = .ok (.aload_n 0, 1)) ∧ (decode cX3_enclosed 29 = .ok (.getfield 46, 3)) ∧ (decode cX3_enclosed 32 = .ok (.bipush 41, 2)) := by decide +kernel
theorem dX3_enclosed_15 : decode cX3_enclosed 15 = .ok (.invokevirtual 66, 3) := dX3_enclosed_15g.1
theorem dX3_enclosed_18 : decode cX3_enclosed 18 = .ok (.aload_n 0, 1) := dX3_enclosed_15g.2.1
theorem dX3_enclosed_19 : decode cX3_enclosed 19 = .ok (.iload_n 1, 1) := dX3_enclosed_15g.2.2.1
theorem dX3_enclosed_20 : decode cX3_enclosed 20 = .ok (.iconst 1, 1) := dX3_enclosed_15g.2.2.2.1
theorem dX3_enclosed_21 : decode cX3_enclosed 21 = .ok (.iadd, 1) := dX3_enclosed_15g.2.2.2.2.1
theorem dX3_enclosed_22 : decode cX3_enclosed 22 = .ok (.invokevirtual 100, 3) := dX3_enclosed_15g.2.2.2.2.2.1
theorem dX3_enclosed_25 : decode cX3_enclosed 25 = .ok (.ifCond .eq 16, 3) := dX3_enclosed_15g.2.2.2.2.2.2.1
theorem dX3_enclosed_28 : decode cX3_enclosed 28 = .ok (.aload_n 0, 1) := dX3_enclosed_15g.2.2.2.2.2.2.2.1
theorem dX3_enclosed_29 : decode cX3_enclosed 29 = .ok (.getfield 46, 3) := dX3_enclosed_15g.2.2.2.2.2.2.2.2.1
theorem dX3_enclosed_32 : decode cX3_enclosed 32 = .ok (.bipush 41, 2) := dX3_enclosed_15g.2.2.2.2.2.2.2.2.2
theorem dX3_enclosed_34g : (decode cX3_enclosed 34 = .ok (.if_icmp .ne 7, 3)) ∧ (decode cX3_enclosed 37 = .ok (.iconst 1, 1)) ∧ (decode cX3_enclosed 38 = .ok (.goto 4, 3)) ∧ (decode cX3_enclosed 41 = .ok (.iconst 0, 1)) ∧ (decode cX3_enclosed 42 = .ok (.istore_n 2, 1)) ∧ (decode cX3_enclosed 43 = .ok (.aload_n 0, 1)) ∧ (decode cX3_enclosed 44 = .ok (.iload_n 2, 1)) ∧ (decode cX3_enclosed 45 = .ok (.ifCond .eq 12, 3)) ∧ (decode cX3_enclosed 48 = .ok (.aload_n 0, 1)) ∧ (decode cX3_enclosed 49 = .ok (.getfield 43, 3)) := by decide +kernel
theorem dX3_enclosed_34 : decode cX3_enclosed 34 = .ok (.if_icmp .ne 7, 3) := dX3_enclosed_34g.1
theorem dX3_enclosed_37 : decode cX3_enclosed 37 = .ok (.iconst 1, 1) := dX3_enclosed_34g.2.1
theorem dX3_enclosed_38 : decode cX3_enclosed 38 = .ok (.goto 4, 3) := dX3_enclosed_34g.2.2.1
theorem dX3_enclosed_41 : decode cX3_enclosed 41 = .ok (.iconst 0, 1) := dX3_enclosed_34g.2.2.2.1
theorem dX3_enclosed_42 : decode cX3_enclosed 42 = .ok (.istore_n 2, 1) := dX3_enclosed_34g.2.2.2.2.1
theorem dX3_enclosed_43 : decode cX3_enclosed 43 = .ok (.aload_n 0, 1) := dX3_enclosed_34g.2.2.2.2.2.1
theorem dX3_enclosed_44 : decode cX3_enclosed 44 = .ok (.iload_n 2, 1) := dX3_enclosed_34g.2.2.2.2.2.2.1
theorem dX3_enclosed_45 : decode cX3_enclosed 45 = .ok (.ifCond .eq 12, 3) := dX3_enclosed_34g.2.2.2.2.2.2.2.1
theorem dX3_enclosed_48 : decode cX3_enclosed 48 = .ok (.aload_n 0, 1) := dX3_enclosed_34g.2.2.2.2.2.2.2.2.1
theorem dX3_enclosed_49 : decode cX3_enclosed 49 = .ok (.getfield 43, 3) := dX3_enclosed_34g.2.2.2.2.2.2.2.2.2
theorem dX3_enclosed_52g : (decode cX3_enclosed 52 = .ok (.iconst 1, 1)) ∧ (decode cX3_enclosed 53 = .ok (.iadd, 1)) ∧ (decode cX3_enclosed 54 = .ok (.goto 7, 3)) ∧ (decode cX3_enclosed 57 = .ok (.aload_n 0, 1)) ∧ (decode cX3_enclosed 58 = .ok (.getfield 43, 3)) ∧ (decode cX3_enclosed 61 = .ok (.invokevirtual 66, 3)) ∧ (decode cX3_enclosed 64 = .ok (.iload_n 2, 1)) ∧ (decode cX3_enclosed 65 = .ok (.ireturn, 1)) := by decide +kernel
theorem dX3_enclosed_52 : decode cX3_enclosed 52 = .ok (.iconst 1, 1) := dX3_enclosed_52g.1
theorem dX3_enclosed_53 : decode cX3_enclosed 53 = .ok (.iadd, 1) := dX3_enclosed_52g.2.1
theorem dX3_enclosed_54 : decode cX3_enclosed 54 = .ok (.goto 7, 3) := dX3_enclosed_52g.2.2.1
theorem dX3_enclosed_57 : decode cX3_enclosed 57 = .ok (.aload_n 0, 1) := dX3_enclosed_52g.2.2.2.1
theorem dX3_enclosed_58 : decode cX3_enclosed 58 = .ok (.getfield 43, 3) := dX3_enclosed_52g.2.2.2.2.1
theorem dX3_enclosed_61 : decode cX3_enclosed 61 = .ok (.invokevirtual 66, 3) := dX3_enclosed_52g.2.2.2.2.2.1
theorem dX3_enclosed_64 : decode cX3_enclosed 64 = .ok (.iload_n 2, 1) := dX3_enclosed_52g.2.2.2.2.2.2.1
theorem dX3_enclosed_65 : decode cX3_enclosed 65 = .ok (.ireturn, 1) := dX3_enclosed_52g.2.2.2.2.2.2.2
set_option maxHeartbeats 4000000 in
set_option maxRecDepth 100000 in
theorem c_X3_enclosed (l : Launch) (E : Nat → Nat) (D : va_G) (G : th_G) (k : Nat) : ∀ (h0 n : Nat) (hG0 : G h0 = some (7, n)) (x1 : Int32) (_ : (0 : Int) ≤ x1.toInt) (_ : (8 : Int) - x1.toInt ≤ (k : Int)), Met l yX3_enclosed (tb (.code yX3_enclosed cX3_enclosed 3 (some .boolean))) (rm (20 + 3 * k)) (va_Pc [.ref h0, .int x1] (th_P E D G)) (QI E D G (fun r => 0 ≤ (r : Int32).toInt ∧ (r : Int32).toInt ≤ 1)) 0 0 (th_A G) := by
  induction k using Nat.strongRecOn with
  | ind k ih =>
  intro h0 n hG0 x1 hx1 hk
  refine Met.ofW (cc := cX3_enclosed) (maxL := 3) (ret := (some .boolean)) (by decide) rfl ?_
  intro p e s m args below meth c s₁ B hml hv
  obtain ⟨hav, hI, hN, hK⟩ := hv
  have hx := B.exec
  have hb := B.bytes
  have hr := B.returns
  have hts := atoms_spec (ws := tb (.code yX3_enclosed cX3_enclosed 3 (some .boolean))) B.pre
  have hown : s.vm.findClass RX3 = some m.cls := findClass_of_methodNamed B.named
  have hlocks := B.notSynchronized
  have hS : va_S (th_A G) s.heap s.heap [] := va_S.rf
  have hl := lv_entry ([.ref h0, .int x1]) (n := 3) (Nat.le_of_ble_eq_true rfl)
  rw [show entryFrame m args 3 = entryFrame m ([.ref h0, .int x1] : List Value).toArray 3 from by rw [hav], lg_entry_eq]
  generalize (lg_sl ([.ref h0, .int x1]) ++ List.replicate (3 - (lg_sl ([.ref h0, .int x1])).length) Slot.unset).toArray = ls at hl ⊢
  have hl : lv_has ls 3 [(0, .ref h0), (1, .int x1)] := hl
  generalize hR : (headSpec (tb (.code yX3_enclosed cX3_enclosed 3 (some .boolean))) (rm (20 + 3 * k))).room = R
  have hR := hR.symm
  generalize hQ : MQ below (QI E D G (fun r => 0 ≤ (r : Int32).toInt ∧ (r : Int32).toInt ≤ 1)) args s 0 0 (th_A G) = QF
  have hQ := hQ.symm
  have J_42 : ∀ (H : Heap) (locs : List Loc) (ls : Array Slot) (v1065 : Int32), lv_has ls 3 [(0, .ref h0), (1, .int x1)] → ((0 : Int) ≤ x1.toInt ∧ x1.toInt ≤ 7) → ((0 : Int) ≤ v1065.toInt ∧ v1065.toInt ≤ 1) → th_I (okC E) D G [] H → va_S (th_A G) s.heap H locs → W p l e R s m args below meth c H locs 0 0 QF (F0 m 42 ls [.int v1065]) := by
    intro H locs ls v1065 hl k1066 k1067 hI hS
    refine lv_istore_n (lv' := [(2, .int v1065), (0, .ref h0), (1, .int x1)]) hx hb dX3_enclosed_42 rfl hl (by decide) rfl (fun ls hl => ?_)
    refine lv_aload_n hx hb dX3_enclosed_43 rfl (lv_at hl 1 rfl) ?_
    refine lv_iload_n hx hb dX3_enclosed_44 rfl (lv_at hl 0 rfl) ?_
    refine lv_if_eq (tgt := 57) hx hb dX3_enclosed_45 (by decide) (fun c1068 => ?_) (fun c1068 => ?_)
    · skip
      have k1069 := iv_eq (X := v1065.toInt) (Y := (0)) rfl (by decide) c1068
      refine lv_aload_n hx hb dX3_enclosed_57 rfl (lv_at hl 1 rfl) ?_
      obtain ⟨a1070, a1072, a1074, a1076, a1078, a1080, w1082, w1085, w1088, w1089, w1092, w1093, hO, hq1071, hq1073, hq1075, hq1077, hq1079, hq1081, ⟨k1083, k1084⟩, ⟨k1086, k1087⟩, ⟨k1090, k1091⟩, k1094⟩ := op_7 hI hG0 List.not_mem_nil
      have hI := th_I.weak (a := h0) hI
      refine th_get hx hb hts inT3 hown hK hO rfl 10 (by decide) (hts _ (tb_c wd_139)) rfl rfl dX3_enclosed_58 ?_
      have hI := th_I.close hI hG0 hO (ok_7 hq1071 hq1073 hq1075 hq1077 hq1079 hq1081 ⟨by omega, by omega⟩ ⟨by omega, by omega⟩ ⟨by omega, by omega⟩ (by omega))
      refine th_cVv (As := [.int w1092]) (rest := []) (n := 1) (d := 0) ⟨hx, hb, hml, hown, hts⟩ (c_X3_moveTo l E D G h0 (n) hG0 w1092) wd_707 wd_709 wp_13 wd_5 wd_710 (by decide +kernel) ⟨by rw [hR]; show 0 + 1 ≤ 20 + 3 * k; omega, by rw [hR]; show 8 + (2 + 11) + 40 * (0) ≤ 40 * (20 + 3 * k); omega⟩ hI hN hK hS (rc_7 hI hG0 List.not_mem_nil) rfl rfl hl.1 rfl (Nat.le_of_ble_eq_true rfl) dX3_enclosed_61 ⟨Nat.zero_le _, Nat.zero_le _⟩ (fun H locs hI hS => ?_)
      refine lv_iload_n hx hb dX3_enclosed_64 rfl (lv_at hl 0 rfl) ?_
      have hpost : 0 ≤ (v1065 : Int32).toInt ∧ (v1065 : Int32).toInt ≤ 1 := by first | decide | omega
      rw [hQ]
      exact W.zret (v := v1065) hx hb hr (th_zn (by omega)) (fun t ht hW => ⟨⟨v1065, (), rfl, hpost, by rw [ht]; exact hI, hN.warm hW, va_K.moved hW.alike hK⟩, hS.F ht⟩) hS.2.2 dX3_enclosed_65
    · skip
      have k1096 := iv_ne (X := v1065.toInt) (Y := (0)) rfl (by decide) c1068
      refine lv_aload_n hx hb dX3_enclosed_48 rfl (lv_at hl 1 rfl) ?_
      obtain ⟨a1097, a1099, a1101, a1103, a1105, a1107, w1109, w1112, w1115, w1116, w1119, w1120, hO, hq1098, hq1100, hq1102, hq1104, hq1106, hq1108, ⟨k1110, k1111⟩, ⟨k1113, k1114⟩, ⟨k1117, k1118⟩, k1121⟩ := op_7 hI hG0 List.not_mem_nil
      have hI := th_I.weak (a := h0) hI
      refine th_get hx hb hts inT3 hown hK hO rfl 10 (by decide) (hts _ (tb_c wd_139)) rfl rfl dX3_enclosed_49 ?_
      refine lv_iconst (v := 1) hx hb dX3_enclosed_52 (by decide) ?_
      refine lv_iadd hx hb dX3_enclosed_53 ?_
      refine lv_topi (fun v1122 e1123 => ?_)
      try have tv1122 : v1122.toInt = w1119.toInt + (1) := iv_add rfl (by decide) e1123 (by omega) (by omega)
      refine lv_goto (tgt := 61) hx hb dX3_enclosed_54 (by decide) ?_
      have hI := th_I.close hI hG0 hO (ok_7 hq1098 hq1100 hq1102 hq1104 hq1106 hq1108 ⟨by omega, by omega⟩ ⟨by omega, by omega⟩ ⟨by omega, by omega⟩ (by omega))
      refine th_cVv (As := [.int v1122]) (rest := []) (n := 1) (d := 0) ⟨hx, hb, hml, hown, hts⟩ (c_X3_moveTo l E D G h0 (n) hG0 v1122) wd_707 wd_709 wp_13 wd_5 wd_710 (by decide +kernel) ⟨by rw [hR]; show 0 + 1 ≤ 20 + 3 * k; omega, by rw [hR]; show 8 + (2 + 11) + 40 * (0) ≤ 40 * (20 + 3 * k); omega⟩ hI hN hK hS (rc_7 hI hG0 List.not_mem_nil) rfl rfl hl.1 rfl (Nat.le_of_ble_eq_true rfl) dX3_enclosed_61 ⟨Nat.zero_le _, Nat.zero_le _⟩ (fun H locs hI hS => ?_)
      refine lv_iload_n hx hb dX3_enclosed_64 rfl (lv_at hl 0 rfl) ?_
      have hpost : 0 ≤ (v1065 : Int32).toInt ∧ (v1065 : Int32).toInt ≤ 1 := by first | decide | omega
      rw [hQ]
      exact W.zret (v := v1065) hx hb hr (th_zn (by omega)) (fun t ht hW => ⟨⟨v1065, (), rfl, hpost, by rw [ht]; exact hI, hN.warm hW, va_K.moved hW.alike hK⟩, hS.F ht⟩) hS.2.2 dX3_enclosed_65
  have J_41 : ∀ (H : Heap) (locs : List Loc) (ls : Array Slot) , lv_has ls 3 [(0, .ref h0), (1, .int x1)] → ((0 : Int) ≤ x1.toInt ∧ x1.toInt ≤ 7) → th_I (okC E) D G [] H → va_S (th_A G) s.heap H locs → W p l e R s m args below meth c H locs 0 0 QF (F0 m 41 ls []) := by
    intro H locs ls  hl k1125 hI hS
    refine lv_iconst (v := 0) hx hb dX3_enclosed_41 (by decide) ?_
    exact J_42 H locs ls 0 (lv_sub hl [0, 1] rfl) ⟨by omega, by omega⟩ ⟨by decide, by decide⟩ hI hS
  refine lv_iload_n hx hb dX3_enclosed_0 rfl (lv_at hl 1 rfl) ?_
  refine lv_bipush (v := 8) hx hb dX3_enclosed_1 (by decide) ?_
  have k1126 := iv_lo x1
  have k1127 := iv_hi x1
  refine lv_icmp_lt (tgt := 8) hx hb dX3_enclosed_3 (by decide) (fun c1128 => ?_) (fun c1128 => ?_)
  · skip
    have k1129 := iv_lt (X := x1.toInt) (Y := (8)) rfl (by decide) c1128
    refine lv_aload_n hx hb dX3_enclosed_8 rfl (lv_at hl 0 rfl) ?_
    refine lv_aload_n hx hb dX3_enclosed_9 rfl (lv_at hl 0 rfl) ?_
    obtain ⟨a1130, a1132, a1134, a1136, a1138, a1140, w1142, w1145, w1148, w1149, w1152, w1153, hO, hq1131, hq1133, hq1135, hq1137, hq1139, hq1141, ⟨k1143, k1144⟩, ⟨k1146, k1147⟩, ⟨k1150, k1151⟩, k1154⟩ := op_7 hI hG0 List.not_mem_nil
    have hI := th_I.weak (a := h0) hI
    refine th_get hx hb hts inT3 hown hK hO rfl 10 (by decide) (hts _ (tb_c wd_139)) rfl rfl dX3_enclosed_10 ?_
    refine lv_iconst (v := 1) hx hb dX3_enclosed_13 (by decide) ?_
    refine lv_iadd hx hb dX3_enclosed_14 ?_
    refine lv_topi (fun v1155 e1156 => ?_)
    try have tv1155 : v1155.toInt = w1152.toInt + (1) := iv_add rfl (by decide) e1156 (by omega) (by omega)
    have hI := th_I.close hI hG0 hO (ok_7 hq1131 hq1133 hq1135 hq1137 hq1139 hq1141 ⟨by omega, by omega⟩ ⟨by omega, by omega⟩ ⟨by omega, by omega⟩ (by omega))
    refine th_cVv (As := [.int v1155]) (rest := []) (n := 1) (d := 0) ⟨hx, hb, hml, hown, hts⟩ (c_X3_moveTo l E D G h0 (n) hG0 v1155) wd_707 wd_709 wp_13 wd_5 wd_710 (by decide +kernel) ⟨by rw [hR]; show 0 + 1 ≤ 20 + 3 * k; omega, by rw [hR]; show 8 + (2 + 11) + 40 * (0) ≤ 40 * (20 + 3 * k); omega⟩ hI hN hK hS (rc_7 hI hG0 List.not_mem_nil) rfl rfl hl.1 rfl (Nat.le_of_ble_eq_true rfl) dX3_enclosed_15 ⟨Nat.zero_le _, Nat.zero_le _⟩ (fun H locs hI hS => ?_)
    refine lv_aload_n hx hb dX3_enclosed_18 rfl (lv_at hl 0 rfl) ?_
    refine lv_iload_n hx hb dX3_enclosed_19 rfl (lv_at hl 1 rfl) ?_
    refine lv_iconst (v := 1) hx hb dX3_enclosed_20 (by decide) ?_
    refine lv_iadd hx hb dX3_enclosed_21 ?_
    refine lv_topi (fun v1158 e1159 => ?_)
    have tv1158 : v1158.toInt = x1.toInt + (1) := iv_add rfl (by decide) e1159 (by omega) (by omega)
    refine th_cVi (As := [.int v1158]) (rest := []) (n := 1) (d := (22 + 3 * (k - 1))) ⟨hx, hb, hml, hown, hts⟩ (c_X3_test l E D G (k - 1) h0 n hG0 v1158 (by omega) (by omega) (fun h0 n hG0 x1 hx1 hk => c_X3_plain l E D G (k - 1) h0 n hG0 x1 hx1 hk (ih (k - 1) (by omega)))) wd_731 wd_733 wp_19 wd_5 wd_734 (by decide +kernel) ⟨by rw [hR]; show (22 + 3 * (k - 1)) + 1 ≤ 20 + 3 * k; omega, by rw [hR]; show 8 + (7 + 11) + 40 * ((22 + 3 * (k - 1))) ≤ 40 * (20 + 3 * k); omega⟩ hI hN hK hS (rc_7 hI hG0 List.not_mem_nil) rfl rfl hl.1 rfl (Nat.le_of_ble_eq_true rfl) dX3_enclosed_22 ⟨Nat.zero_le _, Nat.zero_le _⟩ (fun r1160 H locs hp hI hS => ?_)
    have hp1161 := hp
    refine lv_if_eq (tgt := 41) hx hb dX3_enclosed_25 (by decide) (fun c1162 => ?_) (fun c1162 => ?_)
    · skip
      have k1163 := iv_eq (X := r1160.toInt) (Y := (0)) rfl (by decide) c1162
      exact J_41 H locs ls  (lv_sub hl [0, 1] rfl) ⟨by omega, by omega⟩ hI hS
    · skip
      have k1164 := iv_ne (X := r1160.toInt) (Y := (0)) rfl (by decide) c1162
      refine lv_aload_n hx hb dX3_enclosed_28 rfl (lv_at hl 0 rfl) ?_
      obtain ⟨a1165, a1167, a1169, a1171, a1173, a1175, w1177, w1180, w1183, w1184, w1187, w1188, hO, hq1166, hq1168, hq1170, hq1172, hq1174, hq1176, ⟨k1178, k1179⟩, ⟨k1181, k1182⟩, ⟨k1185, k1186⟩, k1189⟩ := op_7 hI hG0 List.not_mem_nil
      have hI := th_I.weak (a := h0) hI
      refine th_get hx hb hts inT3 hown hK hO rfl 11 (by decide) (hts _ (tb_c wd_140)) rfl rfl dX3_enclosed_29 ?_
      refine lv_bipush (v := 41) hx hb dX3_enclosed_32 (by decide) ?_
      have k1190 := iv_lo w1188
      have k1191 := iv_hi w1188
      refine lv_icmp_ne (tgt := 41) hx hb dX3_enclosed_34 (by decide) (fun c1192 => ?_) (fun c1192 => ?_)
      · skip
        have k1193 := iv_ne (X := w1188.toInt) (Y := (41)) rfl (by decide) c1192
        have hI := th_I.close hI hG0 hO (ok_7 hq1166 hq1168 hq1170 hq1172 hq1174 hq1176 ⟨by omega, by omega⟩ ⟨by omega, by omega⟩ ⟨by omega, by omega⟩ (by omega))
        exact J_41 H locs ls  (lv_sub hl [0, 1] rfl) ⟨by omega, by omega⟩ hI hS
      · skip
        have k1194 := iv_eq (X := w1188.toInt) (Y := (41)) rfl (by decide) c1192
        refine lv_iconst (v := 1) hx hb dX3_enclosed_37 (by decide) ?_
        refine lv_goto (tgt := 42) hx hb dX3_enclosed_38 (by decide) ?_
        have hI := th_I.close hI hG0 hO (ok_7 hq1166 hq1168 hq1170 hq1172 hq1174 hq1176 ⟨by omega, by omega⟩ ⟨by omega, by omega⟩ ⟨by omega, by omega⟩ (by omega))
        exact J_42 H locs ls 1 (lv_sub hl [0, 1] rfl) ⟨by omega, by omega⟩ ⟨by decide, by decide⟩ hI hS
  · skip
    have k1195 := iv_nlt (X := x1.toInt) (Y := (8)) rfl (by decide) c1128
    refine lv_iconst (v := 0) hx hb dX3_enclosed_6 (by decide) ?_
    have hpost : 0 ≤ (0 : Int32).toInt ∧ (0 : Int32).toInt ≤ 1 := by first | decide | omega
    rw [hQ]
    exact W.zret (v := 0) hx hb hr (by decide) (fun t ht hW => ⟨⟨0, (), rfl, hpost, by rw [ht]; exact hI, hN.warm hW, va_K.moved hW.alike hK⟩, hS.F ht⟩) hS.2.2 dX3_enclosed_7
theorem dX3_clause_0g : (decode cX3_clause 0 = .ok (.aload_n 0, 1)) ∧ (decode cX3_clause 1 = .ok (.getfield 34, 3)) ∧ (decode cX3_clause 4 = .ok (.bipush 12, 2)) ∧ (decode cX3_clause 6 = .ok (.if_icmp .ge 23, 3)) ∧ (decode cX3_clause 9 = .ok (.aload_n 0, 1)) ∧ (decode cX3_clause 10 = .ok (.getfield 46, 3)) ∧ (decode cX3_clause 13 = .ok (.sipush 256, 3)) ∧ (decode cX3_clause 16 = .ok (.if_icmp .lt 13, 3)) ∧ (decode cX3_clause 19 = .ok (.aload_n 0, 1)) ∧ (decode cX3_clause 20 = .ok (.getfield 46, 3)) := by decide +kernel
theorem dX3_clause_0 : decode cX3_clause 0 = .ok (.aload_n 0, 1) := dX3_clause_0g.1
theorem dX3_clause_1 : decode cX3_clause 1 = .ok (.getfield 34, 3) := dX3_clause_0g.2.1
theorem dX3_clause_4 : decode cX3_clause 4 = .ok (.bipush 12, 2) := dX3_clause_0g.2.2.1
theorem dX3_clause_6 : decode cX3_clause 6 = .ok (.if_icmp .ge 23, 3) := dX3_clause_0g.2.2.2.1
theorem dX3_clause_9 : decode cX3_clause 9 = .ok (.aload_n 0, 1) := dX3_clause_0g.2.2.2.2.1
theorem dX3_clause_10 : decode cX3_clause 10 = .ok (.getfield 46, 3) := dX3_clause_0g.2.2.2.2.2.1
theorem dX3_clause_13 : decode cX3_clause 13 = .ok (.sipush 256, 3) := dX3_clause_0g.2.2.2.2.2.2.1
theorem dX3_clause_16 : decode cX3_clause 16 = .ok (.if_icmp .lt 13, 3) := dX3_clause_0g.2.2.2.2.2.2.2.1
theorem dX3_clause_19 : decode cX3_clause 19 = .ok (.aload_n 0, 1) := dX3_clause_0g.2.2.2.2.2.2.2.2.1
theorem dX3_clause_20 : decode cX3_clause 20 = .ok (.getfield 46, 3) := dX3_clause_0g.2.2.2.2.2.2.2.2.2
theorem dX3_clause_23g : (decode cX3_clause 23 = .ok (.sipush 259, 3)) ∧ (decode cX3_clause 26 = .ok (.if_icmp .le 5, 3)) ∧ (decode cX3_clause 29 = .ok (.iconst 0, 1)) ∧ (decode cX3_clause 30 = .ok (.ireturn, 1)) ∧ (decode cX3_clause 31 = .ok (.aload_n 0, 1)) ∧ (decode cX3_clause 32 = .ok (.getfield 11, 3)) ∧ (decode cX3_clause 35 = .ok (.aload_n 0, 1)) ∧ (decode cX3_clause 36 = .ok (.getfield 34, 3)) ∧ (decode cX3_clause 39 = .ok (.aload_n 0, 1)) ∧ (decode cX3_clause 40 = .ok (.getfield 46, 3)) := by decide +kernel
theorem dX3_clause_23 : decode cX3_clause 23 = .ok (.sipush 259, 3) := dX3_clause_23g.1
theorem dX3_clause_26 : decode cX3_clause 26 = .ok (.if_icmp .le 5, 3) := dX3_clause_23g.2.1
theorem dX3_clause_29 : decode cX3_clause 29 = .ok (.iconst 0, 1) := dX3_clause_23g.2.2.1
theorem dX3_clause_30 : decode cX3_clause 30 = .ok (.ireturn, 1) := dX3_clause_23g.2.2.2.1
theorem dX3_clause_31 : decode cX3_clause 31 = .ok (.aload_n 0, 1) := dX3_clause_23g.2.2.2.2.1
theorem dX3_clause_32 : decode cX3_clause 32 = .ok (.getfield 11, 3) := dX3_clause_23g.2.2.2.2.2.1
theorem dX3_clause_35 : decode cX3_clause 35 = .ok (.aload_n 0, 1) := dX3_clause_23g.2.2.2.2.2.2.1
theorem dX3_clause_36 : decode cX3_clause 36 = .ok (.getfield 34, 3) := dX3_clause_23g.2.2.2.2.2.2.2.1
theorem dX3_clause_39 : decode cX3_clause 39 = .ok (.aload_n 0, 1) := dX3_clause_23g.2.2.2.2.2.2.2.2.1
theorem dX3_clause_40 : decode cX3_clause 40 = .ok (.getfield 46, 3) := dX3_clause_23g.2.2.2.2.2.2.2.2.2
theorem dX3_clause_43g : (decode cX3_clause 43 = .ok (.sipush 256, 3)) ∧ (decode cX3_clause 46 = .ok (.isub, 1)) ∧ (decode cX3_clause 47 = .ok (.iastore, 1)) ∧ (decode cX3_clause 48 = .ok (.aload_n 0, 1)) ∧ (decode cX3_clause 49 = .ok (.getfield 46, 3)) ∧ (decode cX3_clause 52 = .ok (.sipush 259, 3)) ∧ (decode cX3_clause 55 = .ok (.if_icmp .eq 7, 3)) ∧ (decode cX3_clause 58 = .ok (.iconst 1, 1)) ∧ (decode cX3_clause 59 = .ok (.goto 4, 3)) ∧ (decode cX3_clause 62 = .ok (.iconst 0, 1)) := by decide +kernel
theorem dX3_clause_43 : decode cX3_clause 43 = .ok (.sipush 256, 3) := dX3_clause_43g.1
theorem dX3_clause_46 : decode cX3_clause 46 = .ok (.isub, 1) := dX3_clause_43g.2.1
theorem dX3_clause_47 : decode cX3_clause 47 = .ok (.iastore, 1) := dX3_clause_43g.2.2.1
theorem dX3_clause_48 : decode cX3_clause 48 = .ok (.aload_n 0, 1) := dX3_clause_43g.2.2.2.1
theorem dX3_clause_49 : decode cX3_clause 49 = .ok (.getfield 46, 3) := dX3_clause_43g.2.2.2.2.1
theorem dX3_clause_52 : decode cX3_clause 52 = .ok (.sipush 259, 3) := dX3_clause_43g.2.2.2.2.2.1
theorem dX3_clause_55 : decode cX3_clause 55 = .ok (.if_icmp .eq 7, 3) := dX3_clause_43g.2.2.2.2.2.2.1
theorem dX3_clause_58 : decode cX3_clause 58 = .ok (.iconst 1, 1) := dX3_clause_43g.2.2.2.2.2.2.2.1
theorem dX3_clause_59 : decode cX3_clause 59 = .ok (.goto 4, 3) := dX3_clause_43g.2.2.2.2.2.2.2.2.1
theorem dX3_clause_62 : decode cX3_clause 62 = .ok (.iconst 0, 1) := dX3_clause_43g.2.2.2.2.2.2.2.2.2
theorem dX3_clause_63g : (decode cX3_clause 63 = .ok (.istore_n 1, 1)) ∧ (decode cX3_clause 64 = .ok (.aload_n 0, 1)) ∧ (decode cX3_clause 65 = .ok (.getfield 15, 3)) ∧ (decode cX3_clause 68 = .ok (.iconst 2, 1)) ∧ (decode cX3_clause 69 = .ok (.aload_n 0, 1)) ∧ (decode cX3_clause 70 = .ok (.getfield 34, 3)) ∧ (decode cX3_clause 73 = .ok (.imul, 1)) ∧ (decode cX3_clause 74 = .ok (.aload_n 0, 1)) ∧ (decode cX3_clause 75 = .ok (.getfield 40, 3)) ∧ (decode cX3_clause 78 = .ok (.iastore, 1)) := by decide +kernel
theorem dX3_clause_63 : decode cX3_clause 63 = .ok (.istore_n 1, 1) := dX3_clause_63g.1
theorem dX3_clause_64 : decode cX3_clause 64 = .ok (.aload_n 0, 1) := dX3_clause_63g.2.1
theorem dX3_clause_65 : decode cX3_clause 65 = .ok (.getfield 15, 3) := dX3_clause_63g.2.2.1
theorem dX3_clause_68 : decode cX3_clause 68 = .ok (.iconst 2, 1) := dX3_clause_63g.2.2.2.1
theorem dX3_clause_69 : decode cX3_clause 69 = .ok (.aload_n 0, 1) := dX3_clause_63g.2.2.2.2.1
theorem dX3_clause_70 : decode cX3_clause 70 = .ok (.getfield 34, 3) := dX3_clause_63g.2.2.2.2.2.1
theorem dX3_clause_73 : decode cX3_clause 73 = .ok (.imul, 1) := dX3_clause_63g.2.2.2.2.2.2.1
theorem dX3_clause_74 : decode cX3_clause 74 = .ok (.aload_n 0, 1) := dX3_clause_63g.2.2.2.2.2.2.2.1
theorem dX3_clause_75 : decode cX3_clause 75 = .ok (.getfield 40, 3) := dX3_clause_63g.2.2.2.2.2.2.2.2.1
theorem dX3_clause_78 : decode cX3_clause 78 = .ok (.iastore, 1) := dX3_clause_63g.2.2.2.2.2.2.2.2.2
theorem dX3_clause_79g : (decode cX3_clause 79 = .ok (.aload_n 0, 1)) ∧ (decode cX3_clause 80 = .ok (.aload_n 0, 1)) ∧ (decode cX3_clause 81 = .ok (.getfield 43, 3)) ∧ (decode cX3_clause 84 = .ok (.iconst 1, 1)) ∧ (decode cX3_clause 85 = .ok (.iadd, 1)) ∧ (decode cX3_clause 86 = .ok (.invokevirtual 66, 3)) ∧ (decode cX3_clause 89 = .ok (.iload_n 1, 1)) ∧ (decode cX3_clause 90 = .ok (.ifCond .eq 13, 3)) ∧ (decode cX3_clause 93 = .ok (.aload_n 0, 1)) ∧ (decode cX3_clause 94 = .ok (.iconst 0, 1)) := by decide +kernel
theorem dX3_clause_79 : decode cX3_clause 79 = .ok (.aload_n 0, 1) := dX3_clause_79g.1
theorem dX3_clause_80 : decode cX3_clause 80 = .ok (.aload_n 0, 1) := dX3_clause_79g.2.1
theorem dX3_clause_81 : decode cX3_clause 81 = .ok (.getfield 43, 3) := dX3_clause_79g.2.2.1
theorem dX3_clause_84 : decode cX3_clause 84 = .ok (.iconst 1, 1) := dX3_clause_79g.2.2.2.1
theorem dX3_clause_85 : decode cX3_clause 85 = .ok (.iadd, 1) := dX3_clause_79g.2.2.2.2.1
theorem dX3_clause_86 : decode cX3_clause 86 = .ok (.invokevirtual 66, 3) := dX3_clause_79g.2.2.2.2.2.1
theorem dX3_clause_89 : decode cX3_clause 89 = .ok (.iload_n 1, 1) := dX3_clause_79g.2.2.2.2.2.2.1
theorem dX3_clause_90 : decode cX3_clause 90 = .ok (.ifCond .eq 13, 3) := dX3_clause_79g.2.2.2.2.2.2.2.1
theorem dX3_clause_93 : decode cX3_clause 93 = .ok (.aload_n 0, 1) := dX3_clause_79g.2.2.2.2.2.2.2.2.1
theorem dX3_clause_94 : decode cX3_clause 94 = .ok (.iconst 0, 1) := dX3_clause_79g.2.2.2.2.2.2.2.2.2
theorem dX3_clause_95g : (decode cX3_clause 95 = .ok (.invokevirtual 97, 3)) ∧ (decode cX3_clause 98 = .ok (.ifCond .ne 5, 3)) ∧ (decode cX3_clause 101 = .ok (.iconst 0, 1)) ∧ (decode cX3_clause 102 = .ok (.ireturn, 1)) ∧ (decode cX3_clause 103 = .ok (.aload_n 0, 1)) ∧ (decode cX3_clause 104 = .ok (.getfield 15, 3)) ∧ (decode cX3_clause 107 = .ok (.iconst 2, 1)) ∧ (decode cX3_clause 108 = .ok (.aload_n 0, 1)) ∧ (decode cX3_clause 109 = .ok (.getfield 34, 3)) ∧ (decode cX3_clause 112 = .ok (.imul, 1)) := by decide +kernel
theorem dX3_clause_95 : decode cX3_clause 95 = .ok (.invokevirtual 97, 3) := dX3_clause_95g.1
theorem dX3_clause_98 : decode cX3_clause 98 = .ok (.ifCond .ne 5, 3) := dX3_clause_95g.2.1
theorem dX3_clause_101 : decode cX3_clause 101 = .ok (.iconst 0, 1) := dX3_clause_95g.2.2.1
theorem dX3_clause_102 : decode cX3_clause 102 = .ok (.ireturn, 1) := dX3_clause_95g.2.2.2.1
theorem dX3_clause_103 : decode cX3_clause 103 = .ok (.aload_n 0, 1) := dX3_clause_95g.2.2.2.2.1
theorem dX3_clause_104 : decode cX3_clause 104 = .ok (.getfield 15, 3) := dX3_clause_95g.2.2.2.2.2.1
theorem dX3_clause_107 : decode cX3_clause 107 = .ok (.iconst 2, 1) := dX3_clause_95g.2.2.2.2.2.2.1
theorem dX3_clause_108 : decode cX3_clause 108 = .ok (.aload_n 0, 1) := dX3_clause_95g.2.2.2.2.2.2.2.1
theorem dX3_clause_109 : decode cX3_clause 109 = .ok (.getfield 34, 3) := dX3_clause_95g.2.2.2.2.2.2.2.2.1
theorem dX3_clause_112 : decode cX3_clause 112 = .ok (.imul, 1) := dX3_clause_95g.2.2.2.2.2.2.2.2.2
theorem dX3_clause_113g : (decode cX3_clause 113 = .ok (.iconst 1, 1)) ∧ (decode cX3_clause 114 = .ok (.iadd, 1)) ∧ (decode cX3_clause 115 = .ok (.aload_n 0, 1)) ∧ (decode cX3_clause 116 = .ok (.getfield 40, 3)) ∧ (decode cX3_clause 119 = .ok (.iastore, 1)) ∧ (decode cX3_clause 120 = .ok (.aload_n 0, 1)) ∧ (decode cX3_clause 121 = .ok (.getfield 46, 3)) ∧ (decode cX3_clause 124 = .ok (.sipush 260, 3)) ∧ (decode cX3_clause 127 = .ok (.if_icmp .ne 23, 3)) ∧ (decode cX3_clause 130 = .ok (.aload_n 0, 1)) := by decide +kernel
theorem dX3_clause_113 : decode cX3_clause 113 = .ok (.iconst 1, 1) := dX3_clause_113g.1
theorem dX3_clause_114 : decode cX3_clause 114 = .ok (.iadd, 1) := dX3_clause_113g.2.1
theorem dX3_clause_115 : decode cX3_clause 115 = .ok (.aload_n 0, 1) := dX3_clause_113g.2.2.1
theorem dX3_clause_116 : decode cX3_clause 116 = .ok (.getfield 40, 3) := dX3_clause_113g.2.2.2.1
theorem dX3_clause_119 : decode cX3_clause 119 = .ok (.iastore, 1) := dX3_clause_113g.2.2.2.2.1
theorem dX3_clause_120 : decode cX3_clause 120 = .ok (.aload_n 0, 1) := dX3_clause_113g.2.2.2.2.2.1
theorem dX3_clause_121 : decode cX3_clause 121 = .ok (.getfield 46, 3) := dX3_clause_113g.2.2.2.2.2.2.1
theorem dX3_clause_124 : decode cX3_clause 124 = .ok (.sipush 260, 3) := dX3_clause_113g.2.2.2.2.2.2.2.1
theorem dX3_clause_127 : decode cX3_clause 127 = .ok (.if_icmp .ne 23, 3) := dX3_clause_113g.2.2.2.2.2.2.2.2.1
theorem dX3_clause_130 : decode cX3_clause 130 = .ok (.aload_n 0, 1) := dX3_clause_113g.2.2.2.2.2.2.2.2.2
theorem dX3_clause_131g : (decode cX3_clause 131 = .ok (.aload_n 0, 1)) ∧ (decode cX3_clause 132 = .ok (.getfield 43, 3)) ∧ (decode cX3_clause 135 = .ok (.iconst 1, 1)) ∧ (decode cX3_clause 136 = .ok (.iadd, 1)) ∧ (decode cX3_clause 137 = .ok (.invokevirtual 66, 3)) ∧ (decode cX3_clause 140 = .ok (.aload_n 0, 1)) ∧ (decode cX3_clause 141 = .ok (.iconst 0, 1)) ∧ (decode cX3_clause 142 = .ok (.invokevirtual 100, 3)) ∧ (decode cX3_clause 145 = .ok (.ifCond .ne 5, 3)) ∧ (decode cX3_clause 148 = .ok (.iconst 0, 1)) := by decide +kernel
theorem dX3_clause_131 : decode cX3_clause 131 = .ok (.aload_n 0, 1) := dX3_clause_131g.1
theorem dX3_clause_132 : decode cX3_clause 132 = .ok (.getfield 43, 3) := dX3_clause_131g.2.1
theorem dX3_clause_135 : decode cX3_clause 135 = .ok (.iconst 1, 1) := dX3_clause_131g.2.2.1
theorem dX3_clause_136 : decode cX3_clause 136 = .ok (.iadd, 1) := dX3_clause_131g.2.2.2.1
theorem dX3_clause_137 : decode cX3_clause 137 = .ok (.invokevirtual 66, 3) := dX3_clause_131g.2.2.2.2.1
theorem dX3_clause_140 : decode cX3_clause 140 = .ok (.aload_n 0, 1) := dX3_clause_131g.2.2.2.2.2.1
theorem dX3_clause_141 : decode cX3_clause 141 = .ok (.iconst 0, 1) := dX3_clause_131g.2.2.2.2.2.2.1
theorem dX3_clause_142 : decode cX3_clause 142 = .ok (.invokevirtual 100, 3) := dX3_clause_131g.2.2.2.2.2.2.2.1
theorem dX3_clause_145 : decode cX3_clause 145 = .ok (.ifCond .ne 5, 3) := dX3_clause_131g.2.2.2.2.2.2.2.2.1
theorem dX3_clause_148 : decode cX3_clause 148 = .ok (.iconst 0, 1) := dX3_clause_131g.2.2.2.2.2.2.2.2.2
theorem dX3_clause_149g : (decode cX3_clause 149 = .ok (.ireturn, 1)) ∧ (decode cX3_clause 150 = .ok (.aload_n 0, 1)) ∧ (decode cX3_clause 151 = .ok (.dup, 1)) ∧ (decode cX3_clause 152 = .ok (.getfield 34, 3)) ∧ (decode cX3_clause 155 = .ok (.iconst 1, 1)) ∧ (decode cX3_clause 156 = .ok (.iadd, 1)) ∧ (decode cX3_clause 157 = .ok (.putfield 34, 3)) ∧ (decode cX3_clause 160 = .ok (.aload_n 0, 1)) ∧ (decode cX3_clause 161 = .ok (.getfield 15, 3)) ∧ (decode cX3_clause 164 = .ok (.iconst 2, 1)) := by decide +kernel
theorem dX3_clause_149 : decode cX3_clause 149 = .ok (.ireturn, 1) := dX3_clause_149g.1
theorem dX3_clause_150 : decode cX3_clause 150 = .ok (.aload_n 0, 1) := dX3_clause_149g.2.1
theorem dX3_clause_151 : decode cX3_clause 151 = .ok (.dup, 1) := dX3_clause_149g.2.2.1
theorem dX3_clause_152 : decode cX3_clause 152 = .ok (.getfield 34, 3) := dX3_clause_149g.2.2.2.1
theorem dX3_clause_155 : decode cX3_clause 155 = .ok (.iconst 1, 1) := dX3_clause_149g.2.2.2.2.1
theorem dX3_clause_156 : decode cX3_clause 156 = .ok (.iadd, 1) := dX3_clause_149g.2.2.2.2.2.1
theorem dX3_clause_157 : decode cX3_clause 157 = .ok (.putfield 34, 3) := dX3_clause_149g.2.2.2.2.2.2.1
theorem dX3_clause_160 : decode cX3_clause 160 = .ok (.aload_n 0, 1) := dX3_clause_149g.2.2.2.2.2.2.2.1
theorem dX3_clause_161 : decode cX3_clause 161 = .ok (.getfield 15, 3) := dX3_clause_149g.2.2.2.2.2.2.2.2.1
theorem dX3_clause_164 : decode cX3_clause 164 = .ok (.iconst 2, 1) := dX3_clause_149g.2.2.2.2.2.2.2.2.2
theorem dX3_clause_165g : (decode cX3_clause 165 = .ok (.aload_n 0, 1)) ∧ (decode cX3_clause 166 = .ok (.getfield 34, 3)) ∧ (decode cX3_clause 169 = .ok (.imul, 1)) ∧ (decode cX3_clause 170 = .ok (.aload_n 0, 1)) ∧ (decode cX3_clause 171 = .ok (.getfield 40, 3)) ∧ (decode cX3_clause 174 = .ok (.iastore, 1)) ∧ (decode cX3_clause 175 = .ok (.iconst 1, 1)) ∧ (decode cX3_clause 176 = .ok (.ireturn, 1)) := by decide +kernel
theorem dX3_clause_165 : decode cX3_clause 165 = .ok (.aload_n 0, 1) := dX3_clause_165g.1
theorem dX3_clause_166 : decode cX3_clause 166 = .ok (.getfield 34, 3) := dX3_clause_165g.2.1
theorem dX3_clause_169 : decode cX3_clause 169 = .ok (.imul, 1) := dX3_clause_165g.2.2.1
theorem dX3_clause_170 : decode cX3_clause 170 = .ok (.aload_n 0, 1) := dX3_clause_165g.2.2.2.1
theorem dX3_clause_171 : decode cX3_clause 171 = .ok (.getfield 40, 3) := dX3_clause_165g.2.2.2.2.1
theorem dX3_clause_174 : decode cX3_clause 174 = .ok (.iastore, 1) := dX3_clause_165g.2.2.2.2.2.1
theorem dX3_clause_175 : decode cX3_clause 175 = .ok (.iconst 1, 1) := dX3_clause_165g.2.2.2.2.2.2.1
theorem dX3_clause_176 : decode cX3_clause 176 = .ok (.ireturn, 1) := dX3_clause_165g.2.2.2.2.2.2.2
set_option maxHeartbeats 4000000 in
set_option maxRecDepth 100000 in
theorem c_X3_clause (l : Launch) (E : Nat → Nat) (D : va_G) (G : th_G) (h0 : Nat) (hG0 : G h0 = some (7, 12)) : Met l yX3_clause (tb (.code yX3_clause cX3_clause 2 (some .boolean))) (rm 47) (va_Pc [.ref h0] (th_P E D G)) (QI E D G (fun r => 0 ≤ (r : Int32).toInt ∧ (r : Int32).toInt ≤ 1)) 0 0 (th_A G) := by
  refine Met.ofW (cc := cX3_clause) (maxL := 2) (ret := (some .boolean)) (by decide) rfl ?_
  intro p e s m args below meth c s₁ B hml hv
  obtain ⟨hav, hI, hN, hK⟩ := hv
  have hx := B.exec
  have hb := B.bytes
  have hr := B.returns
  have hts := atoms_spec (ws := tb (.code yX3_clause cX3_clause 2 (some .boolean))) B.pre
  have hown : s.vm.findClass RX3 = some m.cls := findClass_of_methodNamed B.named
  have hlocks := B.notSynchronized
  have hS : va_S (th_A G) s.heap s.heap [] := va_S.rf
  have hl := lv_entry ([.ref h0]) (n := 2) (Nat.le_of_ble_eq_true rfl)
  rw [show entryFrame m args 2 = entryFrame m ([.ref h0] : List Value).toArray 2 from by rw [hav], lg_entry_eq]
  generalize (lg_sl ([.ref h0]) ++ List.replicate (2 - (lg_sl ([.ref h0])).length) Slot.unset).toArray = ls at hl ⊢
  have hl : lv_has ls 2 [(0, .ref h0)] := hl
  generalize hR : (headSpec (tb (.code yX3_clause cX3_clause 2 (some .boolean))) (rm 47)).room = R
  have hR := hR.symm
  generalize hQ : MQ below (QI E D G (fun r => 0 ≤ (r : Int32).toInt ∧ (r : Int32).toInt ≤ 1)) args s 0 0 (th_A G) = QF
  have hQ := hQ.symm
  refine lv_aload_n hx hb dX3_clause_0 rfl (lv_at hl 0 rfl) ?_
  obtain ⟨a1, a3, a5, a7, a9, a11, w13, w16, w19, w20, w23, w24, hO, hq2, hq4, hq6, hq8, hq10, hq12, ⟨k14, k15⟩, ⟨k17, k18⟩, ⟨k21, k22⟩, k25⟩ := op_7 hI hG0 List.not_mem_nil
  have hI := th_I.weak (a := h0) hI
  refine th_get hx hb hts inT3 hown hK hO rfl 7 (by decide) (hts _ (tb_c wd_136)) rfl rfl dX3_clause_1 ?_
  refine lv_bipush (v := 12) hx hb dX3_clause_4 (by decide) ?_
  refine lv_icmp_ge (tgt := 29) hx hb dX3_clause_6 (by decide) (fun c26 => ?_) (fun c26 => ?_)
  · skip
    have k27 := iv_le (X := (12)) (Y := w16.toInt) (by decide) rfl c26
    refine lv_iconst (v := 0) hx hb dX3_clause_29 (by decide) ?_
    have hI := th_I.close hI hG0 hO (ok_7 hq2 hq4 hq6 hq8 hq10 hq12 ⟨by omega, by omega⟩ ⟨by omega, by omega⟩ ⟨by omega, by omega⟩ (by omega))
    have hpost : 0 ≤ (0 : Int32).toInt ∧ (0 : Int32).toInt ≤ 1 := by first | decide | omega
    rw [hQ]
    exact W.zret (v := 0) hx hb hr (by decide) (fun t ht hW => ⟨⟨0, (), rfl, hpost, by rw [ht]; exact hI, hN.warm hW, va_K.moved hW.alike hK⟩, hS.F ht⟩) hS.2.2 dX3_clause_30
  · skip
    have k28 := iv_nle (X := (12)) (Y := w16.toInt) (by decide) rfl c26
    refine lv_aload_n hx hb dX3_clause_9 rfl (lv_at hl 0 rfl) ?_
    refine th_get hx hb hts inT3 hown hK hO rfl 11 (by decide) (hts _ (tb_c wd_140)) rfl rfl dX3_clause_10 ?_
    refine lv_sipush (v := 256) hx hb dX3_clause_13 (by decide) ?_
    have k29 := iv_lo w24
    have k30 := iv_hi w24
    refine lv_icmp_lt (tgt := 29) hx hb dX3_clause_16 (by decide) (fun c31 => ?_) (fun c31 => ?_)
    · skip
      have k32 := iv_lt (X := w24.toInt) (Y := (256)) rfl (by decide) c31
      refine lv_iconst (v := 0) hx hb dX3_clause_29 (by decide) ?_
      have hI := th_I.close hI hG0 hO (ok_7 hq2 hq4 hq6 hq8 hq10 hq12 ⟨by omega, by omega⟩ ⟨by omega, by omega⟩ ⟨by omega, by omega⟩ (by omega))
      have hpost : 0 ≤ (0 : Int32).toInt ∧ (0 : Int32).toInt ≤ 1 := by first | decide | omega
      rw [hQ]
      exact W.zret (v := 0) hx hb hr (by decide) (fun t ht hW => ⟨⟨0, (), rfl, hpost, by rw [ht]; exact hI, hN.warm hW, va_K.moved hW.alike hK⟩, hS.F ht⟩) hS.2.2 dX3_clause_30
    · skip
      have k33 := iv_nlt (X := w24.toInt) (Y := (256)) rfl (by decide) c31
      refine lv_aload_n hx hb dX3_clause_19 rfl (lv_at hl 0 rfl) ?_
      refine th_get hx hb hts inT3 hown hK hO rfl 11 (by decide) (hts _ (tb_c wd_140)) rfl rfl dX3_clause_20 ?_
      refine lv_sipush (v := 259) hx hb dX3_clause_23 (by decide) ?_
      refine lv_icmp_le (tgt := 31) hx hb dX3_clause_26 (by decide) (fun c34 => ?_) (fun c34 => ?_)
      · skip
        have k35 := iv_le (X := w24.toInt) (Y := (259)) rfl (by decide) c34
        refine lv_aload_n hx hb dX3_clause_31 rfl (lv_at hl 0 rfl) ?_
        refine th_get hx hb hts inT3 hown hK hO rfl 0 (by decide) (hts _ (tb_c wd_129)) rfl rfl dX3_clause_32 ?_
        refine lv_aload_n hx hb dX3_clause_35 rfl (lv_at hl 0 rfl) ?_
        refine th_get hx hb hts inT3 hown hK hO rfl 7 (by decide) (hts _ (tb_c wd_136)) rfl rfl dX3_clause_36 ?_
        refine lv_aload_n hx hb dX3_clause_39 rfl (lv_at hl 0 rfl) ?_
        refine th_get hx hb hts inT3 hown hK hO rfl 11 (by decide) (hts _ (tb_c wd_140)) rfl rfl dX3_clause_40 ?_
        refine lv_sipush (v := 256) hx hb dX3_clause_43 (by decide) ?_
        refine lv_isub hx hb dX3_clause_46 ?_
        refine lv_topi (fun v36 e37 => ?_)
        have tv36 : v36.toInt = w24.toInt - (256) := iv_sub rfl (by decide) e37 (by omega) (by omega)
        obtain ⟨_, hA38⟩ := op_0 hI hq2 (th_ne hG0 hq2 (show (7 : Nat) ≠ 0 by decide))
        refine th_iast hx hb hK hA38 0 rfl hS ⟨_, hq2⟩ (iv_in (X := w16.toInt) rfl (by omega) (by omega)) dX3_clause_47 (fun H locs hA38 oq hS => ?_)
        have hI := th_I.put hI hq2 hA38 ok_0 oq
        have hO := hO.kept (oq _ (fun z => th_ne hG0 hq2 (show (7 : Nat) ≠ 0 by decide) (List.mem_singleton.mpr z.symm)))
        refine lv_aload_n hx hb dX3_clause_48 rfl (lv_at hl 0 rfl) ?_
        refine th_get hx hb hts inT3 hown hK hO rfl 11 (by decide) (hts _ (tb_c wd_140)) rfl rfl dX3_clause_49 ?_
        refine lv_sipush (v := 259) hx hb dX3_clause_52 (by decide) ?_
        refine lv_icmp_eq (tgt := 62) hx hb dX3_clause_55 (by decide) (fun c39 => ?_) (fun c39 => ?_)
        · skip
          have k40 := iv_eq (X := w24.toInt) (Y := (259)) rfl (by decide) c39
          refine lv_iconst (v := 0) hx hb dX3_clause_62 (by decide) ?_
          refine lv_istore_n (lv' := [(1, .int 0), (0, .ref h0)]) hx hb dX3_clause_63 rfl hl (by decide) rfl (fun ls hl => ?_)
          refine lv_aload_n hx hb dX3_clause_64 rfl (lv_at hl 1 rfl) ?_
          refine th_get hx hb hts inT3 hown hK hO rfl 1 (by decide) (hts _ (tb_c wd_130)) rfl rfl dX3_clause_65 ?_
          refine lv_iconst (v := 2) hx hb dX3_clause_68 (by decide) ?_
          refine lv_aload_n hx hb dX3_clause_69 rfl (lv_at hl 1 rfl) ?_
          refine th_get hx hb hts inT3 hown hK hO rfl 7 (by decide) (hts _ (tb_c wd_136)) rfl rfl dX3_clause_70 ?_
          refine lv_imul hx hb dX3_clause_73 ?_
          refine lv_topi (fun v41 e42 => ?_)
          have tv41 : v41.toInt = (2) * w16.toInt := iv_mul (by decide) rfl e42 (by omega) (by omega)
          refine lv_aload_n hx hb dX3_clause_74 rfl (lv_at hl 1 rfl) ?_
          refine th_get hx hb hts inT3 hown hK hO rfl 9 (by decide) (hts _ (tb_c wd_138)) rfl rfl dX3_clause_75 ?_
          obtain ⟨_, hA43⟩ := op_0 hI hq4 (th_ne hG0 hq4 (show (7 : Nat) ≠ 0 by decide))
          refine th_iast hx hb hK hA43 0 rfl hS ⟨_, hq4⟩ (iv_in (X := v41.toInt) rfl (by omega) (by omega)) dX3_clause_78 (fun H locs hA43 oq hS => ?_)
          have hI := th_I.put hI hq4 hA43 ok_0 oq
          have hO := hO.kept (oq _ (fun z => th_ne hG0 hq4 (show (7 : Nat) ≠ 0 by decide) (List.mem_singleton.mpr z.symm)))
          refine lv_aload_n hx hb dX3_clause_79 rfl (lv_at hl 1 rfl) ?_
          refine lv_aload_n hx hb dX3_clause_80 rfl (lv_at hl 1 rfl) ?_
          refine th_get hx hb hts inT3 hown hK hO rfl 10 (by decide) (hts _ (tb_c wd_139)) rfl rfl dX3_clause_81 ?_
          refine lv_iconst (v := 1) hx hb dX3_clause_84 (by decide) ?_
          refine lv_iadd hx hb dX3_clause_85 ?_
          refine lv_topi (fun v44 e45 => ?_)
          try have tv44 : v44.toInt = w23.toInt + (1) := iv_add rfl (by decide) e45 (by omega) (by omega)
          have hI7 := th_G7 hI hG0 hO hq2 hq4 hq6 hq8 hq10 hq12 ⟨by omega, by omega⟩ ⟨by omega, by omega⟩ ⟨by omega, by omega⟩
          refine th_c7v (As := [.int v44]) (rest := []) (n := 1) (d := 0) ⟨hx, hb, hml, hown, hts⟩ (c_X3_moveTo l E D (G7 G h0 11) h0 (11) G7_a v44) wd_707 wd_709 wp_13 wd_5 wd_710 (by decide +kernel) ⟨by rw [hR]; exact Nat.le_of_ble_eq_true rfl, by rw [hR]; exact Nat.le_of_ble_eq_true rfl⟩ hI hI7 hG0 hN hK hS rfl hl.1 rfl (Nat.le_of_ble_eq_true rfl) dX3_clause_86 ⟨Nat.zero_le _, Nat.zero_le _⟩ (fun H locs hI hc hS => ?_)
          obtain ⟨a47, a49, a51, a53, a55, a57, w59, w62, w65, w66, w69, w70, hO, hq48, hq50, hq52, hq54, hq56, hq58, ⟨k60, k61⟩, ⟨k63, k64⟩, ⟨k67, k68⟩⟩ := hc
          refine lv_iload_n hx hb dX3_clause_89 rfl (lv_at hl 0 rfl) ?_
          refine lv_if_eq (tgt := 103) hx hb dX3_clause_90 (by decide) (fun _ => ?_) (fun c => absurd c (by decide))
          refine lv_aload_n hx hb dX3_clause_103 rfl (lv_at hl 1 rfl) ?_
          refine th_get hx hb hts inT3 hown hK hO rfl 1 (by decide) (hts _ (tb_c wd_130)) rfl rfl dX3_clause_104 ?_
          refine lv_iconst (v := 2) hx hb dX3_clause_107 (by decide) ?_
          refine lv_aload_n hx hb dX3_clause_108 rfl (lv_at hl 1 rfl) ?_
          refine th_get hx hb hts inT3 hown hK hO rfl 7 (by decide) (hts _ (tb_c wd_136)) rfl rfl dX3_clause_109 ?_
          refine lv_imul hx hb dX3_clause_112 ?_
          refine lv_topi (fun v71 e72 => ?_)
          have tv71 : v71.toInt = (2) * w62.toInt := iv_mul (by decide) rfl e72 (by omega) (by omega)
          refine lv_iconst (v := 1) hx hb dX3_clause_113 (by decide) ?_
          refine lv_iadd hx hb dX3_clause_114 ?_
          refine lv_topi (fun v73 e74 => ?_)
          have tv73 : v73.toInt = v71.toInt + (1) := iv_add rfl (by decide) e74 (by omega) (by omega)
          refine lv_aload_n hx hb dX3_clause_115 rfl (lv_at hl 1 rfl) ?_
          refine th_get hx hb hts inT3 hown hK hO rfl 9 (by decide) (hts _ (tb_c wd_138)) rfl rfl dX3_clause_116 ?_
          obtain ⟨_, hA75⟩ := op_0 hI hq50 (th_ne hG0 hq50 (show (7 : Nat) ≠ 0 by decide))
          refine th_iast hx hb hK hA75 0 rfl hS ⟨_, hq50⟩ (iv_in (X := v73.toInt) rfl (by omega) (by omega)) dX3_clause_119 (fun H locs hA75 oq hS => ?_)
          have hI := th_I.put hI hq50 hA75 ok_0 oq
          have hO := hO.kept (oq _ (fun z => th_ne hG0 hq50 (show (7 : Nat) ≠ 0 by decide) (List.mem_singleton.mpr z.symm)))
          refine lv_aload_n hx hb dX3_clause_120 rfl (lv_at hl 1 rfl) ?_
          refine th_get hx hb hts inT3 hown hK hO rfl 11 (by decide) (hts _ (tb_c wd_140)) rfl rfl dX3_clause_121 ?_
          refine lv_sipush (v := 260) hx hb dX3_clause_124 (by decide) ?_
          have k76 := iv_lo w70
          have k77 := iv_hi w70
          refine lv_icmp_ne (tgt := 150) hx hb dX3_clause_127 (by decide) (fun c78 => ?_) (fun c78 => ?_)
          · skip
            have k79 := iv_ne (X := w70.toInt) (Y := (260)) rfl (by decide) c78
            refine lv_aload_n hx hb dX3_clause_150 rfl (lv_at hl 1 rfl) ?_
            refine lv_dup hx hb dX3_clause_151 rfl ?_
            refine th_get hx hb hts inT3 hown hK hO rfl 7 (by decide) (hts _ (tb_c wd_136)) rfl rfl dX3_clause_152 ?_
            refine lv_iconst (v := 1) hx hb dX3_clause_155 (by decide) ?_
            refine lv_iadd hx hb dX3_clause_156 ?_
            refine lv_topi (fun v80 e81 => ?_)
            have tv80 : v80.toInt = w62.toInt + (1) := iv_add rfl (by decide) e81 (by omega) (by omega)
            refine th_put (ty := .int) hx hb hts inT3 tyX3 tyX3_ok nmX3 hown hK hO hS ⟨_, hG0⟩ rfl 7 (by decide) (hts _ (tb_c wd_136)) rfl rfl (by decide +kernel) rfl rfl (Nat.le_of_ble_eq_true rfl) dX3_clause_157 (fun H locs hO oq hS => ?_)
            have hI := th_I.moved hI oq
            have hO : va_at D vwCl (h0, .inr (3, [.ref a47, .ref a49, .ref a51, .ref a53, .ref a55, .ref a57, .int w59, .int v80, .int w65, .int w66, .int w69, .int w70])) H := hO
            refine lv_aload_n hx hb dX3_clause_160 rfl (lv_at hl 1 rfl) ?_
            refine th_get hx hb hts inT3 hown hK hO rfl 1 (by decide) (hts _ (tb_c wd_130)) rfl rfl dX3_clause_161 ?_
            refine lv_iconst (v := 2) hx hb dX3_clause_164 (by decide) ?_
            refine lv_aload_n hx hb dX3_clause_165 rfl (lv_at hl 1 rfl) ?_
            refine th_get hx hb hts inT3 hown hK hO rfl 7 (by decide) (hts _ (tb_c wd_136)) rfl rfl dX3_clause_166 ?_
            refine lv_imul hx hb dX3_clause_169 ?_
            refine lv_topi (fun v82 e83 => ?_)
            have tv82 : v82.toInt = (2) * v80.toInt := iv_mul (by decide) rfl e83 (by omega) (by omega)
            refine lv_aload_n hx hb dX3_clause_170 rfl (lv_at hl 1 rfl) ?_
            refine th_get hx hb hts inT3 hown hK hO rfl 9 (by decide) (hts _ (tb_c wd_138)) rfl rfl dX3_clause_171 ?_
            obtain ⟨_, hA84⟩ := op_0 hI hq50 (th_ne hG0 hq50 (show (7 : Nat) ≠ 0 by decide))
            refine th_iast hx hb hK hA84 0 rfl hS ⟨_, hq50⟩ (iv_in (X := v82.toInt) rfl (by omega) (by omega)) dX3_clause_174 (fun H locs hA84 oq hS => ?_)
            have hI := th_I.put hI hq50 hA84 ok_0 oq
            have hO := hO.kept (oq _ (fun z => th_ne hG0 hq50 (show (7 : Nat) ≠ 0 by decide) (List.mem_singleton.mpr z.symm)))
            refine lv_iconst (v := 1) hx hb dX3_clause_175 (by decide) ?_
            have hI := th_I.close hI hG0 hO (ok_7 hq48 hq50 hq52 hq54 hq56 hq58 ⟨by omega, by omega⟩ ⟨by omega, by omega⟩ ⟨by omega, by omega⟩ (by omega))
            have hpost : 0 ≤ (1 : Int32).toInt ∧ (1 : Int32).toInt ≤ 1 := by first | decide | omega
            rw [hQ]
            exact W.zret (v := 1) hx hb hr (by decide) (fun t ht hW => ⟨⟨1, (), rfl, hpost, by rw [ht]; exact hI, hN.warm hW, va_K.moved hW.alike hK⟩, hS.F ht⟩) hS.2.2 dX3_clause_176
          · skip
            have k85 := iv_eq (X := w70.toInt) (Y := (260)) rfl (by decide) c78
            refine lv_aload_n hx hb dX3_clause_130 rfl (lv_at hl 1 rfl) ?_
            refine lv_aload_n hx hb dX3_clause_131 rfl (lv_at hl 1 rfl) ?_
            refine th_get hx hb hts inT3 hown hK hO rfl 10 (by decide) (hts _ (tb_c wd_139)) rfl rfl dX3_clause_132 ?_
            refine lv_iconst (v := 1) hx hb dX3_clause_135 (by decide) ?_
            refine lv_iadd hx hb dX3_clause_136 ?_
            refine lv_topi (fun v86 e87 => ?_)
            try have tv86 : v86.toInt = w69.toInt + (1) := iv_add rfl (by decide) e87 (by omega) (by omega)
            have hI7 := th_G7 hI hG0 hO hq48 hq50 hq52 hq54 hq56 hq58 ⟨by omega, by omega⟩ ⟨by omega, by omega⟩ ⟨by omega, by omega⟩
            refine th_c7v (As := [.int v86]) (rest := []) (n := 1) (d := 0) ⟨hx, hb, hml, hown, hts⟩ (c_X3_moveTo l E D (G7 G h0 11) h0 (11) G7_a v86) wd_707 wd_709 wp_13 wd_5 wd_710 (by decide +kernel) ⟨by rw [hR]; exact Nat.le_of_ble_eq_true rfl, by rw [hR]; exact Nat.le_of_ble_eq_true rfl⟩ hI hI7 hG0 hN hK hS rfl hl.1 rfl (Nat.le_of_ble_eq_true rfl) dX3_clause_137 ⟨Nat.zero_le _, Nat.zero_le _⟩ (fun H locs hI hc hS => ?_)
            obtain ⟨a89, a91, a93, a95, a97, a99, w101, w104, w107, w108, w111, w112, hO, hq90, hq92, hq94, hq96, hq98, hq100, ⟨k102, k103⟩, ⟨k105, k106⟩, ⟨k109, k110⟩⟩ := hc
            refine lv_aload_n hx hb dX3_clause_140 rfl (lv_at hl 1 rfl) ?_
            refine lv_iconst (v := 0) hx hb dX3_clause_141 (by decide) ?_
            have hI7 := th_G7 hI hG0 hO hq90 hq92 hq94 hq96 hq98 hq100 ⟨by omega, by omega⟩ ⟨by omega, by omega⟩ ⟨by omega, by omega⟩
            refine th_c7i (As := [.int 0]) (rest := []) (n := 1) (d := 46) ⟨hx, hb, hml, hown, hts⟩ (c_X3_test l E D (G7 G h0 11) 8 h0 (11) G7_a 0 (by first | decide | omega) (by first | decide | omega) (fun h9 n9 g9 x9 a9 b9 => c_X3_plain l E D (G7 G h0 11) 8 h9 n9 g9 x9 a9 b9 (c_X3_enclosed l E D (G7 G h0 11) 8))) wd_731 wd_733 wp_19 wd_5 wd_734 (by decide +kernel) ⟨by rw [hR]; exact Nat.le_of_ble_eq_true rfl, by rw [hR]; exact Nat.le_of_ble_eq_true rfl⟩ hI hI7 hG0 hN hK hS rfl hl.1 rfl (Nat.le_of_ble_eq_true rfl) dX3_clause_142 ⟨Nat.zero_le _, Nat.zero_le _⟩ (fun r113 H locs hp hI hc hS => ?_)
            obtain ⟨a114, a116, a118, a120, a122, a124, w126, w129, w132, w133, w136, w137, hO, hq115, hq117, hq119, hq121, hq123, hq125, ⟨k127, k128⟩, ⟨k130, k131⟩, ⟨k134, k135⟩⟩ := hc
            have hp138 := hp
            refine lv_if_ne (tgt := 150) hx hb dX3_clause_145 (by decide) (fun c139 => ?_) (fun c139 => ?_)
            · skip
              have k140 := iv_ne (X := r113.toInt) (Y := (0)) rfl (by decide) c139
              refine lv_aload_n hx hb dX3_clause_150 rfl (lv_at hl 1 rfl) ?_
              refine lv_dup hx hb dX3_clause_151 rfl ?_
              refine th_get hx hb hts inT3 hown hK hO rfl 7 (by decide) (hts _ (tb_c wd_136)) rfl rfl dX3_clause_152 ?_
              refine lv_iconst (v := 1) hx hb dX3_clause_155 (by decide) ?_
              refine lv_iadd hx hb dX3_clause_156 ?_
              refine lv_topi (fun v141 e142 => ?_)
              have tv141 : v141.toInt = w129.toInt + (1) := iv_add rfl (by decide) e142 (by omega) (by omega)
              refine th_put (ty := .int) hx hb hts inT3 tyX3 tyX3_ok nmX3 hown hK hO hS ⟨_, hG0⟩ rfl 7 (by decide) (hts _ (tb_c wd_136)) rfl rfl (by decide +kernel) rfl rfl (Nat.le_of_ble_eq_true rfl) dX3_clause_157 (fun H locs hO oq hS => ?_)
              have hI := th_I.moved hI oq
              have hO : va_at D vwCl (h0, .inr (3, [.ref a114, .ref a116, .ref a118, .ref a120, .ref a122, .ref a124, .int w126, .int v141, .int w132, .int w133, .int w136, .int w137])) H := hO
              refine lv_aload_n hx hb dX3_clause_160 rfl (lv_at hl 1 rfl) ?_
              refine th_get hx hb hts inT3 hown hK hO rfl 1 (by decide) (hts _ (tb_c wd_130)) rfl rfl dX3_clause_161 ?_
              refine lv_iconst (v := 2) hx hb dX3_clause_164 (by decide) ?_
              refine lv_aload_n hx hb dX3_clause_165 rfl (lv_at hl 1 rfl) ?_
              refine th_get hx hb hts inT3 hown hK hO rfl 7 (by decide) (hts _ (tb_c wd_136)) rfl rfl dX3_clause_166 ?_
              refine lv_imul hx hb dX3_clause_169 ?_
              refine lv_topi (fun v143 e144 => ?_)
              have tv143 : v143.toInt = (2) * v141.toInt := iv_mul (by decide) rfl e144 (by omega) (by omega)
              refine lv_aload_n hx hb dX3_clause_170 rfl (lv_at hl 1 rfl) ?_
              refine th_get hx hb hts inT3 hown hK hO rfl 9 (by decide) (hts _ (tb_c wd_138)) rfl rfl dX3_clause_171 ?_
              obtain ⟨_, hA145⟩ := op_0 hI hq117 (th_ne hG0 hq117 (show (7 : Nat) ≠ 0 by decide))
              refine th_iast hx hb hK hA145 0 rfl hS ⟨_, hq117⟩ (iv_in (X := v143.toInt) rfl (by omega) (by omega)) dX3_clause_174 (fun H locs hA145 oq hS => ?_)
              have hI := th_I.put hI hq117 hA145 ok_0 oq
              have hO := hO.kept (oq _ (fun z => th_ne hG0 hq117 (show (7 : Nat) ≠ 0 by decide) (List.mem_singleton.mpr z.symm)))
              refine lv_iconst (v := 1) hx hb dX3_clause_175 (by decide) ?_
              have hI := th_I.close hI hG0 hO (ok_7 hq115 hq117 hq119 hq121 hq123 hq125 ⟨by omega, by omega⟩ ⟨by omega, by omega⟩ ⟨by omega, by omega⟩ (by omega))
              have hpost : 0 ≤ (1 : Int32).toInt ∧ (1 : Int32).toInt ≤ 1 := by first | decide | omega
              rw [hQ]
              exact W.zret (v := 1) hx hb hr (by decide) (fun t ht hW => ⟨⟨1, (), rfl, hpost, by rw [ht]; exact hI, hN.warm hW, va_K.moved hW.alike hK⟩, hS.F ht⟩) hS.2.2 dX3_clause_176
            · skip
              have k146 := iv_eq (X := r113.toInt) (Y := (0)) rfl (by decide) c139
              refine lv_iconst (v := 0) hx hb dX3_clause_148 (by decide) ?_
              have hI := th_I.close hI hG0 hO (ok_7 hq115 hq117 hq119 hq121 hq123 hq125 ⟨by omega, by omega⟩ ⟨by omega, by omega⟩ ⟨by omega, by omega⟩ (by omega))
              have hpost : 0 ≤ (0 : Int32).toInt ∧ (0 : Int32).toInt ≤ 1 := by first | decide | omega
              rw [hQ]
              exact W.zret (v := 0) hx hb hr (by decide) (fun t ht hW => ⟨⟨0, (), rfl, hpost, by rw [ht]; exact hI, hN.warm hW, va_K.moved hW.alike hK⟩, hS.F ht⟩) hS.2.2 dX3_clause_149
        · skip
          have k147 := iv_ne (X := w24.toInt) (Y := (259)) rfl (by decide) c39
          refine lv_iconst (v := 1) hx hb dX3_clause_58 (by decide) ?_
          refine lv_goto (tgt := 63) hx hb dX3_clause_59 (by decide) ?_
          refine lv_istore_n (lv' := [(1, .int 1), (0, .ref h0)]) hx hb dX3_clause_63 rfl hl (by decide) rfl (fun ls hl => ?_)
          refine lv_aload_n hx hb dX3_clause_64 rfl (lv_at hl 1 rfl) ?_
          refine th_get hx hb hts inT3 hown hK hO rfl 1 (by decide) (hts _ (tb_c wd_130)) rfl rfl dX3_clause_65 ?_
          refine lv_iconst (v := 2) hx hb dX3_clause_68 (by decide) ?_
          refine lv_aload_n hx hb dX3_clause_69 rfl (lv_at hl 1 rfl) ?_
          refine th_get hx hb hts inT3 hown hK hO rfl 7 (by decide) (hts _ (tb_c wd_136)) rfl rfl dX3_clause_70 ?_
          refine lv_imul hx hb dX3_clause_73 ?_
          refine lv_topi (fun v148 e149 => ?_)
          have tv148 : v148.toInt = (2) * w16.toInt := iv_mul (by decide) rfl e149 (by omega) (by omega)
          refine lv_aload_n hx hb dX3_clause_74 rfl (lv_at hl 1 rfl) ?_
          refine th_get hx hb hts inT3 hown hK hO rfl 9 (by decide) (hts _ (tb_c wd_138)) rfl rfl dX3_clause_75 ?_
          obtain ⟨_, hA150⟩ := op_0 hI hq4 (th_ne hG0 hq4 (show (7 : Nat) ≠ 0 by decide))
          refine th_iast hx hb hK hA150 0 rfl hS ⟨_, hq4⟩ (iv_in (X := v148.toInt) rfl (by omega) (by omega)) dX3_clause_78 (fun H locs hA150 oq hS => ?_)
          have hI := th_I.put hI hq4 hA150 ok_0 oq
          have hO := hO.kept (oq _ (fun z => th_ne hG0 hq4 (show (7 : Nat) ≠ 0 by decide) (List.mem_singleton.mpr z.symm)))
          refine lv_aload_n hx hb dX3_clause_79 rfl (lv_at hl 1 rfl) ?_
          refine lv_aload_n hx hb dX3_clause_80 rfl (lv_at hl 1 rfl) ?_
          refine th_get hx hb hts inT3 hown hK hO rfl 10 (by decide) (hts _ (tb_c wd_139)) rfl rfl dX3_clause_81 ?_
          refine lv_iconst (v := 1) hx hb dX3_clause_84 (by decide) ?_
          refine lv_iadd hx hb dX3_clause_85 ?_
          refine lv_topi (fun v151 e152 => ?_)
          try have tv151 : v151.toInt = w23.toInt + (1) := iv_add rfl (by decide) e152 (by omega) (by omega)
          have hI7 := th_G7 hI hG0 hO hq2 hq4 hq6 hq8 hq10 hq12 ⟨by omega, by omega⟩ ⟨by omega, by omega⟩ ⟨by omega, by omega⟩
          refine th_c7v (As := [.int v151]) (rest := []) (n := 1) (d := 0) ⟨hx, hb, hml, hown, hts⟩ (c_X3_moveTo l E D (G7 G h0 11) h0 (11) G7_a v151) wd_707 wd_709 wp_13 wd_5 wd_710 (by decide +kernel) ⟨by rw [hR]; exact Nat.le_of_ble_eq_true rfl, by rw [hR]; exact Nat.le_of_ble_eq_true rfl⟩ hI hI7 hG0 hN hK hS rfl hl.1 rfl (Nat.le_of_ble_eq_true rfl) dX3_clause_86 ⟨Nat.zero_le _, Nat.zero_le _⟩ (fun H locs hI hc hS => ?_)
          obtain ⟨a154, a156, a158, a160, a162, a164, w166, w169, w172, w173, w176, w177, hO, hq155, hq157, hq159, hq161, hq163, hq165, ⟨k167, k168⟩, ⟨k170, k171⟩, ⟨k174, k175⟩⟩ := hc
          refine lv_iload_n hx hb dX3_clause_89 rfl (lv_at hl 0 rfl) ?_
          refine lv_if_eq (tgt := 103) hx hb dX3_clause_90 (by decide) (fun c => absurd c (by decide)) (fun _ => ?_)
          refine lv_aload_n hx hb dX3_clause_93 rfl (lv_at hl 1 rfl) ?_
          refine lv_iconst (v := 0) hx hb dX3_clause_94 (by decide) ?_
          have hI7 := th_G7 hI hG0 hO hq155 hq157 hq159 hq161 hq163 hq165 ⟨by omega, by omega⟩ ⟨by omega, by omega⟩ ⟨by omega, by omega⟩
          refine th_c7i (As := [.int 0]) (rest := []) (n := 1) (d := 19) ⟨hx, hb, hml, hown, hts⟩ (c_X3_sum l E D (G7 G h0 11) 8 h0 (11) G7_a 0 (by first | decide | omega) (by first | decide | omega) (c_X3_part l E D (G7 G h0 11) 8)) wd_715 wd_717 wp_15 wd_5 wd_718 (by decide +kernel) ⟨by rw [hR]; exact Nat.le_of_ble_eq_true rfl, by rw [hR]; exact Nat.le_of_ble_eq_true rfl⟩ hI hI7 hG0 hN hK hS rfl hl.1 rfl (Nat.le_of_ble_eq_true rfl) dX3_clause_95 ⟨Nat.zero_le _, Nat.zero_le _⟩ (fun r178 H locs hp hI hc hS => ?_)
          obtain ⟨a179, a181, a183, a185, a187, a189, w191, w194, w197, w198, w201, w202, hO, hq180, hq182, hq184, hq186, hq188, hq190, ⟨k192, k193⟩, ⟨k195, k196⟩, ⟨k199, k200⟩⟩ := hc
          have hp203 := hp
          refine lv_if_ne (tgt := 103) hx hb dX3_clause_98 (by decide) (fun c204 => ?_) (fun c204 => ?_)
          · skip
            have k205 := iv_ne (X := r178.toInt) (Y := (0)) rfl (by decide) c204
            refine lv_aload_n hx hb dX3_clause_103 rfl (lv_at hl 1 rfl) ?_
            refine th_get hx hb hts inT3 hown hK hO rfl 1 (by decide) (hts _ (tb_c wd_130)) rfl rfl dX3_clause_104 ?_
            refine lv_iconst (v := 2) hx hb dX3_clause_107 (by decide) ?_
            refine lv_aload_n hx hb dX3_clause_108 rfl (lv_at hl 1 rfl) ?_
            refine th_get hx hb hts inT3 hown hK hO rfl 7 (by decide) (hts _ (tb_c wd_136)) rfl rfl dX3_clause_109 ?_
            refine lv_imul hx hb dX3_clause_112 ?_
            refine lv_topi (fun v206 e207 => ?_)
            have tv206 : v206.toInt = (2) * w194.toInt := iv_mul (by decide) rfl e207 (by omega) (by omega)
            refine lv_iconst (v := 1) hx hb dX3_clause_113 (by decide) ?_
            refine lv_iadd hx hb dX3_clause_114 ?_
            refine lv_topi (fun v208 e209 => ?_)
            have tv208 : v208.toInt = v206.toInt + (1) := iv_add rfl (by decide) e209 (by omega) (by omega)
            refine lv_aload_n hx hb dX3_clause_115 rfl (lv_at hl 1 rfl) ?_
            refine th_get hx hb hts inT3 hown hK hO rfl 9 (by decide) (hts _ (tb_c wd_138)) rfl rfl dX3_clause_116 ?_
            obtain ⟨_, hA210⟩ := op_0 hI hq182 (th_ne hG0 hq182 (show (7 : Nat) ≠ 0 by decide))
            refine th_iast hx hb hK hA210 0 rfl hS ⟨_, hq182⟩ (iv_in (X := v208.toInt) rfl (by omega) (by omega)) dX3_clause_119 (fun H locs hA210 oq hS => ?_)
            have hI := th_I.put hI hq182 hA210 ok_0 oq
            have hO := hO.kept (oq _ (fun z => th_ne hG0 hq182 (show (7 : Nat) ≠ 0 by decide) (List.mem_singleton.mpr z.symm)))
            refine lv_aload_n hx hb dX3_clause_120 rfl (lv_at hl 1 rfl) ?_
            refine th_get hx hb hts inT3 hown hK hO rfl 11 (by decide) (hts _ (tb_c wd_140)) rfl rfl dX3_clause_121 ?_
            refine lv_sipush (v := 260) hx hb dX3_clause_124 (by decide) ?_
            have k211 := iv_lo w202
            have k212 := iv_hi w202
            refine lv_icmp_ne (tgt := 150) hx hb dX3_clause_127 (by decide) (fun c213 => ?_) (fun c213 => ?_)
            · skip
              have k214 := iv_ne (X := w202.toInt) (Y := (260)) rfl (by decide) c213
              refine lv_aload_n hx hb dX3_clause_150 rfl (lv_at hl 1 rfl) ?_
              refine lv_dup hx hb dX3_clause_151 rfl ?_
              refine th_get hx hb hts inT3 hown hK hO rfl 7 (by decide) (hts _ (tb_c wd_136)) rfl rfl dX3_clause_152 ?_
              refine lv_iconst (v := 1) hx hb dX3_clause_155 (by decide) ?_
              refine lv_iadd hx hb dX3_clause_156 ?_
              refine lv_topi (fun v215 e216 => ?_)
              have tv215 : v215.toInt = w194.toInt + (1) := iv_add rfl (by decide) e216 (by omega) (by omega)
              refine th_put (ty := .int) hx hb hts inT3 tyX3 tyX3_ok nmX3 hown hK hO hS ⟨_, hG0⟩ rfl 7 (by decide) (hts _ (tb_c wd_136)) rfl rfl (by decide +kernel) rfl rfl (Nat.le_of_ble_eq_true rfl) dX3_clause_157 (fun H locs hO oq hS => ?_)
              have hI := th_I.moved hI oq
              have hO : va_at D vwCl (h0, .inr (3, [.ref a179, .ref a181, .ref a183, .ref a185, .ref a187, .ref a189, .int w191, .int v215, .int w197, .int w198, .int w201, .int w202])) H := hO
              refine lv_aload_n hx hb dX3_clause_160 rfl (lv_at hl 1 rfl) ?_
              refine th_get hx hb hts inT3 hown hK hO rfl 1 (by decide) (hts _ (tb_c wd_130)) rfl rfl dX3_clause_161 ?_
              refine lv_iconst (v := 2) hx hb dX3_clause_164 (by decide) ?_
              refine lv_aload_n hx hb dX3_clause_165 rfl (lv_at hl 1 rfl) ?_
              refine th_get hx hb hts inT3 hown hK hO rfl 7 (by decide) (hts _ (tb_c wd_136)) rfl rfl dX3_clause_166 ?_
              refine lv_imul hx hb dX3_clause_169 ?_
              refine lv_topi (fun v217 e218 => ?_)
              have tv217 : v217.toInt = (2) * v215.toInt := iv_mul (by decide) rfl e218 (by omega) (by omega)
              refine lv_aload_n hx hb dX3_clause_170 rfl (lv_at hl 1 rfl) ?_
              refine th_get hx hb hts inT3 hown hK hO rfl 9 (by decide) (hts _ (tb_c wd_138)) rfl rfl dX3_clause_171 ?_
              obtain ⟨_, hA219⟩ := op_0 hI hq182 (th_ne hG0 hq182 (show (7 : Nat) ≠ 0 by decide))
              refine th_iast hx hb hK hA219 0 rfl hS ⟨_, hq182⟩ (iv_in (X := v217.toInt) rfl (by omega) (by omega)) dX3_clause_174 (fun H locs hA219 oq hS => ?_)
              have hI := th_I.put hI hq182 hA219 ok_0 oq
              have hO := hO.kept (oq _ (fun z => th_ne hG0 hq182 (show (7 : Nat) ≠ 0 by decide) (List.mem_singleton.mpr z.symm)))
              refine lv_iconst (v := 1) hx hb dX3_clause_175 (by decide) ?_
              have hI := th_I.close hI hG0 hO (ok_7 hq180 hq182 hq184 hq186 hq188 hq190 ⟨by omega, by omega⟩ ⟨by omega, by omega⟩ ⟨by omega, by omega⟩ (by omega))
              have hpost : 0 ≤ (1 : Int32).toInt ∧ (1 : Int32).toInt ≤ 1 := by first | decide | omega
              rw [hQ]
              exact W.zret (v := 1) hx hb hr (by decide) (fun t ht hW => ⟨⟨1, (), rfl, hpost, by rw [ht]; exact hI, hN.warm hW, va_K.moved hW.alike hK⟩, hS.F ht⟩) hS.2.2 dX3_clause_176
            · skip
              have k220 := iv_eq (X := w202.toInt) (Y := (260)) rfl (by decide) c213
              refine lv_aload_n hx hb dX3_clause_130 rfl (lv_at hl 1 rfl) ?_
              refine lv_aload_n hx hb dX3_clause_131 rfl (lv_at hl 1 rfl) ?_
              refine th_get hx hb hts inT3 hown hK hO rfl 10 (by decide) (hts _ (tb_c wd_139)) rfl rfl dX3_clause_132 ?_
              refine lv_iconst (v := 1) hx hb dX3_clause_135 (by decide) ?_
              refine lv_iadd hx hb dX3_clause_136 ?_
              refine lv_topi (fun v221 e222 => ?_)
              try have tv221 : v221.toInt = w201.toInt + (1) := iv_add rfl (by decide) e222 (by omega) (by omega)
              have hI7 := th_G7 hI hG0 hO hq180 hq182 hq184 hq186 hq188 hq190 ⟨by omega, by omega⟩ ⟨by omega, by omega⟩ ⟨by omega, by omega⟩
              refine th_c7v (As := [.int v221]) (rest := []) (n := 1) (d := 0) ⟨hx, hb, hml, hown, hts⟩ (c_X3_moveTo l E D (G7 G h0 11) h0 (11) G7_a v221) wd_707 wd_709 wp_13 wd_5 wd_710 (by decide +kernel) ⟨by rw [hR]; exact Nat.le_of_ble_eq_true rfl, by rw [hR]; exact Nat.le_of_ble_eq_true rfl⟩ hI hI7 hG0 hN hK hS rfl hl.1 rfl (Nat.le_of_ble_eq_true rfl) dX3_clause_137 ⟨Nat.zero_le _, Nat.zero_le _⟩ (fun H locs hI hc hS => ?_)
              obtain ⟨a224, a226, a228, a230, a232, a234, w236, w239, w242, w243, w246, w247, hO, hq225, hq227, hq229, hq231, hq233, hq235, ⟨k237, k238⟩, ⟨k240, k241⟩, ⟨k244, k245⟩⟩ := hc
              refine lv_aload_n hx hb dX3_clause_140 rfl (lv_at hl 1 rfl) ?_
              refine lv_iconst (v := 0) hx hb dX3_clause_141 (by decide) ?_
              have hI7 := th_G7 hI hG0 hO hq225 hq227 hq229 hq231 hq233 hq235 ⟨by omega, by omega⟩ ⟨by omega, by omega⟩ ⟨by omega, by omega⟩
              refine th_c7i (As := [.int 0]) (rest := []) (n := 1) (d := 46) ⟨hx, hb, hml, hown, hts⟩ (c_X3_test l E D (G7 G h0 11) 8 h0 (11) G7_a 0 (by first | decide | omega) (by first | decide | omega) (fun h9 n9 g9 x9 a9 b9 => c_X3_plain l E D (G7 G h0 11) 8 h9 n9 g9 x9 a9 b9 (c_X3_enclosed l E D (G7 G h0 11) 8))) wd_731 wd_733 wp_19 wd_5 wd_734 (by decide +kernel) ⟨by rw [hR]; exact Nat.le_of_ble_eq_true rfl, by rw [hR]; exact Nat.le_of_ble_eq_true rfl⟩ hI hI7 hG0 hN hK hS rfl hl.1 rfl (Nat.le_of_ble_eq_true rfl) dX3_clause_142 ⟨Nat.zero_le _, Nat.zero_le _⟩ (fun r248 H locs hp hI hc hS => ?_)
              obtain ⟨a249, a251, a253, a255, a257, a259, w261, w264, w267, w268, w271, w272, hO, hq250, hq252, hq254, hq256, hq258, hq260, ⟨k262, k263⟩, ⟨k265, k266⟩, ⟨k269, k270⟩⟩ := hc
              have hp273 := hp
              refine lv_if_ne (tgt := 150) hx hb dX3_clause_145 (by decide) (fun c274 => ?_) (fun c274 => ?_)
              · skip
                have k275 := iv_ne (X := r248.toInt) (Y := (0)) rfl (by decide) c274
                refine lv_aload_n hx hb dX3_clause_150 rfl (lv_at hl 1 rfl) ?_
                refine lv_dup hx hb dX3_clause_151 rfl ?_
                refine th_get hx hb hts inT3 hown hK hO rfl 7 (by decide) (hts _ (tb_c wd_136)) rfl rfl dX3_clause_152 ?_
                refine lv_iconst (v := 1) hx hb dX3_clause_155 (by decide) ?_
                refine lv_iadd hx hb dX3_clause_156 ?_
                refine lv_topi (fun v276 e277 => ?_)
                have tv276 : v276.toInt = w264.toInt + (1) := iv_add rfl (by decide) e277 (by omega) (by omega)
                refine th_put (ty := .int) hx hb hts inT3 tyX3 tyX3_ok nmX3 hown hK hO hS ⟨_, hG0⟩ rfl 7 (by decide) (hts _ (tb_c wd_136)) rfl rfl (by decide +kernel) rfl rfl (Nat.le_of_ble_eq_true rfl) dX3_clause_157 (fun H locs hO oq hS => ?_)
                have hI := th_I.moved hI oq
                have hO : va_at D vwCl (h0, .inr (3, [.ref a249, .ref a251, .ref a253, .ref a255, .ref a257, .ref a259, .int w261, .int v276, .int w267, .int w268, .int w271, .int w272])) H := hO
                refine lv_aload_n hx hb dX3_clause_160 rfl (lv_at hl 1 rfl) ?_
                refine th_get hx hb hts inT3 hown hK hO rfl 1 (by decide) (hts _ (tb_c wd_130)) rfl rfl dX3_clause_161 ?_
                refine lv_iconst (v := 2) hx hb dX3_clause_164 (by decide) ?_
                refine lv_aload_n hx hb dX3_clause_165 rfl (lv_at hl 1 rfl) ?_
                refine th_get hx hb hts inT3 hown hK hO rfl 7 (by decide) (hts _ (tb_c wd_136)) rfl rfl dX3_clause_166 ?_
                refine lv_imul hx hb dX3_clause_169 ?_
                refine lv_topi (fun v278 e279 => ?_)
                have tv278 : v278.toInt = (2) * v276.toInt := iv_mul (by decide) rfl e279 (by omega) (by omega)
                refine lv_aload_n hx hb dX3_clause_170 rfl (lv_at hl 1 rfl) ?_
                refine th_get hx hb hts inT3 hown hK hO rfl 9 (by decide) (hts _ (tb_c wd_138)) rfl rfl dX3_clause_171 ?_
                obtain ⟨_, hA280⟩ := op_0 hI hq252 (th_ne hG0 hq252 (show (7 : Nat) ≠ 0 by decide))
                refine th_iast hx hb hK hA280 0 rfl hS ⟨_, hq252⟩ (iv_in (X := v278.toInt) rfl (by omega) (by omega)) dX3_clause_174 (fun H locs hA280 oq hS => ?_)
                have hI := th_I.put hI hq252 hA280 ok_0 oq
                have hO := hO.kept (oq _ (fun z => th_ne hG0 hq252 (show (7 : Nat) ≠ 0 by decide) (List.mem_singleton.mpr z.symm)))
                refine lv_iconst (v := 1) hx hb dX3_clause_175 (by decide) ?_
                have hI := th_I.close hI hG0 hO (ok_7 hq250 hq252 hq254 hq256 hq258 hq260 ⟨by omega, by omega⟩ ⟨by omega, by omega⟩ ⟨by omega, by omega⟩ (by omega))
                have hpost : 0 ≤ (1 : Int32).toInt ∧ (1 : Int32).toInt ≤ 1 := by first | decide | omega
                rw [hQ]
                exact W.zret (v := 1) hx hb hr (by decide) (fun t ht hW => ⟨⟨1, (), rfl, hpost, by rw [ht]; exact hI, hN.warm hW, va_K.moved hW.alike hK⟩, hS.F ht⟩) hS.2.2 dX3_clause_176
              · skip
                have k281 := iv_eq (X := r248.toInt) (Y := (0)) rfl (by decide) c274
                refine lv_iconst (v := 0) hx hb dX3_clause_148 (by decide) ?_
                have hI := th_I.close hI hG0 hO (ok_7 hq250 hq252 hq254 hq256 hq258 hq260 ⟨by omega, by omega⟩ ⟨by omega, by omega⟩ ⟨by omega, by omega⟩ (by omega))
                have hpost : 0 ≤ (0 : Int32).toInt ∧ (0 : Int32).toInt ≤ 1 := by first | decide | omega
                rw [hQ]
                exact W.zret (v := 0) hx hb hr (by decide) (fun t ht hW => ⟨⟨0, (), rfl, hpost, by rw [ht]; exact hI, hN.warm hW, va_K.moved hW.alike hK⟩, hS.F ht⟩) hS.2.2 dX3_clause_149
          · skip
            have k282 := iv_eq (X := r178.toInt) (Y := (0)) rfl (by decide) c204
            refine lv_iconst (v := 0) hx hb dX3_clause_101 (by decide) ?_
            have hI := th_I.close hI hG0 hO (ok_7 hq180 hq182 hq184 hq186 hq188 hq190 ⟨by omega, by omega⟩ ⟨by omega, by omega⟩ ⟨by omega, by omega⟩ (by omega))
            have hpost : 0 ≤ (0 : Int32).toInt ∧ (0 : Int32).toInt ≤ 1 := by first | decide | omega
            rw [hQ]
            exact W.zret (v := 0) hx hb hr (by decide) (fun t ht hW => ⟨⟨0, (), rfl, hpost, by rw [ht]; exact hI, hN.warm hW, va_K.moved hW.alike hK⟩, hS.F ht⟩) hS.2.2 dX3_clause_102
      · skip
        have k283 := iv_nle (X := w24.toInt) (Y := (259)) rfl (by decide) c34
        refine lv_iconst (v := 0) hx hb dX3_clause_29 (by decide) ?_
        have hI := th_I.close hI hG0 hO (ok_7 hq2 hq4 hq6 hq8 hq10 hq12 ⟨by omega, by omega⟩ ⟨by omega, by omega⟩ ⟨by omega, by omega⟩ (by omega))
        have hpost : 0 ≤ (0 : Int32).toInt ∧ (0 : Int32).toInt ≤ 1 := by first | decide | omega
        rw [hQ]
        exact W.zret (v := 0) hx hb hr (by decide) (fun t ht hW => ⟨⟨0, (), rfl, hpost, by rw [ht]; exact hI, hN.warm hW, va_K.moved hW.alike hK⟩, hS.F ht⟩) hS.2.2 dX3_clause_30
theorem dX11_back_0g : (decode cX11_back 0 = .ok (.iload_n 1, 1)) ∧ (decode cX11_back 1 = .ok (.ifCond .lt 8, 3)) ∧ (decode cX11_back 4 = .ok (.iload_n 1, 1)) ∧ (decode cX11_back 5 = .ok (.iconst 2, 1)) ∧ (decode cX11_back 6 = .ok (.if_icmp .lt 9, 3)) ∧ (decode cX11_back 9 = .ok (.aload_n 0, 1)) ∧ (decode cX11_back 10 = .ok (.iconst (-1), 1)) ∧ (decode cX11_back 11 = .ok (.invokevirtual 113, 3)) ∧ (decode cX11_back 14 = .ok (.ireturn, 1)) ∧ (decode cX11_back 15 = .ok (.aload_n 0, 1)) := by decide +kernel
theorem dX11_back_0 : decode cX11_back 0 = .ok (.iload_n 1, 1) := dX11_back_0g.1
theorem dX11_back_1 : decode cX11_back 1 = .ok (.ifCond .lt 8, 3) := dX11_back_0g.2.1
theorem dX11_back_4 : decode cX11_back 4 = .ok (.iload_n 1, 1) := dX11_back_0g.2.2.1
theorem dX11_back_5 : decode cX11_back 5 = .ok (.iconst 2, 1) := dX11_back_0g.2.2.2.1
theorem dX11_back_6 : decode cX11_back 6 = .ok (.if_icmp .lt 9, 3) := dX11_back_0g.2.2.2.2.1
theorem dX11_back_9 : decode cX11_back 9 = .ok (.aload_n 0, 1) := dX11_back_0g.2.2.2.2.2.1
theorem dX11_back_10 : decode cX11_back 10 = .ok (.iconst (-1), 1) := dX11_back_0g.2.2.2.2.2.2.1
theorem dX11_back_11 : decode cX11_back 11 = .ok (.invokevirtual 113, 3) := dX11_back_0g.2.2.2.2.2.2.2.1
theorem dX11_back_14 : decode cX11_back 14 = .ok (.ireturn, 1) := dX11_back_0g.2.2.2.2.2.2.2.2.1
theorem dX11_back_15 : decode cX11_back 15 = .ok (.aload_n 0, 1) := dX11_back_0g.2.2.2.2.2.2.2.2.2
theorem dX11_back_16g : (decode cX11_back 16 = .ok (.getfield 16, 3)) ∧ (decode cX11_back 19 = .ok (.iload_n 1, 1)) ∧ (decode cX11_back 20 = .ok (.aaload, 1)) ∧ (decode cX11_back 21 = .ok (.astore_n 2, 1)) ∧ (decode cX11_back 22 = .ok (.aload_n 2, 1)) ∧ (decode cX11_back 23 = .ok (.ifnonnull 10, 3)) ∧ (decode cX11_back 26 = .ok (.aload_n 0, 1)) ∧ (decode cX11_back 27 = .ok (.bipush (-2), 2)) ∧ (decode cX11_back 29 = .ok (.invokevirtual 113, 3)) ∧ (decode cX11_back 32 = .ok (.ireturn, 1)) := by decide +kernel
theorem dX11_back_16 : decode cX11_back 16 = .ok (.getfield 16, 3) := dX11_back_16g.1
theorem dX11_back_19 : decode cX11_back 19 = .ok (.iload_n 1, 1) := dX11_back_16g.2.1
theorem dX11_back_20 : decode cX11_back 20 = .ok (.aaload, 1) := dX11_back_16g.2.2.1
theorem dX11_back_21 : decode cX11_back 21 = .ok (.astore_n 2, 1) := dX11_back_16g.2.2.2.1
theorem dX11_back_22 : decode cX11_back 22 = .ok (.aload_n 2, 1) := dX11_back_16g.2.2.2.2.1
theorem dX11_back_23 : decode cX11_back 23 = .ok (.ifnonnull 10, 3) := dX11_back_16g.2.2.2.2.2.1
theorem dX11_back_26 : decode cX11_back 26 = .ok (.aload_n 0, 1) := dX11_back_16g.2.2.2.2.2.2.1
theorem dX11_back_27 : decode cX11_back 27 = .ok (.bipush (-2), 2) := dX11_back_16g.2.2.2.2.2.2.2.1
theorem dX11_back_29 : decode cX11_back 29 = .ok (.invokevirtual 113, 3) := dX11_back_16g.2.2.2.2.2.2.2.2.1
theorem dX11_back_32 : decode cX11_back 32 = .ok (.ireturn, 1) := dX11_back_16g.2.2.2.2.2.2.2.2.2
theorem dX11_back_33g : (decode cX11_back 33 = .ok (.aload_n 0, 1)) ∧ (decode cX11_back 34 = .ok (.getfield 12, 3)) ∧ (decode cX11_back 37 = .ok (.aload_n 2, 1)) ∧ (decode cX11_back 38 = .ok (.invokevirtual 342, 3)) ∧ (decode cX11_back 41 = .ok (.aload_n 0, 1)) ∧ (decode cX11_back 42 = .ok (.invokevirtual 124, 3)) ∧ (decode cX11_back 45 = .ok (.aload_n 0, 1)) ∧ (decode cX11_back 46 = .ok (.iconst 0, 1)) ∧ (decode cX11_back 47 = .ok (.invokevirtual 127, 3)) ∧ (decode cX11_back 50 = .ok (.ireturn, 1)) := by decide +kernel
theorem dX11_back_33 : decode cX11_back 33 = .ok (.aload_n 0, 1) := dX11_back_33g.1
theorem dX11_back_34 : decode cX11_back 34 = .ok (.getfield 12, 3) := dX11_back_33g.2.1
theorem dX11_back_37 : decode cX11_back 37 = .ok (.aload_n 2, 1) := dX11_back_33g.2.2.1
theorem dX11_back_38 : decode cX11_back 38 = .ok (.invokevirtual 342, 3) := dX11_back_33g.2.2.2.1
theorem dX11_back_41 : decode cX11_back 41 = .ok (.aload_n 0, 1) := dX11_back_33g.2.2.2.2.1
theorem dX11_back_42 : decode cX11_back 42 = .ok (.invokevirtual 124, 3) := dX11_back_33g.2.2.2.2.2.1
theorem dX11_back_45 : decode cX11_back 45 = .ok (.aload_n 0, 1) := dX11_back_33g.2.2.2.2.2.2.1
theorem dX11_back_46 : decode cX11_back 46 = .ok (.iconst 0, 1) := dX11_back_33g.2.2.2.2.2.2.2.1
theorem dX11_back_47 : decode cX11_back 47 = .ok (.invokevirtual 127, 3) := dX11_back_33g.2.2.2.2.2.2.2.2.1
theorem dX11_back_50 : decode cX11_back 50 = .ok (.ireturn, 1) := dX11_back_33g.2.2.2.2.2.2.2.2.2
set_option maxHeartbeats 4000000 in
set_option maxRecDepth 100000 in
theorem c_X11_back (l : Launch) (E : Nat → Nat) (D : va_G) (G : th_G) (h0 n : Nat) (hG0 : G h0 = some (15, n)) (x1 : Int32) (sa t : Nat) (e1 : E (32 + 8 * h0) = sa + 1) (e2 : E (32 + 8 * sa) = t + 1) (u0 u1 : Nat) (f0 : ∀ z : Nat, E (32 + 8 * n) = z + 1 → E (32 + 8 * z) = u0 + 1) (f1 : ∀ z : Nat, E (33 + 8 * n) = z + 1 → E (32 + 8 * z) = u1 + 1) : Met l yX11_back (tb (.code yX11_back cX11_back 3 (some .int))) (rm 3) (va_Pc [.ref h0, .int x1] (th_P E D G)) (QI (eu E (32 + 8 * t) (gB E n t u0 u1 x1)) D G (fun r => True)) 0 0 (th_A G) := by
  refine Met.ofW (cc := cX11_back) (maxL := 3) (ret := (some .int)) (by decide) rfl ?_
  intro p e s m args below meth c s₁ B hml hv
  obtain ⟨hav, hI, hN, hK⟩ := hv
  have hx := B.exec
  have hb := B.bytes
  have hr := B.returns
  have hts := atoms_spec (ws := tb (.code yX11_back cX11_back 3 (some .int))) B.pre
  have hown : s.vm.findClass RX11 = some m.cls := findClass_of_methodNamed B.named
  have hlocks := B.notSynchronized
  have hS : va_S (th_A G) s.heap s.heap [] := va_S.rf
  have hl := lv_entry ([.ref h0, .int x1]) (n := 3) (Nat.le_of_ble_eq_true rfl)
  rw [show entryFrame m args 3 = entryFrame m ([.ref h0, .int x1] : List Value).toArray 3 from by rw [hav], lg_entry_eq]
  generalize (lg_sl ([.ref h0, .int x1]) ++ List.replicate (3 - (lg_sl ([.ref h0, .int x1])).length) Slot.unset).toArray = ls at hl ⊢
  have hl : lv_has ls 3 [(0, .ref h0), (1, .int x1)] := hl
  generalize hR : (headSpec (tb (.code yX11_back cX11_back 3 (some .int))) (rm 3)).room = R
  have hR := hR.symm
  generalize hQ : MQ below (QI (eu E (32 + 8 * t) (gB E n t u0 u1 x1)) D G (fun r => True)) args s 0 0 (th_A G) = QF
  have hQ := hQ.symm
  refine lv_iload_n hx hb dX11_back_0 rfl (lv_at hl 1 rfl) ?_
  have k1 := iv_lo x1
  have k2 := iv_hi x1
  refine lv_if_lt (tgt := 9) hx hb dX11_back_1 (by decide) (fun c3 => ?_) (fun c3 => ?_)
  · skip
    have k4 := iv_lt (X := x1.toInt) (Y := (0)) rfl (by decide) c3
    refine lv_aload_n hx hb dX11_back_9 rfl (lv_at hl 0 rfl) ?_
    refine lv_iconst (v := (-1)) hx hb dX11_back_10 (by decide) ?_
    refine th_cVi (As := [.int (-1)]) (rest := []) (n := 1) (d := 0) ⟨hx, hb, hml, hown, hts⟩ (c_X11_refuse l E D G h0 (n) hG0 (-1)) wd_407 wd_409 wp_0 wd_1 wd_410 (by decide +kernel) ⟨by rw [hR]; exact Nat.le_of_ble_eq_true rfl, by rw [hR]; exact Nat.le_of_ble_eq_true rfl⟩ hI hN hK hS (rc_15 hI hG0 List.not_mem_nil) rfl rfl hl.1 rfl (Nat.le_of_ble_eq_true rfl) dX11_back_11 ⟨Nat.zero_le _, Nat.zero_le _⟩ (fun r5 H locs hp hI hS => ?_)
    have hp := hp.symm
    subst hp
    have hEt : eu E (32 + 8 * t) (gB E n t u0 u1 x1) = E := eu_id (by unfold gB; rw [if_neg (by omega), if_neg (by omega)])
    have hI : th_I (okC (eu E (32 + 8 * t) (gB E n t u0 u1 x1))) D G [] H := by rw [hEt]; exact hI
    have hK : va_K D vwCl (th_tys (eu E (32 + 8 * t) (gB E n t u0 u1 x1))) s := by rw [hEt]; exact hK
    have hpost : True := trivial
    rw [hQ]
    exact W.iret (v := (-1)) hx hb hr (fun t ht hW => ⟨⟨(-1), (), rfl, hpost, by rw [ht]; exact hI, hN.warm hW, va_K.moved hW.alike hK⟩, hS.F ht⟩) hS.2.2 dX11_back_14
  · skip
    have k6 := iv_nlt (X := x1.toInt) (Y := (0)) rfl (by decide) c3
    refine lv_iload_n hx hb dX11_back_4 rfl (lv_at hl 1 rfl) ?_
    refine lv_iconst (v := 2) hx hb dX11_back_5 (by decide) ?_
    refine lv_icmp_lt (tgt := 15) hx hb dX11_back_6 (by decide) (fun c7 => ?_) (fun c7 => ?_)
    · skip
      have k8 := iv_lt (X := x1.toInt) (Y := (2)) rfl (by decide) c7
      refine lv_aload_n hx hb dX11_back_15 rfl (lv_at hl 0 rfl) ?_
      obtain ⟨a9, a12, a14, a16, a18, a20, a22, a24, a26, a28, a30, w32, w35, w36, w37, w38, hO, hq10, hq11, hq13, hq15, hq17, hq19, hq21, hq23, hq25, hq27, hq29, hq31, ⟨k33, k34⟩, k39⟩ := op_15 hI hG0 List.not_mem_nil
      have hI := th_I.weak (a := h0) hI
      obtain rfl := eaU_q k39 e1
      refine th_get hx hb hts inT11 hown hK hO rfl 1 (by decide) (hts _ (tb_c wd_346)) rfl rfl dX11_back_16 ?_
      refine lv_iload_n hx hb dX11_back_19 rfl (lv_at hl 1 rfl) ?_
      obtain ⟨g44, hA43, hg45, hi0, hi1⟩ := op_3 hI hq11 (th_ne hG0 hq11 (show (15 : Nat) ≠ 3 by decide))
      refine va_aldq hx hb hK (th_one hA43) 0 5 rfl rfl (iv_in (X := x1.toInt) rfl (by omega) (by omega)) dX11_back_20 ?_
      rcases im_at (x := x1) (by omega) (by omega) with ⟨kx, zx⟩ | ⟨kx, zx⟩
      · rw [zx, hi0]
        rcases Nat.eq_zero_or_pos (E (32 + 8 * n)) with hz | hz
        · rw [im_r0 hz]
          refine lv_astore_nN (lv' := [(2, .null), (0, .ref h0), (1, .int x1)]) hx hb dX11_back_21 rfl hl (by decide) rfl (fun ls hl => ?_)
          refine lv_aload_nN hx hb dX11_back_22 rfl (lv_at hl 0 rfl) ?_
          refine lv_ifnonnullN hx hb dX11_back_23 ?_
          refine lv_aload_n hx hb dX11_back_26 rfl (lv_at hl 1 rfl) ?_
          refine lv_bipush (v := (-2)) hx hb dX11_back_27 (by decide) ?_
          have hI := th_I.close hI hG0 hO (ok_15 hq10 hq11 hq13 hq15 hq17 hq19 hq21 hq23 hq25 hq27 hq29 hq31 ⟨by omega, by omega⟩ k39)
          refine th_cVi (As := [.int (-2)]) (rest := []) (n := 1) (d := 0) ⟨hx, hb, hml, hown, hts⟩ (c_X11_refuse l E D G h0 (n) hG0 (-2)) wd_407 wd_409 wp_0 wd_1 wd_410 (by decide +kernel) ⟨by rw [hR]; exact Nat.le_of_ble_eq_true rfl, by rw [hR]; exact Nat.le_of_ble_eq_true rfl⟩ hI hN hK hS (rc_15 hI hG0 List.not_mem_nil) rfl rfl hl.1 rfl (Nat.le_of_ble_eq_true rfl) dX11_back_29 ⟨Nat.zero_le _, Nat.zero_le _⟩ (fun r46 H locs hp hI hS => ?_)
          have hp := hp.symm
          subst hp
          have hEt : eu E (32 + 8 * t) (gB E n t u0 u1 x1) = E := eu_id (by unfold gB; rw [if_neg (by omega), if_neg (by omega)])
          have hI : th_I (okC (eu E (32 + 8 * t) (gB E n t u0 u1 x1))) D G [] H := by rw [hEt]; exact hI
          have hK : va_K D vwCl (th_tys (eu E (32 + 8 * t) (gB E n t u0 u1 x1))) s := by rw [hEt]; exact hK
          have hpost : True := trivial
          rw [hQ]
          exact W.iret (v := (-2)) hx hb hr (fun t ht hW => ⟨⟨(-2), (), rfl, hpost, by rw [ht]; exact hI, hN.warm hW, va_K.moved hW.alike hK⟩, hS.F ht⟩) hS.2.2 dX11_back_32
        · obtain ⟨a47, e48⟩ : ∃ z : Nat, E (32 + 8 * n) = z + 1 := ⟨E (32 + 8 * n) - 1, by omega⟩
          have hq49 := hg45 0 _ (by decide) (hi0.trans (im_rs e48))
          rw [im_rs e48]
          refine lv_astore_n (lv' := [(2, .ref a47), (0, .ref h0), (1, .int x1)]) hx hb dX11_back_21 rfl hl (by decide) rfl (fun ls hl => ?_)
          refine lv_aload_n hx hb dX11_back_22 rfl (lv_at hl 0 rfl) ?_
          refine lv_ifnonnull (tgt := 33) hx hb dX11_back_23 (by decide) ?_
          refine lv_aload_n hx hb dX11_back_33 rfl (lv_at hl 1 rfl) ?_
          refine th_get hx hb hts inT11 hown hK hO rfl 0 (by decide) (hts _ (tb_c wd_345)) rfl rfl dX11_back_34 ?_
          refine lv_aload_n hx hb dX11_back_37 rfl (lv_at hl 0 rfl) ?_
          have hI := th_I.close hI hG0 hO (ok_15 hq10 hq11 hq13 hq15 hq17 hq19 hq21 hq23 hq25 hq27 hq29 hq31 ⟨by omega, by omega⟩ k39)
          refine th_cVvE (As := [.ref a47]) (rest := []) (n := 1) (d := 2) ⟨hx, hb, hml, hown, hts⟩ (c_X6_copyFrom l E D G sa hq10 a47 hq49 t u0 e2 (f0 _ e48)) wd_1202 wd_1203 wd_1204 wd_2 wd_1205 (by decide +kernel) ⟨by rw [hR]; exact Nat.le_of_ble_eq_true rfl, by rw [hR]; exact Nat.le_of_ble_eq_true rfl⟩ hI hN hK (by rw [tys_eu (by omega)]; exact hK) hS (rc_6 hI hq10 List.not_mem_nil) rfl rfl hl.1 rfl (Nat.le_of_ble_eq_true rfl) dX11_back_38 ⟨Nat.zero_le _, Nat.zero_le _⟩ (fun H locs Eu51 hEu51 hI hK hS => ?_)
          refine lv_aload_n hx hb dX11_back_41 rfl (lv_at hl 1 rfl) ?_
          refine th_cVv (As := []) (rest := []) (n := 0) (d := 2) ⟨hx, hb, hml, hown, hts⟩ (c_X11_turnRiver l Eu51 D G h0 (n) hG0 ) wd_423 wd_425 wp_1 wd_1 wd_426 (by decide +kernel) ⟨by rw [hR]; exact Nat.le_of_ble_eq_true rfl, by rw [hR]; exact Nat.le_of_ble_eq_true rfl⟩ hI hN hK hS (rc_15 hI hG0 List.not_mem_nil) rfl rfl hl.1 rfl (Nat.le_of_ble_eq_true rfl) dX11_back_42 ⟨Nat.zero_le _, Nat.zero_le _⟩ (fun H locs hI hS => ?_)
          refine lv_aload_n hx hb dX11_back_45 rfl (lv_at hl 1 rfl) ?_
          refine lv_iconst (v := 0) hx hb dX11_back_46 (by decide) ?_
          refine th_cVi (As := [.int 0]) (rest := []) (n := 1) (d := 0) ⟨hx, hb, hml, hown, hts⟩ (c_X11_accept l Eu51 D G h0 (n) hG0 0) wd_447 wd_449 wp_3 wd_1 wd_450 (by decide +kernel) ⟨by rw [hR]; exact Nat.le_of_ble_eq_true rfl, by rw [hR]; exact Nat.le_of_ble_eq_true rfl⟩ hI hN hK hS (rc_15 hI hG0 List.not_mem_nil) rfl rfl hl.1 rfl (Nat.le_of_ble_eq_true rfl) dX11_back_47 ⟨Nat.zero_le _, Nat.zero_le _⟩ (fun r53 H locs hp hI hS => ?_)
          have hp := hp.symm
          subst hp
          have hEt : eu E (32 + 8 * t) (gB E n t u0 u1 x1) = Eu51 := (congrArg (fun z => eu E (32 + 8 * t) z) (show gB E n t u0 u1 x1 = _ from by first | (unfold gB; rw [if_pos (by omega)]; done) | (unfold gB; rw [if_neg (by omega), if_pos (by omega)]))).trans hEu51.symm
          rw [← hEt] at hI hK
          have hpost : True := trivial
          rw [hQ]
          exact W.iret (v := 0) hx hb hr (fun t ht hW => ⟨⟨0, (), rfl, hpost, by rw [ht]; exact hI, hN.warm hW, va_K.moved hW.alike hK⟩, hS.F ht⟩) hS.2.2 dX11_back_50
      · rw [zx, hi1]
        rcases Nat.eq_zero_or_pos (E (33 + 8 * n)) with hz | hz
        · rw [im_r0 hz]
          refine lv_astore_nN (lv' := [(2, .null), (0, .ref h0), (1, .int x1)]) hx hb dX11_back_21 rfl hl (by decide) rfl (fun ls hl => ?_)
          refine lv_aload_nN hx hb dX11_back_22 rfl (lv_at hl 0 rfl) ?_
          refine lv_ifnonnullN hx hb dX11_back_23 ?_
          refine lv_aload_n hx hb dX11_back_26 rfl (lv_at hl 1 rfl) ?_
          refine lv_bipush (v := (-2)) hx hb dX11_back_27 (by decide) ?_
          have hI := th_I.close hI hG0 hO (ok_15 hq10 hq11 hq13 hq15 hq17 hq19 hq21 hq23 hq25 hq27 hq29 hq31 ⟨by omega, by omega⟩ k39)
          refine th_cVi (As := [.int (-2)]) (rest := []) (n := 1) (d := 0) ⟨hx, hb, hml, hown, hts⟩ (c_X11_refuse l E D G h0 (n) hG0 (-2)) wd_407 wd_409 wp_0 wd_1 wd_410 (by decide +kernel) ⟨by rw [hR]; exact Nat.le_of_ble_eq_true rfl, by rw [hR]; exact Nat.le_of_ble_eq_true rfl⟩ hI hN hK hS (rc_15 hI hG0 List.not_mem_nil) rfl rfl hl.1 rfl (Nat.le_of_ble_eq_true rfl) dX11_back_29 ⟨Nat.zero_le _, Nat.zero_le _⟩ (fun r54 H locs hp hI hS => ?_)
          have hp := hp.symm
          subst hp
          have hEt : eu E (32 + 8 * t) (gB E n t u0 u1 x1) = E := eu_id (by unfold gB; rw [if_neg (by omega), if_neg (by omega)])
          have hI : th_I (okC (eu E (32 + 8 * t) (gB E n t u0 u1 x1))) D G [] H := by rw [hEt]; exact hI
          have hK : va_K D vwCl (th_tys (eu E (32 + 8 * t) (gB E n t u0 u1 x1))) s := by rw [hEt]; exact hK
          have hpost : True := trivial
          rw [hQ]
          exact W.iret (v := (-2)) hx hb hr (fun t ht hW => ⟨⟨(-2), (), rfl, hpost, by rw [ht]; exact hI, hN.warm hW, va_K.moved hW.alike hK⟩, hS.F ht⟩) hS.2.2 dX11_back_32
        · obtain ⟨a55, e56⟩ : ∃ z : Nat, E (33 + 8 * n) = z + 1 := ⟨E (33 + 8 * n) - 1, by omega⟩
          have hq57 := hg45 1 _ (by decide) (hi1.trans (im_rs e56))
          rw [im_rs e56]
          refine lv_astore_n (lv' := [(2, .ref a55), (0, .ref h0), (1, .int x1)]) hx hb dX11_back_21 rfl hl (by decide) rfl (fun ls hl => ?_)
          refine lv_aload_n hx hb dX11_back_22 rfl (lv_at hl 0 rfl) ?_
          refine lv_ifnonnull (tgt := 33) hx hb dX11_back_23 (by decide) ?_
          refine lv_aload_n hx hb dX11_back_33 rfl (lv_at hl 1 rfl) ?_
          refine th_get hx hb hts inT11 hown hK hO rfl 0 (by decide) (hts _ (tb_c wd_345)) rfl rfl dX11_back_34 ?_
          refine lv_aload_n hx hb dX11_back_37 rfl (lv_at hl 0 rfl) ?_
          have hI := th_I.close hI hG0 hO (ok_15 hq10 hq11 hq13 hq15 hq17 hq19 hq21 hq23 hq25 hq27 hq29 hq31 ⟨by omega, by omega⟩ k39)
          refine th_cVvE (As := [.ref a55]) (rest := []) (n := 1) (d := 2) ⟨hx, hb, hml, hown, hts⟩ (c_X6_copyFrom l E D G sa hq10 a55 hq57 t u1 e2 (f1 _ e56)) wd_1202 wd_1203 wd_1204 wd_2 wd_1205 (by decide +kernel) ⟨by rw [hR]; exact Nat.le_of_ble_eq_true rfl, by rw [hR]; exact Nat.le_of_ble_eq_true rfl⟩ hI hN hK (by rw [tys_eu (by omega)]; exact hK) hS (rc_6 hI hq10 List.not_mem_nil) rfl rfl hl.1 rfl (Nat.le_of_ble_eq_true rfl) dX11_back_38 ⟨Nat.zero_le _, Nat.zero_le _⟩ (fun H locs Eu59 hEu59 hI hK hS => ?_)
          refine lv_aload_n hx hb dX11_back_41 rfl (lv_at hl 1 rfl) ?_
          refine th_cVv (As := []) (rest := []) (n := 0) (d := 2) ⟨hx, hb, hml, hown, hts⟩ (c_X11_turnRiver l Eu59 D G h0 (n) hG0 ) wd_423 wd_425 wp_1 wd_1 wd_426 (by decide +kernel) ⟨by rw [hR]; exact Nat.le_of_ble_eq_true rfl, by rw [hR]; exact Nat.le_of_ble_eq_true rfl⟩ hI hN hK hS (rc_15 hI hG0 List.not_mem_nil) rfl rfl hl.1 rfl (Nat.le_of_ble_eq_true rfl) dX11_back_42 ⟨Nat.zero_le _, Nat.zero_le _⟩ (fun H locs hI hS => ?_)
          refine lv_aload_n hx hb dX11_back_45 rfl (lv_at hl 1 rfl) ?_
          refine lv_iconst (v := 0) hx hb dX11_back_46 (by decide) ?_
          refine th_cVi (As := [.int 0]) (rest := []) (n := 1) (d := 0) ⟨hx, hb, hml, hown, hts⟩ (c_X11_accept l Eu59 D G h0 (n) hG0 0) wd_447 wd_449 wp_3 wd_1 wd_450 (by decide +kernel) ⟨by rw [hR]; exact Nat.le_of_ble_eq_true rfl, by rw [hR]; exact Nat.le_of_ble_eq_true rfl⟩ hI hN hK hS (rc_15 hI hG0 List.not_mem_nil) rfl rfl hl.1 rfl (Nat.le_of_ble_eq_true rfl) dX11_back_47 ⟨Nat.zero_le _, Nat.zero_le _⟩ (fun r61 H locs hp hI hS => ?_)
          have hp := hp.symm
          subst hp
          have hEt : eu E (32 + 8 * t) (gB E n t u0 u1 x1) = Eu59 := (congrArg (fun z => eu E (32 + 8 * t) z) (show gB E n t u0 u1 x1 = _ from by first | (unfold gB; rw [if_pos (by omega)]; done) | (unfold gB; rw [if_neg (by omega), if_pos (by omega)]))).trans hEu59.symm
          rw [← hEt] at hI hK
          have hpost : True := trivial
          rw [hQ]
          exact W.iret (v := 0) hx hb hr (fun t ht hW => ⟨⟨0, (), rfl, hpost, by rw [ht]; exact hI, hN.warm hW, va_K.moved hW.alike hK⟩, hS.F ht⟩) hS.2.2 dX11_back_50
    · skip
      have k62 := iv_nlt (X := x1.toInt) (Y := (2)) rfl (by decide) c7
      refine lv_aload_n hx hb dX11_back_9 rfl (lv_at hl 0 rfl) ?_
      refine lv_iconst (v := (-1)) hx hb dX11_back_10 (by decide) ?_
      refine th_cVi (As := [.int (-1)]) (rest := []) (n := 1) (d := 0) ⟨hx, hb, hml, hown, hts⟩ (c_X11_refuse l E D G h0 (n) hG0 (-1)) wd_407 wd_409 wp_0 wd_1 wd_410 (by decide +kernel) ⟨by rw [hR]; exact Nat.le_of_ble_eq_true rfl, by rw [hR]; exact Nat.le_of_ble_eq_true rfl⟩ hI hN hK hS (rc_15 hI hG0 List.not_mem_nil) rfl rfl hl.1 rfl (Nat.le_of_ble_eq_true rfl) dX11_back_11 ⟨Nat.zero_le _, Nat.zero_le _⟩ (fun r63 H locs hp hI hS => ?_)
      have hp := hp.symm
      subst hp
      have hEt : eu E (32 + 8 * t) (gB E n t u0 u1 x1) = E := eu_id (by unfold gB; rw [if_neg (by omega), if_neg (by omega)])
      have hI : th_I (okC (eu E (32 + 8 * t) (gB E n t u0 u1 x1))) D G [] H := by rw [hEt]; exact hI
      have hK : va_K D vwCl (th_tys (eu E (32 + 8 * t) (gB E n t u0 u1 x1))) s := by rw [hEt]; exact hK
      have hpost : True := trivial
      rw [hQ]
      exact W.iret (v := (-1)) hx hb hr (fun t ht hW => ⟨⟨(-1), (), rfl, hpost, by rw [ht]; exact hI, hN.warm hW, va_K.moved hW.alike hK⟩, hS.F ht⟩) hS.2.2 dX11_back_14
