theorem wp_11 : Cond.selects RX3 yX3_readToken yX3_readToken ∈ TB := tv 11 (by decide +kernel) (by decide +kernel)
theorem wp_14 : Cond.selects RX3 yX3_clause yX3_clause ∈ TB := tv 14 (by decide +kernel) (by decide +kernel)
theorem wd_20 : (Cond.initialized RX2) ∈ TB := tw 20 (by decide +kernel) (by decide +kernel)
theorem wd_643 : (Cond.methodLink RX11 (197 : Nat) yX3_read) ∈ TB := tw 643 (by decide +kernel) (by decide +kernel)
theorem wd_644 : (Jvm.Cond.instanceMethod yX3_read) ∈ TB := tw 644 (by decide +kernel) (by decide +kernel)
theorem wd_645 : (Cond.selects RX3 yX3_read yX3_read) ∈ TB := tw 645 (by decide +kernel) (by decide +kernel)
theorem wd_646 : (Cond.code yX3_read cX3_read 7 (Option.some (Jvm.ClassFile.FieldType.object "NineRiver$Law"))) ∈ TB := tw 646 (by decide +kernel) (by decide +kernel)
theorem wd_648 : (Cond.methodLink RX3 (55 : Nat) Lib.Math.max.name) ∈ TB := tw 648 (by decide +kernel) (by decide +kernel)
theorem wd_649 : (Cond.methodLink RX3 (58 : Nat) yX3_readToken) ∈ TB := tw 649 (by decide +kernel) (by decide +kernel)
theorem wd_651 : (Jvm.Cond.instanceMethod yX3_readToken) ∈ TB := tw 651 (by decide +kernel) (by decide +kernel)
theorem wd_652 : (Cond.code yX3_readToken cX3_readToken 6 (Option.some Jvm.ClassFile.FieldType.int)) ∈ TB := tw 652 (by decide +kernel) (by decide +kernel)
theorem wd_711 : (Cond.methodLink RX3 (70 : Nat) yX3_clause) ∈ TB := tw 711 (by decide +kernel) (by decide +kernel)
theorem wd_713 : (Jvm.Cond.instanceMethod yX3_clause) ∈ TB := tw 713 (by decide +kernel) (by decide +kernel)
theorem wd_714 : (Cond.code yX3_clause cX3_clause 2 (Option.some Jvm.ClassFile.FieldType.boolean)) ∈ TB := tw 714 (by decide +kernel) (by decide +kernel)
theorem wd_747 : (Cond.classLink RX3 (74 : Nat) "NineRiver$Law") ∈ TB := tw 747 (by decide +kernel) (by decide +kernel)
theorem wd_748 : (Cond.instantiable RX2 (4 : Nat)) ∈ TB := tw 748 (by decide +kernel) (by decide +kernel)
theorem wd_749 : (Cond.methodLink RX3 (76 : Nat) yX2_init) ∈ TB := tw 749 (by decide +kernel) (by decide +kernel)
theorem wd_750 : (Jvm.Cond.instanceMethod yX2_init) ∈ TB := tw 750 (by decide +kernel) (by decide +kernel)
theorem wd_751 : (Cond.code yX2_init cX2_init 6 (Option.none : Option Jvm.ClassFile.FieldType)) ∈ TB := tw 751 (by decide +kernel) (by decide +kernel)
theorem wd_785 : (Cond.methodLink RX11 (201 : Nat) yX3_stoppedAt) ∈ TB := tw 785 (by decide +kernel) (by decide +kernel)
theorem wd_786 : (Jvm.Cond.instanceMethod yX3_stoppedAt) ∈ TB := tw 786 (by decide +kernel) (by decide +kernel)
theorem wd_787 : (Cond.selects RX3 yX3_stoppedAt yX3_stoppedAt) ∈ TB := tw 787 (by decide +kernel) (by decide +kernel)
theorem wd_788 : (Cond.code yX3_stoppedAt cX3_stoppedAt 1 (Option.some Jvm.ClassFile.FieldType.int)) ∈ TB := tw 788 (by decide +kernel) (by decide +kernel)
theorem wd_789 : (Cond.methodLink RX11 (204 : Nat) yX6_keepLaw) ∈ TB := tw 789 (by decide +kernel) (by decide +kernel)
theorem wd_790 : (Jvm.Cond.instanceMethod yX6_keepLaw) ∈ TB := tw 790 (by decide +kernel) (by decide +kernel)
theorem wd_791 : (Cond.selects RX6 yX6_keepLaw yX6_keepLaw) ∈ TB := tw 791 (by decide +kernel) (by decide +kernel)
theorem wd_792 : (Cond.code yX6_keepLaw cX6_keepLaw 2 (Option.some Jvm.ClassFile.FieldType.int)) ∈ TB := tw 792 (by decide +kernel) (by decide +kernel)
theorem dX3_read_0g : (decode cX3_read 0 = .ok (.iconst 0, 1)) ∧ (decode cX3_read 1 = .ok (.iload_n 2, 1)) ∧ (decode cX3_read 2 = .ok (.aload_n 1, 1)) ∧ (decode cX3_read 3 = .ok (.arraylength, 1)) ∧ (decode cX3_read 4 = .ok (.sipush 400, 3)) ∧ (decode cX3_read 7 = .ok (.invokestatic 49, 3)) ∧ (decode cX3_read 10 = .ok (.invokestatic 49, 3)) ∧ (decode cX3_read 13 = .ok (.invokestatic 55, 3)) ∧ (decode cX3_read 16 = .ok (.istore_n 3, 1)) ∧ (decode cX3_read 17 = .ok (.aload_n 0, 1)) := by decide +kernel
theorem dX3_read_0 : decode cX3_read 0 = .ok (.iconst 0, 1) := dX3_read_0g.1
theorem dX3_read_1 : decode cX3_read 1 = .ok (.iload_n 2, 1) := dX3_read_0g.2.1
theorem dX3_read_2 : decode cX3_read 2 = .ok (.aload_n 1, 1) := dX3_read_0g.2.2.1
theorem dX3_read_3 : decode cX3_read 3 = .ok (.arraylength, 1) := dX3_read_0g.2.2.2.1
theorem dX3_read_4 : decode cX3_read 4 = .ok (.sipush 400, 3) := dX3_read_0g.2.2.2.2.1
theorem dX3_read_7 : decode cX3_read 7 = .ok (.invokestatic 49, 3) := dX3_read_0g.2.2.2.2.2.1
theorem dX3_read_10 : decode cX3_read 10 = .ok (.invokestatic 49, 3) := dX3_read_0g.2.2.2.2.2.2.1
theorem dX3_read_13 : decode cX3_read 13 = .ok (.invokestatic 55, 3) := dX3_read_0g.2.2.2.2.2.2.2.1
theorem dX3_read_16 : decode cX3_read 16 = .ok (.istore_n 3, 1) := dX3_read_0g.2.2.2.2.2.2.2.2.1
theorem dX3_read_17 : decode cX3_read 17 = .ok (.aload_n 0, 1) := dX3_read_0g.2.2.2.2.2.2.2.2.2
theorem dX3_read_18g : (decode cX3_read 18 = .ok (.iconst 0, 1)) ∧ (decode cX3_read 19 = .ok (.putfield 30, 3)) ∧ (decode cX3_read 22 = .ok (.iconst 0, 1)) ∧ (decode cX3_read 23 = .ok (.istore 4, 2)) ∧ (decode cX3_read 25 = .ok (.iload 4, 2)) ∧ (decode cX3_read 27 = .ok (.iload_n 3, 1)) ∧ (decode cX3_read 28 = .ok (.if_icmp .ge 39, 3)) ∧ (decode cX3_read 31 = .ok (.aload_n 1, 1)) ∧ (decode cX3_read 32 = .ok (.iload 4, 2)) ∧ (decode cX3_read 34 = .ok (.iaload, 1)) := by decide +kernel
theorem dX3_read_18 : decode cX3_read 18 = .ok (.iconst 0, 1) := dX3_read_18g.1
theorem dX3_read_19 : decode cX3_read 19 = .ok (.putfield 30, 3) := dX3_read_18g.2.1
theorem dX3_read_22 : decode cX3_read 22 = .ok (.iconst 0, 1) := dX3_read_18g.2.2.1
theorem dX3_read_23 : decode cX3_read 23 = .ok (.istore 4, 2) := dX3_read_18g.2.2.2.1
theorem dX3_read_25 : decode cX3_read 25 = .ok (.iload 4, 2) := dX3_read_18g.2.2.2.2.1
theorem dX3_read_27 : decode cX3_read 27 = .ok (.iload_n 3, 1) := dX3_read_18g.2.2.2.2.2.1
theorem dX3_read_28 : decode cX3_read 28 = .ok (.if_icmp .ge 39, 3) := dX3_read_18g.2.2.2.2.2.2.1
theorem dX3_read_31 : decode cX3_read 31 = .ok (.aload_n 1, 1) := dX3_read_18g.2.2.2.2.2.2.2.1
theorem dX3_read_32 : decode cX3_read 32 = .ok (.iload 4, 2) := dX3_read_18g.2.2.2.2.2.2.2.2.1
theorem dX3_read_34 : decode cX3_read 34 = .ok (.iaload, 1) := dX3_read_18g.2.2.2.2.2.2.2.2.2
theorem dX3_read_35g : (decode cX3_read 35 = .ok (.bipush 32, 2)) ∧ (decode cX3_read 37 = .ok (.if_icmp .ne 10, 3)) ∧ (decode cX3_read 40 = .ok (.iload 4, 2)) ∧ (decode cX3_read 42 = .ok (.iconst 1, 1)) ∧ (decode cX3_read 43 = .ok (.iadd, 1)) ∧ (decode cX3_read 44 = .ok (.goto 18, 3)) ∧ (decode cX3_read 47 = .ok (.iload 4, 2)) ∧ (decode cX3_read 49 = .ok (.iconst 1, 1)) ∧ (decode cX3_read 50 = .ok (.iadd, 1)) ∧ (decode cX3_read 51 = .ok (.aload_n 0, 1)) := by decide +kernel
theorem dX3_read_35 : decode cX3_read 35 = .ok (.bipush 32, 2) := dX3_read_35g.1
theorem dX3_read_37 : decode cX3_read 37 = .ok (.if_icmp .ne 10, 3) := dX3_read_35g.2.1
theorem dX3_read_40 : decode cX3_read 40 = .ok (.iload 4, 2) := dX3_read_35g.2.2.1
theorem dX3_read_42 : decode cX3_read 42 = .ok (.iconst 1, 1) := dX3_read_35g.2.2.2.1
theorem dX3_read_43 : decode cX3_read 43 = .ok (.iadd, 1) := dX3_read_35g.2.2.2.2.1
theorem dX3_read_44 : decode cX3_read 44 = .ok (.goto 18, 3) := dX3_read_35g.2.2.2.2.2.1
theorem dX3_read_47 : decode cX3_read 47 = .ok (.iload 4, 2) := dX3_read_35g.2.2.2.2.2.2.1
theorem dX3_read_49 : decode cX3_read 49 = .ok (.iconst 1, 1) := dX3_read_35g.2.2.2.2.2.2.2.1
theorem dX3_read_50 : decode cX3_read 50 = .ok (.iadd, 1) := dX3_read_35g.2.2.2.2.2.2.2.2.1
theorem dX3_read_51 : decode cX3_read 51 = .ok (.aload_n 0, 1) := dX3_read_35g.2.2.2.2.2.2.2.2.2
theorem dX3_read_52g : (decode cX3_read 52 = .ok (.aload_n 1, 1)) ∧ (decode cX3_read 53 = .ok (.iload 4, 2)) ∧ (decode cX3_read 55 = .ok (.iload_n 3, 1)) ∧ (decode cX3_read 56 = .ok (.invokevirtual 58, 3)) ∧ (decode cX3_read 59 = .ok (.invokestatic 55, 3)) ∧ (decode cX3_read 62 = .ok (.istore 4, 2)) ∧ (decode cX3_read 64 = .ok (.goto (-39), 3)) ∧ (decode cX3_read 67 = .ok (.aload_n 0, 1)) ∧ (decode cX3_read 68 = .ok (.iconst (-1), 1)) ∧ (decode cX3_read 69 = .ok (.iload_n 3, 1)) := by decide +kernel
theorem dX3_read_52 : decode cX3_read 52 = .ok (.aload_n 1, 1) := dX3_read_52g.1
theorem dX3_read_53 : decode cX3_read 53 = .ok (.iload 4, 2) := dX3_read_52g.2.1
theorem dX3_read_55 : decode cX3_read 55 = .ok (.iload_n 3, 1) := dX3_read_52g.2.2.1
theorem dX3_read_56 : decode cX3_read 56 = .ok (.invokevirtual 58, 3) := dX3_read_52g.2.2.2.1
theorem dX3_read_59 : decode cX3_read 59 = .ok (.invokestatic 55, 3) := dX3_read_52g.2.2.2.2.1
theorem dX3_read_62 : decode cX3_read 62 = .ok (.istore 4, 2) := dX3_read_52g.2.2.2.2.2.1
theorem dX3_read_64 : decode cX3_read 64 = .ok (.goto (-39), 3) := dX3_read_52g.2.2.2.2.2.2.1
theorem dX3_read_67 : decode cX3_read 67 = .ok (.aload_n 0, 1) := dX3_read_52g.2.2.2.2.2.2.2.1
theorem dX3_read_68 : decode cX3_read 68 = .ok (.iconst (-1), 1) := dX3_read_52g.2.2.2.2.2.2.2.2.1
theorem dX3_read_69 : decode cX3_read 69 = .ok (.iload_n 3, 1) := dX3_read_52g.2.2.2.2.2.2.2.2.2
theorem dX3_read_70g : (decode cX3_read 70 = .ok (.iconst 0, 1)) ∧ (decode cX3_read 71 = .ok (.invokevirtual 62, 3)) ∧ (decode cX3_read 74 = .ok (.aload_n 0, 1)) ∧ (decode cX3_read 75 = .ok (.iconst 0, 1)) ∧ (decode cX3_read 76 = .ok (.putfield 34, 3)) ∧ (decode cX3_read 79 = .ok (.aload_n 0, 1)) ∧ (decode cX3_read 80 = .ok (.iconst 0, 1)) ∧ (decode cX3_read 81 = .ok (.putfield 37, 3)) ∧ (decode cX3_read 84 = .ok (.aload_n 0, 1)) ∧ (decode cX3_read 85 = .ok (.iconst 0, 1)) := by decide +kernel
theorem dX3_read_70 : decode cX3_read 70 = .ok (.iconst 0, 1) := dX3_read_70g.1
theorem dX3_read_71 : decode cX3_read 71 = .ok (.invokevirtual 62, 3) := dX3_read_70g.2.1
theorem dX3_read_74 : decode cX3_read 74 = .ok (.aload_n 0, 1) := dX3_read_70g.2.2.1
theorem dX3_read_75 : decode cX3_read 75 = .ok (.iconst 0, 1) := dX3_read_70g.2.2.2.1
theorem dX3_read_76 : decode cX3_read 76 = .ok (.putfield 34, 3) := dX3_read_70g.2.2.2.2.1
theorem dX3_read_79 : decode cX3_read 79 = .ok (.aload_n 0, 1) := dX3_read_70g.2.2.2.2.2.1
theorem dX3_read_80 : decode cX3_read 80 = .ok (.iconst 0, 1) := dX3_read_70g.2.2.2.2.2.2.1
theorem dX3_read_81 : decode cX3_read 81 = .ok (.putfield 37, 3) := dX3_read_70g.2.2.2.2.2.2.2.1
theorem dX3_read_84 : decode cX3_read 84 = .ok (.aload_n 0, 1) := dX3_read_70g.2.2.2.2.2.2.2.2.1
theorem dX3_read_85 : decode cX3_read 85 = .ok (.iconst 0, 1) := dX3_read_70g.2.2.2.2.2.2.2.2.2
theorem dX3_read_86g : (decode cX3_read 86 = .ok (.putfield 40, 3)) ∧ (decode cX3_read 89 = .ok (.aload_n 0, 1)) ∧ (decode cX3_read 90 = .ok (.iconst 0, 1)) ∧ (decode cX3_read 91 = .ok (.invokevirtual 66, 3)) ∧ (decode cX3_read 94 = .ok (.aload_n 0, 1)) ∧ (decode cX3_read 95 = .ok (.invokevirtual 70, 3)) ∧ (decode cX3_read 98 = .ok (.istore 5, 2)) ∧ (decode cX3_read 100 = .ok (.iconst 1, 1)) ∧ (decode cX3_read 101 = .ok (.istore 6, 2)) ∧ (decode cX3_read 103 = .ok (.iload 5, 2)) := by decide +kernel
theorem dX3_read_86 : decode cX3_read 86 = .ok (.putfield 40, 3) := dX3_read_86g.1
theorem dX3_read_89 : decode cX3_read 89 = .ok (.aload_n 0, 1) := dX3_read_86g.2.1
theorem dX3_read_90 : decode cX3_read 90 = .ok (.iconst 0, 1) := dX3_read_86g.2.2.1
theorem dX3_read_91 : decode cX3_read 91 = .ok (.invokevirtual 66, 3) := dX3_read_86g.2.2.2.1
theorem dX3_read_94 : decode cX3_read 94 = .ok (.aload_n 0, 1) := dX3_read_86g.2.2.2.2.1
theorem dX3_read_95 : decode cX3_read 95 = .ok (.invokevirtual 70, 3) := dX3_read_86g.2.2.2.2.2.1
theorem dX3_read_98 : decode cX3_read 98 = .ok (.istore 5, 2) := dX3_read_86g.2.2.2.2.2.2.1
theorem dX3_read_100 : decode cX3_read 100 = .ok (.iconst 1, 1) := dX3_read_86g.2.2.2.2.2.2.2.1
theorem dX3_read_101 : decode cX3_read 101 = .ok (.istore 6, 2) := dX3_read_86g.2.2.2.2.2.2.2.2.1
theorem dX3_read_103 : decode cX3_read 103 = .ok (.iload 5, 2) := dX3_read_86g.2.2.2.2.2.2.2.2.2
theorem dX3_read_105g : (decode cX3_read 105 = .ok (.ifCond .eq 41, 3)) ∧ (decode cX3_read 108 = .ok (.aload_n 0, 1)) ∧ (decode cX3_read 109 = .ok (.getfield 46, 3)) ∧ (decode cX3_read 112 = .ok (.bipush 59, 2)) ∧ (decode cX3_read 114 = .ok (.if_icmp .ne 32, 3)) ∧ (decode cX3_read 117 = .ok (.iload 6, 2)) ∧ (decode cX3_read 119 = .ok (.bipush 12, 2)) ∧ (decode cX3_read 121 = .ok (.if_icmp .gt 25, 3)) ∧ (decode cX3_read 124 = .ok (.aload_n 0, 1)) ∧ (decode cX3_read 125 = .ok (.aload_n 0, 1)) := by decide +kernel
theorem dX3_read_105 : decode cX3_read 105 = .ok (.ifCond .eq 41, 3) := dX3_read_105g.1
theorem dX3_read_108 : decode cX3_read 108 = .ok (.aload_n 0, 1) := dX3_read_105g.2.1
theorem dX3_read_109 : decode cX3_read 109 = .ok (.getfield 46, 3) := dX3_read_105g.2.2.1
theorem dX3_read_112 : decode cX3_read 112 = .ok (.bipush 59, 2) := dX3_read_105g.2.2.2.1
theorem dX3_read_114 : decode cX3_read 114 = .ok (.if_icmp .ne 32, 3) := dX3_read_105g.2.2.2.2.1
theorem dX3_read_117 : decode cX3_read 117 = .ok (.iload 6, 2) := dX3_read_105g.2.2.2.2.2.1
theorem dX3_read_119 : decode cX3_read 119 = .ok (.bipush 12, 2) := dX3_read_105g.2.2.2.2.2.2.1
theorem dX3_read_121 : decode cX3_read 121 = .ok (.if_icmp .gt 25, 3) := dX3_read_105g.2.2.2.2.2.2.2.1
theorem dX3_read_124 : decode cX3_read 124 = .ok (.aload_n 0, 1) := dX3_read_105g.2.2.2.2.2.2.2.2.1
theorem dX3_read_125 : decode cX3_read 125 = .ok (.aload_n 0, 1) := dX3_read_105g.2.2.2.2.2.2.2.2.2
theorem dX3_read_126g : (decode cX3_read 126 = .ok (.getfield 43, 3)) ∧ (decode cX3_read 129 = .ok (.iconst 1, 1)) ∧ (decode cX3_read 130 = .ok (.iadd, 1)) ∧ (decode cX3_read 131 = .ok (.invokevirtual 66, 3)) ∧ (decode cX3_read 134 = .ok (.aload_n 0, 1)) ∧ (decode cX3_read 135 = .ok (.invokevirtual 70, 3)) ∧ (decode cX3_read 138 = .ok (.istore 5, 2)) ∧ (decode cX3_read 140 = .ok (.iinc 6 1, 3)) ∧ (decode cX3_read 143 = .ok (.goto (-40), 3)) ∧ (decode cX3_read 146 = .ok (.iload 5, 2)) := by decide +kernel
theorem dX3_read_126 : decode cX3_read 126 = .ok (.getfield 43, 3) := dX3_read_126g.1
theorem dX3_read_129 : decode cX3_read 129 = .ok (.iconst 1, 1) := dX3_read_126g.2.1
theorem dX3_read_130 : decode cX3_read 130 = .ok (.iadd, 1) := dX3_read_126g.2.2.1
theorem dX3_read_131 : decode cX3_read 131 = .ok (.invokevirtual 66, 3) := dX3_read_126g.2.2.2.1
theorem dX3_read_134 : decode cX3_read 134 = .ok (.aload_n 0, 1) := dX3_read_126g.2.2.2.2.1
theorem dX3_read_135 : decode cX3_read 135 = .ok (.invokevirtual 70, 3) := dX3_read_126g.2.2.2.2.2.1
theorem dX3_read_138 : decode cX3_read 138 = .ok (.istore 5, 2) := dX3_read_126g.2.2.2.2.2.2.1
theorem dX3_read_140 : decode cX3_read 140 = .ok (.iinc 6 1, 3) := dX3_read_126g.2.2.2.2.2.2.2.1
theorem dX3_read_143 : decode cX3_read 143 = .ok (.goto (-40), 3) := dX3_read_126g.2.2.2.2.2.2.2.2.1
theorem dX3_read_146 : decode cX3_read 146 = .ok (.iload 5, 2) := dX3_read_126g.2.2.2.2.2.2.2.2.2
theorem dX3_read_148g : (decode cX3_read 148 = .ok (.ifCond .eq 41, 3)) ∧ (decode cX3_read 151 = .ok (.aload_n 0, 1)) ∧ (decode cX3_read 152 = .ok (.getfield 46, 3)) ∧ (decode cX3_read 155 = .ok (.iconst (-1), 1)) ∧ (decode cX3_read 156 = .ok (.if_icmp .ne 33, 3)) ∧ (decode cX3_read 159 = .ok (.new 74, 3)) ∧ (decode cX3_read 162 = .ok (.dup, 1)) ∧ (decode cX3_read 163 = .ok (.aload_n 0, 1)) ∧ (decode cX3_read 164 = .ok (.getfield 34, 3)) ∧ (decode cX3_read 167 = .ok (.aload_n 0, 1)) := by decide +kernel
theorem dX3_read_148 : decode cX3_read 148 = .ok (.ifCond .eq 41, 3) := dX3_read_148g.1
theorem dX3_read_151 : decode cX3_read 151 = .ok (.aload_n 0, 1) := dX3_read_148g.2.1
theorem dX3_read_152 : decode cX3_read 152 = .ok (.getfield 46, 3) := dX3_read_148g.2.2.1
theorem dX3_read_155 : decode cX3_read 155 = .ok (.iconst (-1), 1) := dX3_read_148g.2.2.2.1
theorem dX3_read_156 : decode cX3_read 156 = .ok (.if_icmp .ne 33, 3) := dX3_read_148g.2.2.2.2.1
theorem dX3_read_159 : decode cX3_read 159 = .ok (.new 74, 3) := dX3_read_148g.2.2.2.2.2.1
theorem dX3_read_162 : decode cX3_read 162 = .ok (.dup, 1) := dX3_read_148g.2.2.2.2.2.2.1
theorem dX3_read_163 : decode cX3_read 163 = .ok (.aload_n 0, 1) := dX3_read_148g.2.2.2.2.2.2.2.1
theorem dX3_read_164 : decode cX3_read 164 = .ok (.getfield 34, 3) := dX3_read_148g.2.2.2.2.2.2.2.2.1
theorem dX3_read_167 : decode cX3_read 167 = .ok (.aload_n 0, 1) := dX3_read_148g.2.2.2.2.2.2.2.2.2
theorem dX3_read_168g : (decode cX3_read 168 = .ok (.getfield 11, 3)) ∧ (decode cX3_read 171 = .ok (.aload_n 0, 1)) ∧ (decode cX3_read 172 = .ok (.getfield 15, 3)) ∧ (decode cX3_read 175 = .ok (.aload_n 0, 1)) ∧ (decode cX3_read 176 = .ok (.getfield 18, 3)) ∧ (decode cX3_read 179 = .ok (.aload_n 0, 1)) ∧ (decode cX3_read 180 = .ok (.getfield 40, 3)) ∧ (decode cX3_read 183 = .ok (.invokespecial 76, 3)) ∧ (decode cX3_read 186 = .ok (.goto 4, 3)) ∧ (decode cX3_read 189 = .ok (.aconst_null, 1)) := by decide +kernel
theorem dX3_read_168 : decode cX3_read 168 = .ok (.getfield 11, 3) := dX3_read_168g.1
theorem dX3_read_171 : decode cX3_read 171 = .ok (.aload_n 0, 1) := dX3_read_168g.2.1
theorem dX3_read_172 : decode cX3_read 172 = .ok (.getfield 15, 3) := dX3_read_168g.2.2.1
theorem dX3_read_175 : decode cX3_read 175 = .ok (.aload_n 0, 1) := dX3_read_168g.2.2.2.1
theorem dX3_read_176 : decode cX3_read 176 = .ok (.getfield 18, 3) := dX3_read_168g.2.2.2.2.1
theorem dX3_read_179 : decode cX3_read 179 = .ok (.aload_n 0, 1) := dX3_read_168g.2.2.2.2.2.1
theorem dX3_read_180 : decode cX3_read 180 = .ok (.getfield 40, 3) := dX3_read_168g.2.2.2.2.2.2.1
theorem dX3_read_183 : decode cX3_read 183 = .ok (.invokespecial 76, 3) := dX3_read_168g.2.2.2.2.2.2.2.1
theorem dX3_read_186 : decode cX3_read 186 = .ok (.goto 4, 3) := dX3_read_168g.2.2.2.2.2.2.2.2.1
theorem dX3_read_189 : decode cX3_read 189 = .ok (.aconst_null, 1) := dX3_read_168g.2.2.2.2.2.2.2.2.2
theorem dX3_read_190 : decode cX3_read 190 = .ok (.areturn, 1) := by decide +kernel
set_option maxHeartbeats 4000000 in
set_option maxRecDepth 100000 in
theorem c_X3_read (l : Launch) (E : Nat → Nat) (D : va_G) (Gi : th_G) (sz : Nat) (adK adV : Nat → Nat) (h0 : Nat) (hG0 : Gi h0 = some (7, 12)) (p1 : Nat) (hp1 : Gi p1 = some (0, 400)) (x2 : Int32) : Met l yX3_read (tb (.code yX3_read cX3_read 7 (some (.object "NineRiver$Law")))) ({ frames := 48, cells := 4, slots := 441, locals := 1920 } : Room) (va_Pc [.ref h0, .ref p1, .int x2] (PLw E D Gi sz adK adV)) (QLq E D Gi sz) 4 441 (nA Gi sz) := by
  refine Met.ofW (cc := cX3_read) (maxL := 7) (ret := (some (.object "NineRiver$Law"))) (by decide) rfl ?_
  intro p e s m args below meth c s₁ B hml hv
  obtain ⟨hav, rfl, ⟨hI, hN, hK⟩, hWS, hCL⟩ := hv
  have hx := B.exec
  have hb := B.bytes
  have hr := B.returns
  have hts := atoms_spec (ws := tb (.code yX3_read cX3_read 7 (some (.object "NineRiver$Law")))) B.pre
  have hown : s.vm.findClass RX3 = some m.cls := findClass_of_methodNamed B.named
  have hlocks := B.notSynchronized
  have hl := lv_entry ([.ref h0, .ref p1, .int x2]) (n := 7) (Nat.le_of_ble_eq_true rfl)
  rw [show entryFrame m args 7 = entryFrame m ([.ref h0, .ref p1, .int x2] : List Value).toArray 7 from by rw [hav], lg_entry_eq]
  generalize (lg_sl ([.ref h0, .ref p1, .int x2]) ++ List.replicate (7 - (lg_sl ([.ref h0, .ref p1, .int x2])).length) Slot.unset).toArray = ls at hl ⊢
  have hl : lv_has ls 7 [(0, .ref h0), (1, .ref p1), (2, .int x2)] := hl
  generalize hR : (headSpec (tb (.code yX3_read cX3_read 7 (some (.object "NineRiver$Law")))) ({ frames := 48, cells := 4, slots := 441, locals := 1920 } : Room)).room = R
  have hR := hR.symm
  generalize hAe : nA Gi s.heap.size = A at hWS
  have hA : ∀ q : Nat, s.heap.size ≤ q → A q := fun q h => by rw [← hAe]; exact Or.inr h
  have hS : va_S A s.heap s.heap [] := va_S.rf
  obtain ⟨G, hle0, hI, hAG, hG0, hp1⟩ : ∃ G, gle Gi G ∧ th_I (okC E) D G [] s.heap ∧ (∀ (r : Nat) (k : th_K), G r = some k → A r) ∧ G h0 = some (7, 12) ∧ G p1 = some (0, 400) := ⟨Gi, gle.rf, hI, fun r k h => by rw [← hAe]; exact Or.inl ⟨k, h⟩, hG0, hp1⟩
  generalize hQ : MQ below (QLq E D Gi s.heap.size) args s 4 441 A = QF
  have hQ := hQ.symm
  have J_146 : ∀ (H : Heap) (locs : List Loc) (ls : Array Slot) (v3341 : Int32) (v3342 : Int32) (v3343 : Int32) (v3344 : Int32), lv_has ls 7 [(6, .int v3341), (5, .int v3342), (4, .int v3343), (3, .int v3344), (0, .ref h0), (1, .ref p1), (2, .int x2)] → ((1 : Int) ≤ v3341.toInt ∧ v3341.toInt ≤ 13) → ((0 : Int) ≤ v3342.toInt ∧ v3342.toInt ≤ 1) → ((0 : Int) ≤ v3343.toInt) → ((0 : Int) ≤ v3344.toInt ∧ v3344.toInt ≤ 400) → th_I (okC E) D G [] H → va_S A s.heap H locs → W p l e R s m args below meth c H locs 0 0 QF (F0 m 146 ls []) := by
    intro H locs ls v3341 v3342 v3343 v3344 hl k3345 k3346 k3347 k3348 hI hS
    refine lv_iload hx hb dX3_read_146 (lv_at hl 1 rfl) ?_
    refine lv_if_eq (tgt := 189) hx hb dX3_read_148 (by decide) (fun c3349 => ?_) (fun c3349 => ?_)
    · skip
      have k3350 := iv_eq (X := v3342.toInt) (Y := (0)) rfl (by decide) c3349
      refine lv_null hx hb dX3_read_189 ?_
      rw [hQ]
      refine W.widen (k := 4) (n := 441) (Nat.le_of_ble_eq_true rfl) (Nat.le_of_ble_eq_true rfl) ?_
      rw [← hAe] at hS ⊢
      exact th_aretq hx hb hr (r := none) (fun t ht hW => ⟨⟨none, G, rfl, ⟨(fun _ h => by cases h), hle0, fun r k hr => nA_new (hAe ▸ hAG) hle0 hr⟩, by rw [ht]; exact hI, hN.warm hW, va_K.moved hW.alike hK⟩, hS.F ht⟩) hS.2.2 dX3_read_190 hlocks
    · skip
      have k3351 := iv_ne (X := v3342.toInt) (Y := (0)) rfl (by decide) c3349
      refine lv_aload_n hx hb dX3_read_151 rfl (lv_at hl 4 rfl) ?_
      obtain ⟨a3352, a3354, a3356, a3358, a3360, a3362, w3364, w3367, w3370, w3371, w3374, w3375, hO, hq3353, hq3355, hq3357, hq3359, hq3361, hq3363, ⟨k3365, k3366⟩, ⟨k3368, k3369⟩, ⟨k3372, k3373⟩, k3376⟩ := op_7 hI hG0 List.not_mem_nil
      have hI := th_I.weak (a := h0) hI
      refine th_get hx hb hts inT3 hown hK hO rfl 11 (by decide) (hts _ (tb_c wd_140)) rfl rfl dX3_read_152 ?_
      refine lv_iconst (v := (-1)) hx hb dX3_read_155 (by decide) ?_
      have k3377 := iv_lo w3375
      have k3378 := iv_hi w3375
      refine lv_icmp_ne (tgt := 189) hx hb dX3_read_156 (by decide) (fun c3379 => ?_) (fun c3379 => ?_)
      · skip
        have k3380 := iv_ne (X := w3375.toInt) (Y := (-1)) rfl (by decide) c3379
        refine lv_null hx hb dX3_read_189 ?_
        have hI := th_I.close hI hG0 hO (ok_7 hq3353 hq3355 hq3357 hq3359 hq3361 hq3363 ⟨by omega, by omega⟩ ⟨by omega, by omega⟩ ⟨by omega, by omega⟩ (by omega))
        rw [hQ]
        refine W.widen (k := 4) (n := 441) (Nat.le_of_ble_eq_true rfl) (Nat.le_of_ble_eq_true rfl) ?_
        rw [← hAe] at hS ⊢
        exact th_aretq hx hb hr (r := none) (fun t ht hW => ⟨⟨none, G, rfl, ⟨(fun _ h => by cases h), hle0, fun r k hr => nA_new (hAe ▸ hAG) hle0 hr⟩, by rw [ht]; exact hI, hN.warm hW, va_K.moved hW.alike hK⟩, hS.F ht⟩) hS.2.2 dX3_read_190 hlocks
      · skip
        have k3381 := iv_eq (X := w3375.toInt) (Y := (-1)) rfl (by decide) c3379
        have hI := th_I.close hI hG0 hO (ok_7 hq3353 hq3355 hq3357 hq3359 hq3361 hq3363 ⟨by omega, by omega⟩ ⟨by omega, by omega⟩ ⟨by omega, by omega⟩ (by omega))
        refine th_newo (ci := 2) (fs := [.int 0, .null, .null, .null]) hx hb hts inT2 tyX2 tyX2_ok hown (hts _ (tb_c wd_747)) (hts _ (tb_c wd_748)) (hts _ (tb_c wd_20)) hK hI hS rfl (fun j hj => by rcases (show j = 0 ∨ j = 1 ∨ j = 2 ∨ j = 3 by omega) with rfl | rfl | rfl | rfl <;> rfl) (by rw [hR]; exact Nat.le_of_ble_eq_true rfl) (by rw [hR]; exact Nat.le_of_ble_eq_true rfl) dX3_read_159 (fun a3382 H hqe hnn hnsz hOn o1 hI hS => ?_)
        have hnsz9 := hnsz
        refine lv_dup hx hb dX3_read_162 rfl ?_
        refine lv_aload_n hx hb dX3_read_163 rfl (lv_at hl 4 rfl) ?_
        obtain ⟨a3383, a3385, a3387, a3389, a3391, a3393, w3395, w3398, w3401, w3402, w3405, w3406, hO, hq3384, hq3386, hq3388, hq3390, hq3392, hq3394, ⟨k3396, k3397⟩, ⟨k3399, k3400⟩, ⟨k3403, k3404⟩, k3407⟩ := op_7 hI hG0 List.not_mem_nil
        have hI := th_I.weak (a := h0) hI
        refine th_get hx hb hts inT3 hown hK hO rfl 7 (by decide) (hts _ (tb_c wd_136)) rfl rfl dX3_read_164 ?_
        refine lv_aload_n hx hb dX3_read_167 rfl (lv_at hl 4 rfl) ?_
        refine th_get hx hb hts inT3 hown hK hO rfl 0 (by decide) (hts _ (tb_c wd_129)) rfl rfl dX3_read_168 ?_
        refine lv_aload_n hx hb dX3_read_171 rfl (lv_at hl 4 rfl) ?_
        refine th_get hx hb hts inT3 hown hK hO rfl 1 (by decide) (hts _ (tb_c wd_130)) rfl rfl dX3_read_172 ?_
        refine lv_aload_n hx hb dX3_read_175 rfl (lv_at hl 4 rfl) ?_
        refine th_get hx hb hts inT3 hown hK hO rfl 2 (by decide) (hts _ (tb_c wd_131)) rfl rfl dX3_read_176 ?_
        refine lv_aload_n hx hb dX3_read_179 rfl (lv_at hl 4 rfl) ?_
        refine th_get hx hb hts inT3 hown hK hO rfl 9 (by decide) (hts _ (tb_c wd_138)) rfl rfl dX3_read_180 ?_
        have hI := th_I.close hI hG0 hO (ok_7 hq3384 hq3386 hq3388 hq3390 hq3392 hq3394 ⟨by omega, by omega⟩ ⟨by omega, by omega⟩ ⟨by omega, by omega⟩ (by omega))
        refine th_cL (As := [.int w3398, .ref a3383, .ref a3385, .ref a3387, .int w3402]) (rest := [.ref a3382]) (n := 5) ⟨hx, hb, hml, hown, hts⟩ (c_X2_init l E D G a3382 H.size hnn w3398 a3383 hq3384 a3385 hq3386 a3387 hq3388 w3402) wd_749 wd_750 wd_20 wd_751 (by decide +kernel) ⟨by rw [hR]; exact Nat.le_of_ble_eq_true rfl, by rw [hR]; exact Nat.le_of_ble_eq_true rfl⟩ hI hN hCL hK hOn hnn hnsz hS hA hAG rfl hl.1 rfl (Nat.le_of_ble_eq_true rfl) dX3_read_183 ⟨by rw [hR]; exact Nat.le_of_ble_eq_true rfl, by rw [hR]; exact Nat.le_of_ble_eq_true rfl⟩ (fun G H locs N3409 hle hq3408 hAG hI hS => ?_)
        have hG0 := hle _ _ hG0
        have hp1 := hle _ _ hp1
        have hle0 := hle0.tr hle
        refine lv_goto (tgt := 190) hx hb dX3_read_186 (by decide) ?_
        rw [hQ]
        refine W.widen (k := 4) (n := 441) (Nat.le_of_ble_eq_true rfl) (Nat.le_of_ble_eq_true rfl) ?_
        rw [← hAe] at hS ⊢
        exact th_aretq hx hb hr (r := (some a3382)) (fun t ht hW => ⟨⟨(some a3382), G, rfl, ⟨(fun _ h => by cases h; exact ⟨_, hq3408⟩), hle0, fun r k hr => nA_new (hAe ▸ hAG) hle0 hr⟩, by rw [ht]; exact hI, hN.warm hW, va_K.moved hW.alike hK⟩, hS.F ht⟩) hS.2.2 dX3_read_190 hlocks
  have J_103 : ∀ (nn : Nat) (H : Heap) (locs : List Loc) (ls : Array Slot) (v3410 : Int32) (v3411 : Int32) (v3412 : Int32) (v3413 : Int32), (Int.toNat (13 - v3410.toInt) = nn) → lv_has ls 7 [(6, .int v3410), (5, .int v3411), (4, .int v3412), (3, .int v3413), (0, .ref h0), (1, .ref p1), (2, .int x2)] → ((1 : Int) ≤ v3410.toInt ∧ v3410.toInt ≤ 13) → ((0 : Int) ≤ v3411.toInt ∧ v3411.toInt ≤ 1) → ((0 : Int) ≤ v3412.toInt) → ((0 : Int) ≤ v3413.toInt ∧ v3413.toInt ≤ 400) → th_I (okC E) D G [] H → va_S A s.heap H locs → W p l e R s m args below meth c H locs 0 0 QF (F0 m 103 ls []) := by
    intro nn
    induction nn using Nat.strongRecOn with
    | ind nn ih_103 =>
      intro H locs ls v3410 v3411 v3412 v3413 hm hl k3414 k3415 k3416 k3417 hI hS
      refine lv_iload hx hb dX3_read_103 (lv_at hl 1 rfl) ?_
      refine lv_if_eq (tgt := 146) hx hb dX3_read_105 (by decide) (fun c3418 => ?_) (fun c3418 => ?_)
      · skip
        have k3419 := iv_eq (X := v3411.toInt) (Y := (0)) rfl (by decide) c3418
        exact J_146 H locs ls v3410 v3411 v3412 v3413 (lv_sub hl [0, 1, 2, 3, 4, 5, 6] rfl) ⟨by omega, by omega⟩ ⟨by omega, by omega⟩ (by omega) ⟨by omega, by omega⟩ hI hS
      · skip
        have k3420 := iv_ne (X := v3411.toInt) (Y := (0)) rfl (by decide) c3418
        refine lv_aload_n hx hb dX3_read_108 rfl (lv_at hl 4 rfl) ?_
        obtain ⟨a3421, a3423, a3425, a3427, a3429, a3431, w3433, w3436, w3439, w3440, w3443, w3444, hO, hq3422, hq3424, hq3426, hq3428, hq3430, hq3432, ⟨k3434, k3435⟩, ⟨k3437, k3438⟩, ⟨k3441, k3442⟩, k3445⟩ := op_7 hI hG0 List.not_mem_nil
        have hI := th_I.weak (a := h0) hI
        refine th_get hx hb hts inT3 hown hK hO rfl 11 (by decide) (hts _ (tb_c wd_140)) rfl rfl dX3_read_109 ?_
        refine lv_bipush (v := 59) hx hb dX3_read_112 (by decide) ?_
        have k3446 := iv_lo w3444
        have k3447 := iv_hi w3444
        refine lv_icmp_ne (tgt := 146) hx hb dX3_read_114 (by decide) (fun c3448 => ?_) (fun c3448 => ?_)
        · skip
          have k3449 := iv_ne (X := w3444.toInt) (Y := (59)) rfl (by decide) c3448
          have hI := th_I.close hI hG0 hO (ok_7 hq3422 hq3424 hq3426 hq3428 hq3430 hq3432 ⟨by omega, by omega⟩ ⟨by omega, by omega⟩ ⟨by omega, by omega⟩ (by omega))
          exact J_146 H locs ls v3410 v3411 v3412 v3413 (lv_sub hl [0, 1, 2, 3, 4, 5, 6] rfl) ⟨by omega, by omega⟩ ⟨by omega, by omega⟩ (by omega) ⟨by omega, by omega⟩ hI hS
        · skip
          have k3450 := iv_eq (X := w3444.toInt) (Y := (59)) rfl (by decide) c3448
          refine lv_iload hx hb dX3_read_117 (lv_at hl 0 rfl) ?_
          refine lv_bipush (v := 12) hx hb dX3_read_119 (by decide) ?_
          refine lv_icmp_gt (tgt := 146) hx hb dX3_read_121 (by decide) (fun c3451 => ?_) (fun c3451 => ?_)
          · skip
            have k3452 := iv_lt (X := (12)) (Y := v3410.toInt) (by decide) rfl c3451
            have hI := th_I.close hI hG0 hO (ok_7 hq3422 hq3424 hq3426 hq3428 hq3430 hq3432 ⟨by omega, by omega⟩ ⟨by omega, by omega⟩ ⟨by omega, by omega⟩ (by omega))
            exact J_146 H locs ls v3410 v3411 v3412 v3413 (lv_sub hl [0, 1, 2, 3, 4, 5, 6] rfl) ⟨by omega, by omega⟩ ⟨by omega, by omega⟩ (by omega) ⟨by omega, by omega⟩ hI hS
          · skip
            have k3453 := iv_nlt (X := (12)) (Y := v3410.toInt) (by decide) rfl c3451
            refine lv_aload_n hx hb dX3_read_124 rfl (lv_at hl 4 rfl) ?_
            refine lv_aload_n hx hb dX3_read_125 rfl (lv_at hl 4 rfl) ?_
            refine th_get hx hb hts inT3 hown hK hO rfl 10 (by decide) (hts _ (tb_c wd_139)) rfl rfl dX3_read_126 ?_
            refine lv_iconst (v := 1) hx hb dX3_read_129 (by decide) ?_
            refine lv_iadd hx hb dX3_read_130 ?_
            refine lv_topi (fun v3454 e3455 => ?_)
            try have tv3454 : v3454.toInt = w3443.toInt + (1) := iv_add rfl (by decide) e3455 (by omega) (by omega)
            have hI := th_I.close hI hG0 hO (ok_7 hq3422 hq3424 hq3426 hq3428 hq3430 hq3432 ⟨by omega, by omega⟩ ⟨by omega, by omega⟩ ⟨by omega, by omega⟩ (by omega))
            refine th_xVv (As := [.int v3454]) (rest := []) (n := 1) (d := 0) ⟨hx, hb, hml, hown, hts⟩ (c_X3_moveTo l E D G h0 (12) hG0 v3454) wd_707 wd_709 wp_13 wd_5 wd_710 (by decide +kernel) ⟨by rw [hR]; exact Nat.le_of_ble_eq_true rfl, by rw [hR]; exact Nat.le_of_ble_eq_true rfl⟩ hI hN hK hS hAG (rc_7 hI hG0 List.not_mem_nil) rfl rfl hl.1 rfl (Nat.le_of_ble_eq_true rfl) dX3_read_131 ⟨by rw [hR]; exact Nat.le_of_ble_eq_true rfl, by rw [hR]; exact Nat.le_of_ble_eq_true rfl⟩ (fun H locs hI hS => ?_)
            refine lv_aload_n hx hb dX3_read_134 rfl (lv_at hl 4 rfl) ?_
            refine th_xVi (As := []) (rest := []) (n := 0) (d := 47) ⟨hx, hb, hml, hown, hts⟩ (c_X3_clause l E D G h0 hG0 ) wd_711 wd_713 wp_14 wd_5 wd_714 (by decide +kernel) ⟨by rw [hR]; exact Nat.le_of_ble_eq_true rfl, by rw [hR]; exact Nat.le_of_ble_eq_true rfl⟩ hI hN hK hS hAG (rc_7 hI hG0 List.not_mem_nil) rfl rfl hl.1 rfl (Nat.le_of_ble_eq_true rfl) dX3_read_135 ⟨by rw [hR]; exact Nat.le_of_ble_eq_true rfl, by rw [hR]; exact Nat.le_of_ble_eq_true rfl⟩ (fun r3457 H locs hp hI hS => ?_)
            have hp3458 := hp
            refine lv_istore (lv' := [(5, .int r3457), (6, .int v3410), (4, .int v3412), (3, .int v3413), (0, .ref h0), (1, .ref p1), (2, .int x2)]) hx hb dX3_read_138 hl (by decide) rfl (fun ls hl => ?_)
            obtain ⟨v3459, e3460⟩ : ∃ y : Int32, y = v3410 + (1) := ⟨_, rfl⟩
            have tv3459 : v3459.toInt = v3410.toInt + (1) := iv_add rfl (by decide) e3460 (by omega) (by omega)
            refine lv_iinc (v := v3459) (lv' := [(6, .int v3459), (5, .int r3457), (4, .int v3412), (3, .int v3413), (0, .ref h0), (1, .ref p1), (2, .int x2)]) hx hb dX3_read_140 hl (k := 1) rfl (by rw [e3460]; rfl) (by decide) rfl (fun ls hl => ?_)
            refine lv_goto (tgt := 103) hx hb dX3_read_143 (by decide) ?_
            exact ih_103 _ (by omega) H locs ls v3459 r3457 v3412 v3413 rfl (lv_sub hl [0, 1, 2, 3, 4, 5, 6] rfl) ⟨by omega, by omega⟩ ⟨by omega, by omega⟩ (by omega) ⟨by omega, by omega⟩ hI hS
  have J_25 : ∀ (nn : Nat) (H : Heap) (locs : List Loc) (ls : Array Slot) (v3461 : Int32) (v3462 : Int32), (Int.toNat (v3462.toInt - v3461.toInt) = nn) → lv_has ls 7 [(4, .int v3461), (3, .int v3462), (0, .ref h0), (1, .ref p1), (2, .int x2)] → ((0 : Int) ≤ v3461.toInt) → ((0 : Int) ≤ v3462.toInt ∧ v3462.toInt ≤ 400) → th_I (okC E) D G [] H → va_S A s.heap H locs → W p l e R s m args below meth c H locs 0 0 QF (F0 m 25 ls []) := by
    intro nn
    induction nn using Nat.strongRecOn with
    | ind nn ih_25 =>
      intro H locs ls v3461 v3462 hm hl k3463 k3464 hI hS
      refine lv_iload hx hb dX3_read_25 (lv_at hl 0 rfl) ?_
      refine lv_iload_n hx hb dX3_read_27 rfl (lv_at hl 1 rfl) ?_
      have k3465 := iv_lo v3461
      have k3466 := iv_hi v3461
      refine lv_icmp_ge (tgt := 67) hx hb dX3_read_28 (by decide) (fun c3467 => ?_) (fun c3467 => ?_)
      · skip
        have k3468 := iv_le (X := v3462.toInt) (Y := v3461.toInt) rfl rfl c3467
        refine lv_aload_n hx hb dX3_read_67 rfl (lv_at hl 2 rfl) ?_
        refine lv_iconst (v := (-1)) hx hb dX3_read_68 (by decide) ?_
        refine lv_iload_n hx hb dX3_read_69 rfl (lv_at hl 1 rfl) ?_
        refine lv_iconst (v := 0) hx hb dX3_read_70 (by decide) ?_
        refine th_xVv (As := [.int (-1), .int v3462, .int 0]) (rest := []) (n := 3) (d := 0) ⟨hx, hb, hml, hown, hts⟩ (c_X3_addToken l E D G h0 (12) hG0 (-1) v3462 0) wd_700 wd_702 wp_12 wd_5 wd_703 (by decide +kernel) ⟨by rw [hR]; exact Nat.le_of_ble_eq_true rfl, by rw [hR]; exact Nat.le_of_ble_eq_true rfl⟩ hI hN hK hS hAG (rc_7 hI hG0 List.not_mem_nil) rfl rfl hl.1 rfl (Nat.le_of_ble_eq_true rfl) dX3_read_71 ⟨by rw [hR]; exact Nat.le_of_ble_eq_true rfl, by rw [hR]; exact Nat.le_of_ble_eq_true rfl⟩ (fun H locs hI hS => ?_)
        refine lv_aload_n hx hb dX3_read_74 rfl (lv_at hl 2 rfl) ?_
        refine lv_iconst (v := 0) hx hb dX3_read_75 (by decide) ?_
        obtain ⟨a3470, a3472, a3474, a3476, a3478, a3480, w3482, w3485, w3488, w3489, w3492, w3493, hO, hq3471, hq3473, hq3475, hq3477, hq3479, hq3481, ⟨k3483, k3484⟩, ⟨k3486, k3487⟩, ⟨k3490, k3491⟩, k3494⟩ := op_7 hI hG0 List.not_mem_nil
        have hI := th_I.weak (a := h0) hI
        refine th_put (ty := .int) hx hb hts inT3 tyX3 tyX3_ok nmX3 hown hK hO hS (hAG _ _ hG0) rfl 7 (by decide) (hts _ (tb_c wd_136)) rfl rfl (by decide +kernel) rfl rfl (Nat.le_of_ble_eq_true rfl) dX3_read_76 (fun H locs hO oq hS => ?_)
        have hI := th_I.moved hI oq
        have hO : va_at D vwCl (h0, .inr (3, [.ref a3470, .ref a3472, .ref a3474, .ref a3476, .ref a3478, .ref a3480, .int w3482, .int 0, .int w3488, .int w3489, .int w3492, .int w3493])) H := hO
        refine lv_aload_n hx hb dX3_read_79 rfl (lv_at hl 2 rfl) ?_
        refine lv_iconst (v := 0) hx hb dX3_read_80 (by decide) ?_
        refine th_put (ty := .int) hx hb hts inT3 tyX3 tyX3_ok nmX3 hown hK hO hS (hAG _ _ hG0) rfl 8 (by decide) (hts _ (tb_c wd_137)) rfl rfl (by decide +kernel) rfl rfl (Nat.le_of_ble_eq_true rfl) dX3_read_81 (fun H locs hO oq hS => ?_)
        have hI := th_I.moved hI oq
        have hO : va_at D vwCl (h0, .inr (3, [.ref a3470, .ref a3472, .ref a3474, .ref a3476, .ref a3478, .ref a3480, .int w3482, .int 0, .int 0, .int w3489, .int w3492, .int w3493])) H := hO
        refine lv_aload_n hx hb dX3_read_84 rfl (lv_at hl 2 rfl) ?_
        refine lv_iconst (v := 0) hx hb dX3_read_85 (by decide) ?_
        refine th_put (ty := .int) hx hb hts inT3 tyX3 tyX3_ok nmX3 hown hK hO hS (hAG _ _ hG0) rfl 9 (by decide) (hts _ (tb_c wd_138)) rfl rfl (by decide +kernel) rfl rfl (Nat.le_of_ble_eq_true rfl) dX3_read_86 (fun H locs hO oq hS => ?_)
        have hI := th_I.moved hI oq
        have hO : va_at D vwCl (h0, .inr (3, [.ref a3470, .ref a3472, .ref a3474, .ref a3476, .ref a3478, .ref a3480, .int w3482, .int 0, .int 0, .int 0, .int w3492, .int w3493])) H := hO
        refine lv_aload_n hx hb dX3_read_89 rfl (lv_at hl 2 rfl) ?_
        refine lv_iconst (v := 0) hx hb dX3_read_90 (by decide) ?_
        have hI := th_I.close hI hG0 hO (ok_7 hq3471 hq3473 hq3475 hq3477 hq3479 hq3481 ⟨by omega, by omega⟩ ⟨by rw [show (0 : Int32).toInt = 0 from by decide]; omega, by rw [show (0 : Int32).toInt = 0 from by decide]; omega⟩ ⟨by rw [show (0 : Int32).toInt = 0 from by decide]; omega, by rw [show (0 : Int32).toInt = 0 from by decide]; omega⟩ (by omega))
        refine th_xVv (As := [.int 0]) (rest := []) (n := 1) (d := 0) ⟨hx, hb, hml, hown, hts⟩ (c_X3_moveTo l E D G h0 (12) hG0 0) wd_707 wd_709 wp_13 wd_5 wd_710 (by decide +kernel) ⟨by rw [hR]; exact Nat.le_of_ble_eq_true rfl, by rw [hR]; exact Nat.le_of_ble_eq_true rfl⟩ hI hN hK hS hAG (rc_7 hI hG0 List.not_mem_nil) rfl rfl hl.1 rfl (Nat.le_of_ble_eq_true rfl) dX3_read_91 ⟨by rw [hR]; exact Nat.le_of_ble_eq_true rfl, by rw [hR]; exact Nat.le_of_ble_eq_true rfl⟩ (fun H locs hI hS => ?_)
        refine lv_aload_n hx hb dX3_read_94 rfl (lv_at hl 2 rfl) ?_
        refine th_xVi (As := []) (rest := []) (n := 0) (d := 47) ⟨hx, hb, hml, hown, hts⟩ (c_X3_clause l E D G h0 hG0 ) wd_711 wd_713 wp_14 wd_5 wd_714 (by decide +kernel) ⟨by rw [hR]; exact Nat.le_of_ble_eq_true rfl, by rw [hR]; exact Nat.le_of_ble_eq_true rfl⟩ hI hN hK hS hAG (rc_7 hI hG0 List.not_mem_nil) rfl rfl hl.1 rfl (Nat.le_of_ble_eq_true rfl) dX3_read_95 ⟨by rw [hR]; exact Nat.le_of_ble_eq_true rfl, by rw [hR]; exact Nat.le_of_ble_eq_true rfl⟩ (fun r3496 H locs hp hI hS => ?_)
        have hp3497 := hp
        refine lv_istore (lv' := [(5, .int r3496), (4, .int v3461), (3, .int v3462), (0, .ref h0), (1, .ref p1), (2, .int x2)]) hx hb dX3_read_98 hl (by decide) rfl (fun ls hl => ?_)
        refine lv_iconst (v := 1) hx hb dX3_read_100 (by decide) ?_
        refine lv_istore (lv' := [(6, .int 1), (5, .int r3496), (4, .int v3461), (3, .int v3462), (0, .ref h0), (1, .ref p1), (2, .int x2)]) hx hb dX3_read_101 hl (by decide) rfl (fun ls hl => ?_)
        have zl : (1 : Int32).toInt = 1 := by decide
        exact J_103 _ H locs ls 1 r3496 v3461 v3462 rfl (lv_sub hl [0, 1, 2, 3, 4, 5, 6] rfl) ⟨by decide, by decide⟩ ⟨by omega, by omega⟩ (by omega) ⟨by omega, by omega⟩ hI hS
      · skip
        have k3498 := iv_nle (X := v3462.toInt) (Y := v3461.toInt) rfl rfl c3467
        refine lv_aload_n hx hb dX3_read_31 rfl (lv_at hl 3 rfl) ?_
        refine lv_iload hx hb dX3_read_32 (lv_at hl 0 rfl) ?_
        obtain ⟨_, hA3499⟩ := op_0 hI hp1 List.not_mem_nil
        refine th_iald hx hb hK hA3499 0 rfl (iv_in (X := v3461.toInt) rfl (by omega) (by omega)) dX3_read_34 (fun v3500 _ => ?_)
        refine lv_bipush (v := 32) hx hb dX3_read_35 (by decide) ?_
        have k3501 := iv_lo v3500
        have k3502 := iv_hi v3500
        refine lv_icmp_ne (tgt := 47) hx hb dX3_read_37 (by decide) (fun c3503 => ?_) (fun c3503 => ?_)
        · skip
          have k3504 := iv_ne (X := v3500.toInt) (Y := (32)) rfl (by decide) c3503
          refine lv_iload hx hb dX3_read_47 (lv_at hl 0 rfl) ?_
          refine lv_iconst (v := 1) hx hb dX3_read_49 (by decide) ?_
          refine lv_iadd hx hb dX3_read_50 ?_
          refine lv_topi (fun v3505 e3506 => ?_)
          have tv3505 : v3505.toInt = v3461.toInt + (1) := iv_add rfl (by decide) e3506 (by omega) (by omega)
          refine lv_aload_n hx hb dX3_read_51 rfl (lv_at hl 2 rfl) ?_
          refine lv_aload_n hx hb dX3_read_52 rfl (lv_at hl 3 rfl) ?_
          refine lv_iload hx hb dX3_read_53 (lv_at hl 0 rfl) ?_
          refine lv_iload_n hx hb dX3_read_55 rfl (lv_at hl 1 rfl) ?_
          refine pw_Vi (As := [.ref p1, .int v3461, .int v3462]) (rest := [.int v3505]) (n := 3) (d := 5) ⟨hx, hb, hml, hown, hts⟩ (c_X3_readToken l E D G adK adV h0 12 hG0 p1 hp1 v3461 v3462 ⟨by omega, by omega⟩ ⟨by omega, by omega⟩) wd_649 wd_651 wp_11 wd_5 wd_652 (by decide +kernel) ⟨by rw [hR]; exact Nat.le_of_ble_eq_true rfl, by rw [hR]; exact Nat.le_of_ble_eq_true rfl⟩ hI hN hK hWS hS hAG (rc_7 hI hG0 List.not_mem_nil) rfl rfl hl.1 rfl (Nat.le_of_ble_eq_true rfl) dX3_read_56 ⟨by rw [hR]; exact Nat.le_of_ble_eq_true rfl, by rw [hR]; exact Nat.le_of_ble_eq_true rfl⟩ (fun r3507 H locs hp hI hS => ?_)
          refine va_mmax hx hb (hml.trans hl.1.symm) hown (hts _ (tb_c wd_648)) (hts _ (tb_c wd_43)) (hts _ (tb_c wd_4)) (hts _ (tb_c wd_44)) (by rw [hR]; exact Nat.le_of_ble_eq_true rfl) (by rw [hR]; exact Nat.le_of_ble_eq_true rfl) (Nat.zero_le _) (Nat.zero_le _) dX3_read_59 ?_
          refine lv_topi (fun v3508 e3509 => ?_)
          have tv3508 := iv_max e3509
          refine lv_istore (lv' := [(4, .int v3508), (3, .int v3462), (0, .ref h0), (1, .ref p1), (2, .int x2)]) hx hb dX3_read_62 hl (by decide) rfl (fun ls hl => ?_)
          refine lv_goto (tgt := 25) hx hb dX3_read_64 (by decide) ?_
          exact ih_25 _ (by omega) H locs ls v3508 v3462 rfl (lv_sub hl [0, 1, 2, 3, 4] rfl) (by omega) ⟨by omega, by omega⟩ hI hS
        · skip
          have k3510 := iv_eq (X := v3500.toInt) (Y := (32)) rfl (by decide) c3503
          refine lv_iload hx hb dX3_read_40 (lv_at hl 0 rfl) ?_
          refine lv_iconst (v := 1) hx hb dX3_read_42 (by decide) ?_
          refine lv_iadd hx hb dX3_read_43 ?_
          refine lv_topi (fun v3511 e3512 => ?_)
          have tv3511 : v3511.toInt = v3461.toInt + (1) := iv_add rfl (by decide) e3512 (by omega) (by omega)
          refine lv_goto (tgt := 62) hx hb dX3_read_44 (by decide) ?_
          refine lv_istore (lv' := [(4, .int v3511), (3, .int v3462), (0, .ref h0), (1, .ref p1), (2, .int x2)]) hx hb dX3_read_62 hl (by decide) rfl (fun ls hl => ?_)
          refine lv_goto (tgt := 25) hx hb dX3_read_64 (by decide) ?_
          exact ih_25 _ (by omega) H locs ls v3511 v3462 rfl (lv_sub hl [0, 1, 2, 3, 4] rfl) (by omega) ⟨by omega, by omega⟩ hI hS
  refine lv_iconst (v := 0) hx hb dX3_read_0 (by decide) ?_
  refine lv_iload_n hx hb dX3_read_1 rfl (lv_at hl 2 rfl) ?_
  refine lv_aload_n hx hb dX3_read_2 rfl (lv_at hl 1 rfl) ?_
  obtain ⟨_, hA3513⟩ := op_0 hI hp1 List.not_mem_nil
  refine va_alen hx hb hK (th_one hA3513) 0 0 rfl (v := 400) rfl (show Int32.ofNat 400 = (400 : Int32) from by decide) dX3_read_3 ?_
  refine lv_sipush (v := 400) hx hb dX3_read_4 (by decide) ?_
  refine va_mmin hx hb (hml.trans hl.1.symm) hown (hts _ (tb_c wd_647)) (hts _ (tb_c wd_583)) (hts _ (tb_c wd_4)) (hts _ (tb_c wd_584)) (by rw [hR]; exact Nat.le_of_ble_eq_true rfl) (by rw [hR]; exact Nat.le_of_ble_eq_true rfl) (Nat.zero_le _) (Nat.zero_le _) dX3_read_7 ?_
  refine lv_topi (fun v3514 e3515 => ?_)
  have tv3514 := iv_min e3515
  rw [show (400 : Int32).toInt = 400 from by decide] at tv3514
  refine va_mmin hx hb (hml.trans hl.1.symm) hown (hts _ (tb_c wd_647)) (hts _ (tb_c wd_583)) (hts _ (tb_c wd_4)) (hts _ (tb_c wd_584)) (by rw [hR]; exact Nat.le_of_ble_eq_true rfl) (by rw [hR]; exact Nat.le_of_ble_eq_true rfl) (Nat.zero_le _) (Nat.zero_le _) dX3_read_10 ?_
  refine lv_topi (fun v3516 e3517 => ?_)
  have tv3516 := iv_min e3517
  refine va_mmax hx hb (hml.trans hl.1.symm) hown (hts _ (tb_c wd_648)) (hts _ (tb_c wd_43)) (hts _ (tb_c wd_4)) (hts _ (tb_c wd_44)) (by rw [hR]; exact Nat.le_of_ble_eq_true rfl) (by rw [hR]; exact Nat.le_of_ble_eq_true rfl) (Nat.zero_le _) (Nat.zero_le _) dX3_read_13 ?_
  refine lv_topi (fun v3518 e3519 => ?_)
  have tv3518 := iv_max e3519
  rw [show (0 : Int32).toInt = 0 from by decide] at tv3518
  refine lv_istore_n (lv' := [(3, .int v3518), (0, .ref h0), (1, .ref p1), (2, .int x2)]) hx hb dX3_read_16 rfl hl (by decide) rfl (fun ls hl => ?_)
  refine lv_aload_n hx hb dX3_read_17 rfl (lv_at hl 1 rfl) ?_
  refine lv_iconst (v := 0) hx hb dX3_read_18 (by decide) ?_
  obtain ⟨a3520, a3522, a3524, a3526, a3528, a3530, w3532, w3535, w3538, w3539, w3542, w3543, hO, hq3521, hq3523, hq3525, hq3527, hq3529, hq3531, ⟨k3533, k3534⟩, ⟨k3536, k3537⟩, ⟨k3540, k3541⟩, k3544⟩ := op_7 hI hG0 List.not_mem_nil
  have hI := th_I.weak (a := h0) hI
  refine th_put (ty := .int) hx hb hts inT3 tyX3 tyX3_ok nmX3 hown hK hO hS (hAG _ _ hG0) rfl 6 (by decide) (hts _ (tb_c wd_135)) rfl rfl (by decide +kernel) rfl rfl (Nat.le_of_ble_eq_true rfl) dX3_read_19 (fun H locs hO oq hS => ?_)
  have hI := th_I.moved hI oq
  have hO : va_at D vwCl (h0, .inr (3, [.ref a3520, .ref a3522, .ref a3524, .ref a3526, .ref a3528, .ref a3530, .int 0, .int w3535, .int w3538, .int w3539, .int w3542, .int w3543])) H := hO
  refine lv_iconst (v := 0) hx hb dX3_read_22 (by decide) ?_
  refine lv_istore (lv' := [(4, .int 0), (3, .int v3518), (0, .ref h0), (1, .ref p1), (2, .int x2)]) hx hb dX3_read_23 hl (by decide) rfl (fun ls hl => ?_)
  have hI := th_I.close hI hG0 hO (ok_7 hq3521 hq3523 hq3525 hq3527 hq3529 hq3531 ⟨by rw [show (0 : Int32).toInt = 0 from by decide]; omega, by rw [show (0 : Int32).toInt = 0 from by decide]; omega⟩ ⟨by omega, by omega⟩ ⟨by omega, by omega⟩ (by omega))
  have zl : (0 : Int32).toInt = 0 := by decide
  exact J_25 _ H locs ls 0 v3518 rfl (lv_sub hl [0, 1, 2, 3, 4] rfl) (by decide) ⟨by omega, by omega⟩ hI hS
theorem dX11_law_0g : (decode cX11_law 0 = .ok (.aload_n 0, 1)) ∧ (decode cX11_law 1 = .ok (.getfield 89, 3)) ∧ (decode cX11_law 4 = .ok (.istore_n 1, 1)) ∧ (decode cX11_law 5 = .ok (.aload_n 0, 1)) ∧ (decode cX11_law 6 = .ok (.iconst 0, 1)) ∧ (decode cX11_law 7 = .ok (.putfield 89, 3)) ∧ (decode cX11_law 10 = .ok (.aload_n 0, 1)) ∧ (decode cX11_law 11 = .ok (.getfield 12, 3)) ∧ (decode cX11_law 14 = .ok (.getfield 194, 3)) ∧ (decode cX11_law 17 = .ok (.bipush 6, 2)) := by decide +kernel
theorem dX11_law_0 : decode cX11_law 0 = .ok (.aload_n 0, 1) := dX11_law_0g.1
theorem dX11_law_1 : decode cX11_law 1 = .ok (.getfield 89, 3) := dX11_law_0g.2.1
theorem dX11_law_4 : decode cX11_law 4 = .ok (.istore_n 1, 1) := dX11_law_0g.2.2.1
theorem dX11_law_5 : decode cX11_law 5 = .ok (.aload_n 0, 1) := dX11_law_0g.2.2.2.1
theorem dX11_law_6 : decode cX11_law 6 = .ok (.iconst 0, 1) := dX11_law_0g.2.2.2.2.1
theorem dX11_law_7 : decode cX11_law 7 = .ok (.putfield 89, 3) := dX11_law_0g.2.2.2.2.2.1
theorem dX11_law_10 : decode cX11_law 10 = .ok (.aload_n 0, 1) := dX11_law_0g.2.2.2.2.2.2.1
theorem dX11_law_11 : decode cX11_law 11 = .ok (.getfield 12, 3) := dX11_law_0g.2.2.2.2.2.2.2.1
theorem dX11_law_14 : decode cX11_law 14 = .ok (.getfield 194, 3) := dX11_law_0g.2.2.2.2.2.2.2.2.1
theorem dX11_law_17 : decode cX11_law 17 = .ok (.bipush 6, 2) := dX11_law_0g.2.2.2.2.2.2.2.2.2
theorem dX11_law_19g : (decode cX11_law 19 = .ok (.if_icmp .lt 10, 3)) ∧ (decode cX11_law 22 = .ok (.aload_n 0, 1)) ∧ (decode cX11_law 23 = .ok (.bipush (-5), 2)) ∧ (decode cX11_law 25 = .ok (.invokevirtual 113, 3)) ∧ (decode cX11_law 28 = .ok (.ireturn, 1)) ∧ (decode cX11_law 29 = .ok (.aload_n 0, 1)) ∧ (decode cX11_law 30 = .ok (.getfield 33, 3)) ∧ (decode cX11_law 33 = .ok (.aload_n 0, 1)) ∧ (decode cX11_law 34 = .ok (.getfield 20, 3)) ∧ (decode cX11_law 37 = .ok (.iload_n 1, 1)) := by decide +kernel
theorem dX11_law_19 : decode cX11_law 19 = .ok (.if_icmp .lt 10, 3) := dX11_law_19g.1
theorem dX11_law_22 : decode cX11_law 22 = .ok (.aload_n 0, 1) := dX11_law_19g.2.1
theorem dX11_law_23 : decode cX11_law 23 = .ok (.bipush (-5), 2) := dX11_law_19g.2.2.1
theorem dX11_law_25 : decode cX11_law 25 = .ok (.invokevirtual 113, 3) := dX11_law_19g.2.2.2.1
theorem dX11_law_28 : decode cX11_law 28 = .ok (.ireturn, 1) := dX11_law_19g.2.2.2.2.1
theorem dX11_law_29 : decode cX11_law 29 = .ok (.aload_n 0, 1) := dX11_law_19g.2.2.2.2.2.1
theorem dX11_law_30 : decode cX11_law 30 = .ok (.getfield 33, 3) := dX11_law_19g.2.2.2.2.2.2.1
theorem dX11_law_33 : decode cX11_law 33 = .ok (.aload_n 0, 1) := dX11_law_19g.2.2.2.2.2.2.2.1
theorem dX11_law_34 : decode cX11_law 34 = .ok (.getfield 20, 3) := dX11_law_19g.2.2.2.2.2.2.2.2.1
theorem dX11_law_37 : decode cX11_law 37 = .ok (.iload_n 1, 1) := dX11_law_19g.2.2.2.2.2.2.2.2.2
theorem dX11_law_38g : (decode cX11_law 38 = .ok (.invokevirtual 197, 3)) ∧ (decode cX11_law 41 = .ok (.astore_n 2, 1)) ∧ (decode cX11_law 42 = .ok (.aload_n 0, 1)) ∧ (decode cX11_law 43 = .ok (.aload_n 2, 1)) ∧ (decode cX11_law 44 = .ok (.ifnonnull 13, 3)) ∧ (decode cX11_law 47 = .ok (.aload_n 0, 1)) ∧ (decode cX11_law 48 = .ok (.getfield 33, 3)) ∧ (decode cX11_law 51 = .ok (.invokevirtual 201, 3)) ∧ (decode cX11_law 54 = .ok (.goto 4, 3)) ∧ (decode cX11_law 57 = .ok (.iconst (-1), 1)) := by decide +kernel
theorem dX11_law_38 : decode cX11_law 38 = .ok (.invokevirtual 197, 3) := dX11_law_38g.1
theorem dX11_law_41 : decode cX11_law 41 = .ok (.astore_n 2, 1) := dX11_law_38g.2.1
theorem dX11_law_42 : decode cX11_law 42 = .ok (.aload_n 0, 1) := dX11_law_38g.2.2.1
theorem dX11_law_43 : decode cX11_law 43 = .ok (.aload_n 2, 1) := dX11_law_38g.2.2.2.1
theorem dX11_law_44 : decode cX11_law 44 = .ok (.ifnonnull 13, 3) := dX11_law_38g.2.2.2.2.1
theorem dX11_law_47 : decode cX11_law 47 = .ok (.aload_n 0, 1) := dX11_law_38g.2.2.2.2.2.1
theorem dX11_law_48 : decode cX11_law 48 = .ok (.getfield 33, 3) := dX11_law_38g.2.2.2.2.2.2.1
theorem dX11_law_51 : decode cX11_law 51 = .ok (.invokevirtual 201, 3) := dX11_law_38g.2.2.2.2.2.2.2.1
theorem dX11_law_54 : decode cX11_law 54 = .ok (.goto 4, 3) := dX11_law_38g.2.2.2.2.2.2.2.2.1
theorem dX11_law_57 : decode cX11_law 57 = .ok (.iconst (-1), 1) := dX11_law_38g.2.2.2.2.2.2.2.2.2
theorem dX11_law_58g : (decode cX11_law 58 = .ok (.putfield 93, 3)) ∧ (decode cX11_law 61 = .ok (.aload_n 2, 1)) ∧ (decode cX11_law 62 = .ok (.ifnonnull 10, 3)) ∧ (decode cX11_law 65 = .ok (.aload_n 0, 1)) ∧ (decode cX11_law 66 = .ok (.bipush (-6), 2)) ∧ (decode cX11_law 68 = .ok (.invokevirtual 113, 3)) ∧ (decode cX11_law 71 = .ok (.ireturn, 1)) ∧ (decode cX11_law 72 = .ok (.aload_n 0, 1)) ∧ (decode cX11_law 73 = .ok (.aload_n 0, 1)) ∧ (decode cX11_law 74 = .ok (.getfield 12, 3)) := by decide +kernel
theorem dX11_law_58 : decode cX11_law 58 = .ok (.putfield 93, 3) := dX11_law_58g.1
theorem dX11_law_61 : decode cX11_law 61 = .ok (.aload_n 2, 1) := dX11_law_58g.2.1
theorem dX11_law_62 : decode cX11_law 62 = .ok (.ifnonnull 10, 3) := dX11_law_58g.2.2.1
theorem dX11_law_65 : decode cX11_law 65 = .ok (.aload_n 0, 1) := dX11_law_58g.2.2.2.1
theorem dX11_law_66 : decode cX11_law 66 = .ok (.bipush (-6), 2) := dX11_law_58g.2.2.2.2.1
theorem dX11_law_68 : decode cX11_law 68 = .ok (.invokevirtual 113, 3) := dX11_law_58g.2.2.2.2.2.1
theorem dX11_law_71 : decode cX11_law 71 = .ok (.ireturn, 1) := dX11_law_58g.2.2.2.2.2.2.1
theorem dX11_law_72 : decode cX11_law 72 = .ok (.aload_n 0, 1) := dX11_law_58g.2.2.2.2.2.2.2.1
theorem dX11_law_73 : decode cX11_law 73 = .ok (.aload_n 0, 1) := dX11_law_58g.2.2.2.2.2.2.2.2.1
theorem dX11_law_74 : decode cX11_law 74 = .ok (.getfield 12, 3) := dX11_law_58g.2.2.2.2.2.2.2.2.2
theorem dX11_law_77g : (decode cX11_law 77 = .ok (.aload_n 2, 1)) ∧ (decode cX11_law 78 = .ok (.invokevirtual 204, 3)) ∧ (decode cX11_law 81 = .ok (.invokevirtual 127, 3)) ∧ (decode cX11_law 84 = .ok (.ireturn, 1)) := by decide +kernel
theorem dX11_law_77 : decode cX11_law 77 = .ok (.aload_n 2, 1) := dX11_law_77g.1
theorem dX11_law_78 : decode cX11_law 78 = .ok (.invokevirtual 204, 3) := dX11_law_77g.2.1
theorem dX11_law_81 : decode cX11_law 81 = .ok (.invokevirtual 127, 3) := dX11_law_77g.2.2.1
theorem dX11_law_84 : decode cX11_law 84 = .ok (.ireturn, 1) := dX11_law_77g.2.2.2
set_option maxHeartbeats 4000000 in
set_option maxRecDepth 100000 in
theorem c_X11_law (l : Launch) (E : Nat → Nat) (D : va_G) (Gi : th_G) (sz : Nat) (adK adV : Nat → Nat) (h0 n : Nat) (hG0 : Gi h0 = some (15, n)) : Met l yX11_law (tb (.code yX11_law cX11_law 3 (some .int))) ({ frames := 50, cells := 4, slots := 441, locals := 2000 } : Room) (va_Pc [.ref h0] (PLw E D Gi sz adK adV)) (QMI E D Gi sz (fun r => True)) 4 441 (nA Gi sz) := by
  refine Met.ofW (cc := cX11_law) (maxL := 3) (ret := (some .int)) (by decide) rfl ?_
  intro p e s m args below meth c s₁ B hml hv
  obtain ⟨hav, rfl, ⟨hI, hN, hK⟩, hWS, hCL⟩ := hv
  have hx := B.exec
  have hb := B.bytes
  have hr := B.returns
  have hts := atoms_spec (ws := tb (.code yX11_law cX11_law 3 (some .int))) B.pre
  have hown : s.vm.findClass RX11 = some m.cls := findClass_of_methodNamed B.named
  have hlocks := B.notSynchronized
  have hl := lv_entry ([.ref h0]) (n := 3) (Nat.le_of_ble_eq_true rfl)
  rw [show entryFrame m args 3 = entryFrame m ([.ref h0] : List Value).toArray 3 from by rw [hav], lg_entry_eq]
  generalize (lg_sl ([.ref h0]) ++ List.replicate (3 - (lg_sl ([.ref h0])).length) Slot.unset).toArray = ls at hl ⊢
  have hl : lv_has ls 3 [(0, .ref h0)] := hl
  generalize hR : (headSpec (tb (.code yX11_law cX11_law 3 (some .int))) ({ frames := 50, cells := 4, slots := 441, locals := 2000 } : Room)).room = R
  have hR := hR.symm
  generalize hAe : nA Gi s.heap.size = A at hWS
  have hA : ∀ q : Nat, s.heap.size ≤ q → A q := fun q h => by rw [← hAe]; exact Or.inr h
  have hS : va_S A s.heap s.heap [] := va_S.rf
  obtain ⟨G, hle0, hI, hAG, hG0⟩ : ∃ G, gle Gi G ∧ th_I (okC E) D G [] s.heap ∧ (∀ (r : Nat) (k : th_K), G r = some k → A r) ∧ G h0 = some (15, n) := ⟨Gi, gle.rf, hI, fun r k h => by rw [← hAe]; exact Or.inl ⟨k, h⟩, hG0⟩
  generalize hQ : MQ below (QMI E D Gi s.heap.size (fun r => True)) args s 4 441 A = QF
  have hQ := hQ.symm
  refine lv_aload_n hx hb dX11_law_0 rfl (lv_at hl 0 rfl) ?_
  obtain ⟨a1, a4, a6, a8, a10, a12, a14, a16, a18, a20, a22, w24, w27, w28, w29, w30, hO, hq2, hq3, hq5, hq7, hq9, hq11, hq13, hq15, hq17, hq19, hq21, hq23, ⟨k25, k26⟩, k31⟩ := op_15 hI hG0 List.not_mem_nil
  have hI := th_I.weak (a := h0) hI
  refine th_get hx hb hts inT11 hown hK hO rfl 12 (by decide) (hts _ (tb_c wd_357)) rfl rfl dX11_law_1 ?_
  refine lv_istore_n (lv' := [(1, .int w24), (0, .ref h0)]) hx hb dX11_law_4 rfl hl (by decide) rfl (fun ls hl => ?_)
  refine lv_aload_n hx hb dX11_law_5 rfl (lv_at hl 1 rfl) ?_
  refine lv_iconst (v := 0) hx hb dX11_law_6 (by decide) ?_
  refine th_put (ty := .int) hx hb hts inT11 tyX11 tyX11_ok nmX11 hown hK hO hS (hAG _ _ hG0) rfl 12 (by decide) (hts _ (tb_c wd_357)) rfl rfl (by decide +kernel) rfl rfl (Nat.le_of_ble_eq_true rfl) dX11_law_7 (fun H locs hO oq hS => ?_)
  have hI := th_I.moved hI oq
  have hO : va_at D vwCl (h0, .inr (11, [.ref a1, .ref n, .ref a4, .ref a6, .ref a8, .ref a10, .ref a12, .ref a14, .ref a16, .ref a18, .ref a20, .ref a22, .int 0, .int w27, .int w28, .int w29, .int w30])) H := hO
  refine lv_aload_n hx hb dX11_law_10 rfl (lv_at hl 1 rfl) ?_
  refine th_get hx hb hts inT11 hown hK hO rfl 0 (by decide) (hts _ (tb_c wd_345)) rfl rfl dX11_law_11 ?_
  have hI := th_I.close hI hG0 hO (ok_15 hq2 hq3 hq5 hq7 hq9 hq11 hq13 hq15 hq17 hq19 hq21 hq23 ⟨by rw [show (0 : Int32).toInt = 0 from by decide]; omega, by rw [show (0 : Int32).toInt = 0 from by decide]; omega⟩ k31)
  obtain ⟨a32, a34, a36, a38, a40, a42, a44, a46, a48, a50, w52, w55, w56, w57, hO, hq33, hq35, hq37, hq39, hq41, hq43, hq45, hq47, hq49, hq51, ⟨k53, k54⟩, k58⟩ := op_6 hI hq2 List.not_mem_nil
  have hI := th_I.weak (a := a1) hI
  refine th_getN hx hb hts inT6 hown hK hN hO rfl 10 (by decide) wn_83 rfl rfl dX11_law_14 ?_
  refine lv_bipush (v := 6) hx hb dX11_law_17 (by decide) ?_
  refine lv_icmp_lt (tgt := 29) hx hb dX11_law_19 (by decide) (fun c59 => ?_) (fun c59 => ?_)
  · skip
    have k60 := iv_lt (X := w52.toInt) (Y := (6)) rfl (by decide) c59
    refine lv_aload_n hx hb dX11_law_29 rfl (lv_at hl 1 rfl) ?_
    have hI := th_I.close hI hq2 hO (ok_6 hq33 hq35 hq37 hq39 hq41 hq43 hq45 hq47 hq49 hq51 ⟨by omega, by omega⟩ k58)
    obtain ⟨a61, a64, a66, a68, a70, a72, a74, a76, a78, a80, a82, w84, w87, w88, w89, w90, hO, hq62, hq63, hq65, hq67, hq69, hq71, hq73, hq75, hq77, hq79, hq81, hq83, ⟨k85, k86⟩, k91⟩ := op_15 hI hG0 List.not_mem_nil
    have hI := th_I.weak (a := h0) hI
    refine th_get hx hb hts inT11 hown hK hO rfl 5 (by decide) (hts _ (tb_c wd_350)) rfl rfl dX11_law_30 ?_
    refine lv_aload_n hx hb dX11_law_33 rfl (lv_at hl 1 rfl) ?_
    refine th_get hx hb hts inT11 hown hK hO rfl 2 (by decide) (hts _ (tb_c wd_347)) rfl rfl dX11_law_34 ?_
    refine lv_iload_n hx hb dX11_law_37 rfl (lv_at hl 0 rfl) ?_
    have hI := th_I.close hI hG0 hO (ok_15 hq62 hq63 hq65 hq67 hq69 hq71 hq73 hq75 hq77 hq79 hq81 hq83 ⟨by omega, by omega⟩ k91)
    refine th_cQ (As := [.ref a64, .int w24]) (rest := []) (n := 2) ⟨hx, hb, hml, hown, hts⟩ (c_X3_read l E D G H.size adK adV a70 hq71 a64 hq65 w24) wd_643 wd_644 wd_645 wd_5 wd_646 ⟨rfl, rfl⟩ (by decide +kernel) ⟨by rw [hR]; exact Nat.le_of_ble_eq_true rfl, by rw [hR]; exact Nat.le_of_ble_eq_true rfl⟩ hI hN hK hWS hCL hS hA hAG (rc_7 hI hq71 List.not_mem_nil) rfl rfl hl.1 rfl (Nat.le_of_ble_eq_true rfl) dX11_law_38 ⟨by rw [hR]; exact Nat.le_of_ble_eq_true rfl, by rw [hR]; exact Nat.le_of_ble_eq_true rfl⟩ (fun r92 G H locs hp hle hAG hI hS => ?_)
    have hG0 := hle _ _ hG0
    have hle0 := hle0.tr hle
    obtain _ | a93 := r92
    · skip
      refine lv_astore_nN (lv' := [(2, .null), (1, .int w24), (0, .ref h0)]) hx hb dX11_law_41 rfl hl (by decide) rfl (fun ls hl => ?_)
      refine lv_aload_n hx hb dX11_law_42 rfl (lv_at hl 2 rfl) ?_
      refine lv_aload_nN hx hb dX11_law_43 rfl (lv_at hl 0 rfl) ?_
      refine lv_ifnonnullN hx hb dX11_law_44 ?_
      refine lv_aload_n hx hb dX11_law_47 rfl (lv_at hl 2 rfl) ?_
      obtain ⟨a96, a99, a101, a103, a105, a107, a109, a111, a113, a115, a117, w119, w122, w123, w124, w125, hO, hq97, hq98, hq100, hq102, hq104, hq106, hq108, hq110, hq112, hq114, hq116, hq118, ⟨k120, k121⟩, k126⟩ := op_15 hI hG0 List.not_mem_nil
      have hI := th_I.weak (a := h0) hI
      refine th_get hx hb hts inT11 hown hK hO rfl 5 (by decide) (hts _ (tb_c wd_350)) rfl rfl dX11_law_48 ?_
      have hI := th_I.close hI hG0 hO (ok_15 hq97 hq98 hq100 hq102 hq104 hq106 hq108 hq110 hq112 hq114 hq116 hq118 ⟨by omega, by omega⟩ k126)
      refine th_xVi (As := []) (rest := [.ref h0]) (n := 0) (d := 0) ⟨hx, hb, hml, hown, hts⟩ (c_X3_stoppedAt l E D G a105 (12) hq106 ) wd_785 wd_786 wd_787 wd_5 wd_788 (by decide +kernel) ⟨by rw [hR]; exact Nat.le_of_ble_eq_true rfl, by rw [hR]; exact Nat.le_of_ble_eq_true rfl⟩ hI hN hK hS hAG (rc_7 hI hq106 List.not_mem_nil) rfl rfl hl.1 rfl (Nat.le_of_ble_eq_true rfl) dX11_law_51 ⟨by rw [hR]; exact Nat.le_of_ble_eq_true rfl, by rw [hR]; exact Nat.le_of_ble_eq_true rfl⟩ (fun r127 H locs hp hI hS => ?_)
      refine lv_goto (tgt := 58) hx hb dX11_law_54 (by decide) ?_
      obtain ⟨a128, a131, a133, a135, a137, a139, a141, a143, a145, a147, a149, w151, w154, w155, w156, w157, hO, hq129, hq130, hq132, hq134, hq136, hq138, hq140, hq142, hq144, hq146, hq148, hq150, ⟨k152, k153⟩, k158⟩ := op_15 hI hG0 List.not_mem_nil
      have hI := th_I.weak (a := h0) hI
      refine th_put (ty := .int) hx hb hts inT11 tyX11 tyX11_ok nmX11 hown hK hO hS (hAG _ _ hG0) rfl 13 (by decide) (hts _ (tb_c wd_358)) rfl rfl (by decide +kernel) rfl rfl (Nat.le_of_ble_eq_true rfl) dX11_law_58 (fun H locs hO oq hS => ?_)
      have hI := th_I.moved hI oq
      have hO : va_at D vwCl (h0, .inr (11, [.ref a128, .ref n, .ref a131, .ref a133, .ref a135, .ref a137, .ref a139, .ref a141, .ref a143, .ref a145, .ref a147, .ref a149, .int w151, .int r127, .int w155, .int w156, .int w157])) H := hO
      refine lv_aload_nN hx hb dX11_law_61 rfl (lv_at hl 0 rfl) ?_
      refine lv_ifnonnullN hx hb dX11_law_62 ?_
      refine lv_aload_n hx hb dX11_law_65 rfl (lv_at hl 2 rfl) ?_
      refine lv_bipush (v := (-6)) hx hb dX11_law_66 (by decide) ?_
      have hI := th_I.close hI hG0 hO (ok_15 hq129 hq130 hq132 hq134 hq136 hq138 hq140 hq142 hq144 hq146 hq148 hq150 ⟨by omega, by omega⟩ k158)
      refine th_xVi (As := [.int (-6)]) (rest := []) (n := 1) (d := 0) ⟨hx, hb, hml, hown, hts⟩ (c_X11_refuse l E D G h0 (n) hG0 (-6)) wd_407 wd_409 wp_0 wd_1 wd_410 (by decide +kernel) ⟨by rw [hR]; exact Nat.le_of_ble_eq_true rfl, by rw [hR]; exact Nat.le_of_ble_eq_true rfl⟩ hI hN hK hS hAG (rc_15 hI hG0 List.not_mem_nil) rfl rfl hl.1 rfl (Nat.le_of_ble_eq_true rfl) dX11_law_68 ⟨by rw [hR]; exact Nat.le_of_ble_eq_true rfl, by rw [hR]; exact Nat.le_of_ble_eq_true rfl⟩ (fun r159 H locs hp hI hS => ?_)
      have hp := hp.symm
      subst hp
      rw [hQ]
      have hpost : True := trivial
      refine W.widen (k := 4) (n := 441) (Nat.le_of_ble_eq_true rfl) (Nat.le_of_ble_eq_true rfl) ?_
      rw [← hAe] at hS ⊢
      exact W.iret (v := (-6)) hx hb hr (fun t ht hW => ⟨⟨(-6), G, rfl, ⟨hpost, hle0, fun r k hr => nA_new (hAe ▸ hAG) hle0 hr⟩, by rw [ht]; exact hI, hN.warm hW, va_K.moved hW.alike hK⟩, hS.F ht⟩) hS.2.2 dX11_law_71
    · skip
      obtain ⟨m95, hq94⟩ := hp _ rfl
      refine lv_astore_n (lv' := [(2, .ref a93), (1, .int w24), (0, .ref h0)]) hx hb dX11_law_41 rfl hl (by decide) rfl (fun ls hl => ?_)
      refine lv_aload_n hx hb dX11_law_42 rfl (lv_at hl 2 rfl) ?_
      refine lv_aload_n hx hb dX11_law_43 rfl (lv_at hl 0 rfl) ?_
      refine lv_ifnonnull (tgt := 57) hx hb dX11_law_44 (by decide) ?_
      refine lv_iconst (v := (-1)) hx hb dX11_law_57 (by decide) ?_
      obtain ⟨a160, a163, a165, a167, a169, a171, a173, a175, a177, a179, a181, w183, w186, w187, w188, w189, hO, hq161, hq162, hq164, hq166, hq168, hq170, hq172, hq174, hq176, hq178, hq180, hq182, ⟨k184, k185⟩, k190⟩ := op_15 hI hG0 List.not_mem_nil
      have hI := th_I.weak (a := h0) hI
      refine th_put (ty := .int) hx hb hts inT11 tyX11 tyX11_ok nmX11 hown hK hO hS (hAG _ _ hG0) rfl 13 (by decide) (hts _ (tb_c wd_358)) rfl rfl (by decide +kernel) rfl rfl (Nat.le_of_ble_eq_true rfl) dX11_law_58 (fun H locs hO oq hS => ?_)
      have hI := th_I.moved hI oq
      have hO : va_at D vwCl (h0, .inr (11, [.ref a160, .ref n, .ref a163, .ref a165, .ref a167, .ref a169, .ref a171, .ref a173, .ref a175, .ref a177, .ref a179, .ref a181, .int w183, .int (-1), .int w187, .int w188, .int w189])) H := hO
      refine lv_aload_n hx hb dX11_law_61 rfl (lv_at hl 0 rfl) ?_
      refine lv_ifnonnull (tgt := 72) hx hb dX11_law_62 (by decide) ?_
      refine lv_aload_n hx hb dX11_law_72 rfl (lv_at hl 2 rfl) ?_
      refine lv_aload_n hx hb dX11_law_73 rfl (lv_at hl 2 rfl) ?_
      refine th_get hx hb hts inT11 hown hK hO rfl 0 (by decide) (hts _ (tb_c wd_345)) rfl rfl dX11_law_74 ?_
      refine lv_aload_n hx hb dX11_law_77 rfl (lv_at hl 0 rfl) ?_
      have hI := th_I.close hI hG0 hO (ok_15 hq161 hq162 hq164 hq166 hq168 hq170 hq172 hq174 hq176 hq178 hq180 hq182 ⟨by omega, by omega⟩ k190)
      refine th_xVi (As := [.ref a93]) (rest := [.ref h0]) (n := 1) (d := 0) ⟨hx, hb, hml, hown, hts⟩ (c_X6_keepLaw l E D G a160 hq161 a93 (m95) hq94) wd_789 wd_790 wd_791 wd_2 wd_792 (by decide +kernel) ⟨by rw [hR]; exact Nat.le_of_ble_eq_true rfl, by rw [hR]; exact Nat.le_of_ble_eq_true rfl⟩ hI hN hK hS hAG (rc_6 hI hq161 List.not_mem_nil) rfl rfl hl.1 rfl (Nat.le_of_ble_eq_true rfl) dX11_law_78 ⟨by rw [hR]; exact Nat.le_of_ble_eq_true rfl, by rw [hR]; exact Nat.le_of_ble_eq_true rfl⟩ (fun r191 H locs hp hI hS => ?_)
      refine th_xVi (As := [.int r191]) (rest := []) (n := 1) (d := 0) ⟨hx, hb, hml, hown, hts⟩ (c_X11_accept l E D G h0 (n) hG0 r191) wd_447 wd_449 wp_3 wd_1 wd_450 (by decide +kernel) ⟨by rw [hR]; exact Nat.le_of_ble_eq_true rfl, by rw [hR]; exact Nat.le_of_ble_eq_true rfl⟩ hI hN hK hS hAG (rc_15 hI hG0 List.not_mem_nil) rfl rfl hl.1 rfl (Nat.le_of_ble_eq_true rfl) dX11_law_81 ⟨by rw [hR]; exact Nat.le_of_ble_eq_true rfl, by rw [hR]; exact Nat.le_of_ble_eq_true rfl⟩ (fun r192 H locs hp hI hS => ?_)
      have hp := hp.symm
      subst hp
      rw [hQ]
      have hpost : True := trivial
      refine W.widen (k := 4) (n := 441) (Nat.le_of_ble_eq_true rfl) (Nat.le_of_ble_eq_true rfl) ?_
      rw [← hAe] at hS ⊢
      exact W.iret (v := r191) hx hb hr (fun t ht hW => ⟨⟨r191, G, rfl, ⟨hpost, hle0, fun r k hr => nA_new (hAe ▸ hAG) hle0 hr⟩, by rw [ht]; exact hI, hN.warm hW, va_K.moved hW.alike hK⟩, hS.F ht⟩) hS.2.2 dX11_law_84
  · skip
    have k193 := iv_nlt (X := w52.toInt) (Y := (6)) rfl (by decide) c59
    refine lv_aload_n hx hb dX11_law_22 rfl (lv_at hl 1 rfl) ?_
    refine lv_bipush (v := (-5)) hx hb dX11_law_23 (by decide) ?_
    have hI := th_I.close hI hq2 hO (ok_6 hq33 hq35 hq37 hq39 hq41 hq43 hq45 hq47 hq49 hq51 ⟨by omega, by omega⟩ k58)
    refine th_xVi (As := [.int (-5)]) (rest := []) (n := 1) (d := 0) ⟨hx, hb, hml, hown, hts⟩ (c_X11_refuse l E D G h0 (n) hG0 (-5)) wd_407 wd_409 wp_0 wd_1 wd_410 (by decide +kernel) ⟨by rw [hR]; exact Nat.le_of_ble_eq_true rfl, by rw [hR]; exact Nat.le_of_ble_eq_true rfl⟩ hI hN hK hS hAG (rc_15 hI hG0 List.not_mem_nil) rfl rfl hl.1 rfl (Nat.le_of_ble_eq_true rfl) dX11_law_25 ⟨by rw [hR]; exact Nat.le_of_ble_eq_true rfl, by rw [hR]; exact Nat.le_of_ble_eq_true rfl⟩ (fun r194 H locs hp hI hS => ?_)
    have hp := hp.symm
    subst hp
    rw [hQ]
    have hpost : True := trivial
    refine W.widen (k := 4) (n := 441) (Nat.le_of_ble_eq_true rfl) (Nat.le_of_ble_eq_true rfl) ?_
    rw [← hAe] at hS ⊢
    exact W.iret (v := (-5)) hx hb hr (fun t ht hW => ⟨⟨(-5), G, rfl, ⟨hpost, hle0, fun r k hr => nA_new (hAe ▸ hAG) hle0 hr⟩, by rw [ht]; exact hI, hN.warm hW, va_K.moved hW.alike hK⟩, hS.F ht⟩) hS.2.2 dX11_law_28
