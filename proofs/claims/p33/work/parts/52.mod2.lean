theorem wp_50 : Cond.selects RX12 yX12_sumOf yX12_sumOf ∈ TB := tv 50 (by decide +kernel) (by decide +kernel)
theorem wp_51 : Cond.selects RX12 yX12_termOf yX12_termOf ∈ TB := tv 51 (by decide +kernel) (by decide +kernel)
theorem wp_52 : Cond.selects RX12 yX12_partOf yX12_partOf ∈ TB := tv 52 (by decide +kernel) (by decide +kernel)
theorem wp_53 : Cond.selects RX12 yX12_passes0 yX12_passes0 ∈ TB := tv 53 (by decide +kernel) (by decide +kernel)
theorem wp_54 : Cond.selects RX12 yX12_bounded yX12_bounded ∈ TB := tv 54 (by decide +kernel) (by decide +kernel)
theorem wp_55 : Cond.selects RX12 yX12_testOf yX12_testOf ∈ TB := tv 55 (by decide +kernel) (by decide +kernel)
theorem wp_56 : Cond.selects RX12 yX12_bothOf yX12_bothOf ∈ TB := tv 56 (by decide +kernel) (by decide +kernel)
theorem wp_57 : Cond.selects RX12 yX12_plainOf yX12_plainOf ∈ TB := tv 57 (by decide +kernel) (by decide +kernel)
theorem wp_58 : Cond.selects RX12 yX12_positiveOf yX12_positiveOf ∈ TB := tv 58 (by decide +kernel) (by decide +kernel)
theorem wd_1483 : (Cond.methodLink RX12 (247 : Nat) yX12_sumOf) ∈ TB := tw 1483 (by decide +kernel) (by decide +kernel)
theorem wd_1485 : (Jvm.Cond.instanceMethod yX12_sumOf) ∈ TB := tw 1485 (by decide +kernel) (by decide +kernel)
theorem wd_1486 : (Cond.code yX12_sumOf cX12_sumOf 7 (Option.some Jvm.ClassFile.FieldType.long)) ∈ TB := tw 1486 (by decide +kernel) (by decide +kernel)
theorem wd_1487 : (Cond.methodLink RX12 (233 : Nat) yX12_termOf) ∈ TB := tw 1487 (by decide +kernel) (by decide +kernel)
theorem wd_1489 : (Jvm.Cond.instanceMethod yX12_termOf) ∈ TB := tw 1489 (by decide +kernel) (by decide +kernel)
theorem wd_1490 : (Cond.code yX12_termOf cX12_termOf 7 (Option.some Jvm.ClassFile.FieldType.long)) ∈ TB := tw 1490 (by decide +kernel) (by decide +kernel)
theorem wd_1491 : (Cond.methodLink RX12 (241 : Nat) yX12_partOf) ∈ TB := tw 1491 (by decide +kernel) (by decide +kernel)
theorem wd_1493 : (Jvm.Cond.instanceMethod yX12_partOf) ∈ TB := tw 1493 (by decide +kernel) (by decide +kernel)
theorem wd_1494 : (Cond.code yX12_partOf cX12_partOf 4 (Option.some Jvm.ClassFile.FieldType.long)) ∈ TB := tw 1494 (by decide +kernel) (by decide +kernel)
theorem wd_1495 : (Cond.methodLink RX12 (194 : Nat) yX12_sign) ∈ TB := tw 1495 (by decide +kernel) (by decide +kernel)
theorem wd_1496 : (Jvm.Cond.static yX12_sign) ∈ TB := tw 1496 (by decide +kernel) (by decide +kernel)
theorem wd_1497 : (Cond.code yX12_sign cX12_sign 1 (Option.some Jvm.ClassFile.FieldType.int)) ∈ TB := tw 1497 (by decide +kernel) (by decide +kernel)
theorem wd_1498 : (Cond.methodLink RX12 (244 : Nat) yX12_passes0) ∈ TB := tw 1498 (by decide +kernel) (by decide +kernel)
theorem wd_1500 : (Jvm.Cond.instanceMethod yX12_passes0) ∈ TB := tw 1500 (by decide +kernel) (by decide +kernel)
theorem wd_1501 : (Cond.code yX12_passes0 cX12_passes0 3 (Option.some Jvm.ClassFile.FieldType.boolean)) ∈ TB := tw 1501 (by decide +kernel) (by decide +kernel)
theorem wd_1502 : (Cond.methodLink RX12 (237 : Nat) yX12_bounded) ∈ TB := tw 1502 (by decide +kernel) (by decide +kernel)
theorem wd_1504 : (Jvm.Cond.instanceMethod yX12_bounded) ∈ TB := tw 1504 (by decide +kernel) (by decide +kernel)
theorem wd_1505 : (Cond.code yX12_bounded cX12_bounded 4 (Option.some Jvm.ClassFile.FieldType.long)) ∈ TB := tw 1505 (by decide +kernel) (by decide +kernel)
theorem wd_1508 : (Cond.methodLink RX12 (260 : Nat) yX12_testOf) ∈ TB := tw 1508 (by decide +kernel) (by decide +kernel)
theorem wd_1510 : (Jvm.Cond.instanceMethod yX12_testOf) ∈ TB := tw 1510 (by decide +kernel) (by decide +kernel)
theorem wd_1511 : (Cond.code yX12_testOf cX12_testOf 4 (Option.some Jvm.ClassFile.FieldType.boolean)) ∈ TB := tw 1511 (by decide +kernel) (by decide +kernel)
theorem wd_1512 : (Cond.methodLink RX12 (250 : Nat) yX12_bothOf) ∈ TB := tw 1512 (by decide +kernel) (by decide +kernel)
theorem wd_1514 : (Jvm.Cond.instanceMethod yX12_bothOf) ∈ TB := tw 1514 (by decide +kernel) (by decide +kernel)
theorem wd_1515 : (Cond.code yX12_bothOf cX12_bothOf 4 (Option.some Jvm.ClassFile.FieldType.boolean)) ∈ TB := tw 1515 (by decide +kernel) (by decide +kernel)
theorem wd_1516 : (Cond.methodLink RX12 (254 : Nat) yX12_plainOf) ∈ TB := tw 1516 (by decide +kernel) (by decide +kernel)
theorem wd_1518 : (Jvm.Cond.instanceMethod yX12_plainOf) ∈ TB := tw 1518 (by decide +kernel) (by decide +kernel)
theorem wd_1519 : (Cond.code yX12_plainOf cX12_plainOf 3 (Option.some Jvm.ClassFile.FieldType.boolean)) ∈ TB := tw 1519 (by decide +kernel) (by decide +kernel)
theorem wd_1520 : (Cond.methodLink RX12 (257 : Nat) yX12_positiveOf) ∈ TB := tw 1520 (by decide +kernel) (by decide +kernel)
theorem wd_1522 : (Jvm.Cond.instanceMethod yX12_positiveOf) ∈ TB := tw 1522 (by decide +kernel) (by decide +kernel)
theorem wd_1523 : (Cond.code yX12_positiveOf cX12_positiveOf 7 (Option.some Jvm.ClassFile.FieldType.boolean)) ∈ TB := tw 1523 (by decide +kernel) (by decide +kernel)
theorem dX12_termOf_0g : (decode cX12_termOf 0 = .ok (.aload_n 0, 1)) ∧ (decode cX12_termOf 1 = .ok (.iload_n 1, 1)) ∧ (decode cX12_termOf 2 = .ok (.invokevirtual 241, 3)) ∧ (decode cX12_termOf 5 = .ok (.lstore_n 2, 1)) ∧ (decode cX12_termOf 6 = .ok (.aload_n 0, 1)) ∧ (decode cX12_termOf 7 = .ok (.aload_n 0, 1)) ∧ (decode cX12_termOf 8 = .ok (.getfield 219, 3)) ∧ (decode cX12_termOf 11 = .ok (.invokevirtual 222, 3)) ∧ (decode cX12_termOf 14 = .ok (.bipush 42, 2)) ∧ (decode cX12_termOf 16 = .ok (.invokestatic 194, 3)) := by decide +kernel
theorem dX12_termOf_0 : decode cX12_termOf 0 = .ok (.aload_n 0, 1) := dX12_termOf_0g.1
theorem dX12_termOf_1 : decode cX12_termOf 1 = .ok (.iload_n 1, 1) := dX12_termOf_0g.2.1
theorem dX12_termOf_2 : decode cX12_termOf 2 = .ok (.invokevirtual 241, 3) := dX12_termOf_0g.2.2.1
theorem dX12_termOf_5 : decode cX12_termOf 5 = .ok (.lstore_n 2, 1) := dX12_termOf_0g.2.2.2.1
theorem dX12_termOf_6 : decode cX12_termOf 6 = .ok (.aload_n 0, 1) := dX12_termOf_0g.2.2.2.2.1
theorem dX12_termOf_7 : decode cX12_termOf 7 = .ok (.aload_n 0, 1) := dX12_termOf_0g.2.2.2.2.2.1
theorem dX12_termOf_8 : decode cX12_termOf 8 = .ok (.getfield 219, 3) := dX12_termOf_0g.2.2.2.2.2.2.1
theorem dX12_termOf_11 : decode cX12_termOf 11 = .ok (.invokevirtual 222, 3) := dX12_termOf_0g.2.2.2.2.2.2.2.1
theorem dX12_termOf_14 : decode cX12_termOf 14 = .ok (.bipush 42, 2) := dX12_termOf_0g.2.2.2.2.2.2.2.2.1
theorem dX12_termOf_16 : decode cX12_termOf 16 = .ok (.invokestatic 194, 3) := dX12_termOf_0g.2.2.2.2.2.2.2.2.2
theorem dX12_termOf_19g : (decode cX12_termOf 19 = .ok (.if_icmp .eq 35, 3)) ∧ (decode cX12_termOf 22 = .ok (.aload_n 0, 1)) ∧ (decode cX12_termOf 23 = .ok (.aload_n 0, 1)) ∧ (decode cX12_termOf 24 = .ok (.getfield 219, 3)) ∧ (decode cX12_termOf 27 = .ok (.invokevirtual 222, 3)) ∧ (decode cX12_termOf 30 = .ok (.bipush 47, 2)) ∧ (decode cX12_termOf 32 = .ok (.invokestatic 194, 3)) ∧ (decode cX12_termOf 35 = .ok (.if_icmp .eq 19, 3)) ∧ (decode cX12_termOf 38 = .ok (.aload_n 0, 1)) ∧ (decode cX12_termOf 39 = .ok (.aload_n 0, 1)) := by decide +kernel
theorem dX12_termOf_19 : decode cX12_termOf 19 = .ok (.if_icmp .eq 35, 3) := dX12_termOf_19g.1
theorem dX12_termOf_22 : decode cX12_termOf 22 = .ok (.aload_n 0, 1) := dX12_termOf_19g.2.1
theorem dX12_termOf_23 : decode cX12_termOf 23 = .ok (.aload_n 0, 1) := dX12_termOf_19g.2.2.1
theorem dX12_termOf_24 : decode cX12_termOf 24 = .ok (.getfield 219, 3) := dX12_termOf_19g.2.2.2.1
theorem dX12_termOf_27 : decode cX12_termOf 27 = .ok (.invokevirtual 222, 3) := dX12_termOf_19g.2.2.2.2.1
theorem dX12_termOf_30 : decode cX12_termOf 30 = .ok (.bipush 47, 2) := dX12_termOf_19g.2.2.2.2.2.1
theorem dX12_termOf_32 : decode cX12_termOf 32 = .ok (.invokestatic 194, 3) := dX12_termOf_19g.2.2.2.2.2.2.1
theorem dX12_termOf_35 : decode cX12_termOf 35 = .ok (.if_icmp .eq 19, 3) := dX12_termOf_19g.2.2.2.2.2.2.2.1
theorem dX12_termOf_38 : decode cX12_termOf 38 = .ok (.aload_n 0, 1) := dX12_termOf_19g.2.2.2.2.2.2.2.2.1
theorem dX12_termOf_39 : decode cX12_termOf 39 = .ok (.aload_n 0, 1) := dX12_termOf_19g.2.2.2.2.2.2.2.2.2
theorem dX12_termOf_40g : (decode cX12_termOf 40 = .ok (.getfield 219, 3)) ∧ (decode cX12_termOf 43 = .ok (.invokevirtual 222, 3)) ∧ (decode cX12_termOf 46 = .ok (.bipush 37, 2)) ∧ (decode cX12_termOf 48 = .ok (.invokestatic 194, 3)) ∧ (decode cX12_termOf 51 = .ok (.if_icmp .ne 117, 3)) ∧ (decode cX12_termOf 54 = .ok (.aload_n 0, 1)) ∧ (decode cX12_termOf 55 = .ok (.aload_n 0, 1)) ∧ (decode cX12_termOf 56 = .ok (.getfield 219, 3)) ∧ (decode cX12_termOf 59 = .ok (.invokevirtual 222, 3)) ∧ (decode cX12_termOf 62 = .ok (.istore 4, 2)) := by decide +kernel
theorem dX12_termOf_40 : decode cX12_termOf 40 = .ok (.getfield 219, 3) := dX12_termOf_40g.1
theorem dX12_termOf_43 : decode cX12_termOf 43 = .ok (.invokevirtual 222, 3) := dX12_termOf_40g.2.1
theorem dX12_termOf_46 : decode cX12_termOf 46 = .ok (.bipush 37, 2) := dX12_termOf_40g.2.2.1
theorem dX12_termOf_48 : decode cX12_termOf 48 = .ok (.invokestatic 194, 3) := dX12_termOf_40g.2.2.2.1
theorem dX12_termOf_51 : decode cX12_termOf 51 = .ok (.if_icmp .ne 117, 3) := dX12_termOf_40g.2.2.2.2.1
theorem dX12_termOf_54 : decode cX12_termOf 54 = .ok (.aload_n 0, 1) := dX12_termOf_40g.2.2.2.2.2.1
theorem dX12_termOf_55 : decode cX12_termOf 55 = .ok (.aload_n 0, 1) := dX12_termOf_40g.2.2.2.2.2.2.1
theorem dX12_termOf_56 : decode cX12_termOf 56 = .ok (.getfield 219, 3) := dX12_termOf_40g.2.2.2.2.2.2.2.1
theorem dX12_termOf_59 : decode cX12_termOf 59 = .ok (.invokevirtual 222, 3) := dX12_termOf_40g.2.2.2.2.2.2.2.2.1
theorem dX12_termOf_62 : decode cX12_termOf 62 = .ok (.istore 4, 2) := dX12_termOf_40g.2.2.2.2.2.2.2.2.2
theorem dX12_termOf_64g : (decode cX12_termOf 64 = .ok (.aload_n 0, 1)) ∧ (decode cX12_termOf 65 = .ok (.dup, 1)) ∧ (decode cX12_termOf 66 = .ok (.getfield 219, 3)) ∧ (decode cX12_termOf 69 = .ok (.iconst 1, 1)) ∧ (decode cX12_termOf 70 = .ok (.iadd, 1)) ∧ (decode cX12_termOf 71 = .ok (.putfield 219, 3)) ∧ (decode cX12_termOf 74 = .ok (.aload_n 0, 1)) ∧ (decode cX12_termOf 75 = .ok (.iload_n 1, 1)) ∧ (decode cX12_termOf 76 = .ok (.invokevirtual 241, 3)) ∧ (decode cX12_termOf 79 = .ok (.lstore 5, 2)) := by decide +kernel
theorem dX12_termOf_64 : decode cX12_termOf 64 = .ok (.aload_n 0, 1) := dX12_termOf_64g.1
theorem dX12_termOf_65 : decode cX12_termOf 65 = .ok (.dup, 1) := dX12_termOf_64g.2.1
theorem dX12_termOf_66 : decode cX12_termOf 66 = .ok (.getfield 219, 3) := dX12_termOf_64g.2.2.1
theorem dX12_termOf_69 : decode cX12_termOf 69 = .ok (.iconst 1, 1) := dX12_termOf_64g.2.2.2.1
theorem dX12_termOf_70 : decode cX12_termOf 70 = .ok (.iadd, 1) := dX12_termOf_64g.2.2.2.2.1
theorem dX12_termOf_71 : decode cX12_termOf 71 = .ok (.putfield 219, 3) := dX12_termOf_64g.2.2.2.2.2.1
theorem dX12_termOf_74 : decode cX12_termOf 74 = .ok (.aload_n 0, 1) := dX12_termOf_64g.2.2.2.2.2.2.1
theorem dX12_termOf_75 : decode cX12_termOf 75 = .ok (.iload_n 1, 1) := dX12_termOf_64g.2.2.2.2.2.2.2.1
theorem dX12_termOf_76 : decode cX12_termOf 76 = .ok (.invokevirtual 241, 3) := dX12_termOf_64g.2.2.2.2.2.2.2.2.1
theorem dX12_termOf_79 : decode cX12_termOf 79 = .ok (.lstore 5, 2) := dX12_termOf_64g.2.2.2.2.2.2.2.2.2
theorem dX12_termOf_81g : (decode cX12_termOf 81 = .ok (.iload 4, 2)) ∧ (decode cX12_termOf 83 = .ok (.bipush 42, 2)) ∧ (decode cX12_termOf 85 = .ok (.invokestatic 194, 3)) ∧ (decode cX12_termOf 88 = .ok (.if_icmp .eq 33, 3)) ∧ (decode cX12_termOf 91 = .ok (.lload 5, 2)) ∧ (decode cX12_termOf 93 = .ok (.lconst 0, 1)) ∧ (decode cX12_termOf 94 = .ok (.lcmp, 1)) ∧ (decode cX12_termOf 95 = .ok (.ifCond .ne 26, 3)) ∧ (decode cX12_termOf 98 = .ok (.aload_n 0, 1)) ∧ (decode cX12_termOf 99 = .ok (.aload_n 0, 1)) := by decide +kernel
theorem dX12_termOf_81 : decode cX12_termOf 81 = .ok (.iload 4, 2) := dX12_termOf_81g.1
theorem dX12_termOf_83 : decode cX12_termOf 83 = .ok (.bipush 42, 2) := dX12_termOf_81g.2.1
theorem dX12_termOf_85 : decode cX12_termOf 85 = .ok (.invokestatic 194, 3) := dX12_termOf_81g.2.2.1
theorem dX12_termOf_88 : decode cX12_termOf 88 = .ok (.if_icmp .eq 33, 3) := dX12_termOf_81g.2.2.2.1
theorem dX12_termOf_91 : decode cX12_termOf 91 = .ok (.lload 5, 2) := dX12_termOf_81g.2.2.2.2.1
theorem dX12_termOf_93 : decode cX12_termOf 93 = .ok (.lconst 0, 1) := dX12_termOf_81g.2.2.2.2.2.1
theorem dX12_termOf_94 : decode cX12_termOf 94 = .ok (.lcmp, 1) := dX12_termOf_81g.2.2.2.2.2.2.1
theorem dX12_termOf_95 : decode cX12_termOf 95 = .ok (.ifCond .ne 26, 3) := dX12_termOf_81g.2.2.2.2.2.2.2.1
theorem dX12_termOf_98 : decode cX12_termOf 98 = .ok (.aload_n 0, 1) := dX12_termOf_81g.2.2.2.2.2.2.2.2.1
theorem dX12_termOf_99 : decode cX12_termOf 99 = .ok (.aload_n 0, 1) := dX12_termOf_81g.2.2.2.2.2.2.2.2.2
theorem dX12_termOf_100g : (decode cX12_termOf 100 = .ok (.getfield 229, 3)) ∧ (decode cX12_termOf 103 = .ok (.ifCond .ne 7, 3)) ∧ (decode cX12_termOf 106 = .ok (.iload_n 1, 1)) ∧ (decode cX12_termOf 107 = .ok (.ifCond .eq 7, 3)) ∧ (decode cX12_termOf 110 = .ok (.iconst 1, 1)) ∧ (decode cX12_termOf 111 = .ok (.goto 4, 3)) ∧ (decode cX12_termOf 114 = .ok (.iconst 0, 1)) ∧ (decode cX12_termOf 115 = .ok (.putfield 229, 3)) ∧ (decode cX12_termOf 118 = .ok (.lconst 1, 1)) ∧ (decode cX12_termOf 119 = .ok (.lstore 5, 2)) := by decide +kernel
theorem dX12_termOf_100 : decode cX12_termOf 100 = .ok (.getfield 229, 3) := dX12_termOf_100g.1
theorem dX12_termOf_103 : decode cX12_termOf 103 = .ok (.ifCond .ne 7, 3) := dX12_termOf_100g.2.1
theorem dX12_termOf_106 : decode cX12_termOf 106 = .ok (.iload_n 1, 1) := dX12_termOf_100g.2.2.1
theorem dX12_termOf_107 : decode cX12_termOf 107 = .ok (.ifCond .eq 7, 3) := dX12_termOf_100g.2.2.2.1
theorem dX12_termOf_110 : decode cX12_termOf 110 = .ok (.iconst 1, 1) := dX12_termOf_100g.2.2.2.2.1
theorem dX12_termOf_111 : decode cX12_termOf 111 = .ok (.goto 4, 3) := dX12_termOf_100g.2.2.2.2.2.1
theorem dX12_termOf_114 : decode cX12_termOf 114 = .ok (.iconst 0, 1) := dX12_termOf_100g.2.2.2.2.2.2.1
theorem dX12_termOf_115 : decode cX12_termOf 115 = .ok (.putfield 229, 3) := dX12_termOf_100g.2.2.2.2.2.2.2.1
theorem dX12_termOf_118 : decode cX12_termOf 118 = .ok (.lconst 1, 1) := dX12_termOf_100g.2.2.2.2.2.2.2.2.1
theorem dX12_termOf_119 : decode cX12_termOf 119 = .ok (.lstore 5, 2) := dX12_termOf_100g.2.2.2.2.2.2.2.2.2
theorem dX12_termOf_121g : (decode cX12_termOf 121 = .ok (.aload_n 0, 1)) ∧ (decode cX12_termOf 122 = .ok (.iload 4, 2)) ∧ (decode cX12_termOf 124 = .ok (.bipush 42, 2)) ∧ (decode cX12_termOf 126 = .ok (.invokestatic 194, 3)) ∧ (decode cX12_termOf 129 = .ok (.if_icmp .ne 10, 3)) ∧ (decode cX12_termOf 132 = .ok (.lload_n 2, 1)) ∧ (decode cX12_termOf 133 = .ok (.lload 5, 2)) ∧ (decode cX12_termOf 135 = .ok (.lmul, 1)) ∧ (decode cX12_termOf 136 = .ok (.goto 24, 3)) ∧ (decode cX12_termOf 139 = .ok (.iload 4, 2)) := by decide +kernel
theorem dX12_termOf_121 : decode cX12_termOf 121 = .ok (.aload_n 0, 1) := dX12_termOf_121g.1
theorem dX12_termOf_122 : decode cX12_termOf 122 = .ok (.iload 4, 2) := dX12_termOf_121g.2.1
theorem dX12_termOf_124 : decode cX12_termOf 124 = .ok (.bipush 42, 2) := dX12_termOf_121g.2.2.1
theorem dX12_termOf_126 : decode cX12_termOf 126 = .ok (.invokestatic 194, 3) := dX12_termOf_121g.2.2.2.1
theorem dX12_termOf_129 : decode cX12_termOf 129 = .ok (.if_icmp .ne 10, 3) := dX12_termOf_121g.2.2.2.2.1
theorem dX12_termOf_132 : decode cX12_termOf 132 = .ok (.lload_n 2, 1) := dX12_termOf_121g.2.2.2.2.2.1
theorem dX12_termOf_133 : decode cX12_termOf 133 = .ok (.lload 5, 2) := dX12_termOf_121g.2.2.2.2.2.2.1
theorem dX12_termOf_135 : decode cX12_termOf 135 = .ok (.lmul, 1) := dX12_termOf_121g.2.2.2.2.2.2.2.1
theorem dX12_termOf_136 : decode cX12_termOf 136 = .ok (.goto 24, 3) := dX12_termOf_121g.2.2.2.2.2.2.2.2.1
theorem dX12_termOf_139 : decode cX12_termOf 139 = .ok (.iload 4, 2) := dX12_termOf_121g.2.2.2.2.2.2.2.2.2
theorem dX12_termOf_141g : (decode cX12_termOf 141 = .ok (.bipush 47, 2)) ∧ (decode cX12_termOf 143 = .ok (.invokestatic 194, 3)) ∧ (decode cX12_termOf 146 = .ok (.if_icmp .ne 10, 3)) ∧ (decode cX12_termOf 149 = .ok (.lload_n 2, 1)) ∧ (decode cX12_termOf 150 = .ok (.lload 5, 2)) ∧ (decode cX12_termOf 152 = .ok (.ldiv, 1)) ∧ (decode cX12_termOf 153 = .ok (.goto 7, 3)) ∧ (decode cX12_termOf 156 = .ok (.lload_n 2, 1)) ∧ (decode cX12_termOf 157 = .ok (.lload 5, 2)) ∧ (decode cX12_termOf 159 = .ok (.lrem, 1)) := by decide +kernel
theorem dX12_termOf_141 : decode cX12_termOf 141 = .ok (.bipush 47, 2) := dX12_termOf_141g.1
theorem dX12_termOf_143 : decode cX12_termOf 143 = .ok (.invokestatic 194, 3) := dX12_termOf_141g.2.1
theorem dX12_termOf_146 : decode cX12_termOf 146 = .ok (.if_icmp .ne 10, 3) := dX12_termOf_141g.2.2.1
theorem dX12_termOf_149 : decode cX12_termOf 149 = .ok (.lload_n 2, 1) := dX12_termOf_141g.2.2.2.1
theorem dX12_termOf_150 : decode cX12_termOf 150 = .ok (.lload 5, 2) := dX12_termOf_141g.2.2.2.2.1
theorem dX12_termOf_152 : decode cX12_termOf 152 = .ok (.ldiv, 1) := dX12_termOf_141g.2.2.2.2.2.1
theorem dX12_termOf_153 : decode cX12_termOf 153 = .ok (.goto 7, 3) := dX12_termOf_141g.2.2.2.2.2.2.1
theorem dX12_termOf_156 : decode cX12_termOf 156 = .ok (.lload_n 2, 1) := dX12_termOf_141g.2.2.2.2.2.2.2.1
theorem dX12_termOf_157 : decode cX12_termOf 157 = .ok (.lload 5, 2) := dX12_termOf_141g.2.2.2.2.2.2.2.2.1
theorem dX12_termOf_159 : decode cX12_termOf 159 = .ok (.lrem, 1) := dX12_termOf_141g.2.2.2.2.2.2.2.2.2
theorem dX12_termOf_160g : (decode cX12_termOf 160 = .ok (.iload_n 1, 1)) ∧ (decode cX12_termOf 161 = .ok (.invokevirtual 237, 3)) ∧ (decode cX12_termOf 164 = .ok (.lstore_n 2, 1)) ∧ (decode cX12_termOf 165 = .ok (.goto (-159), 3)) ∧ (decode cX12_termOf 168 = .ok (.lload_n 2, 1)) ∧ (decode cX12_termOf 169 = .ok (.lreturn, 1)) := by decide +kernel
theorem dX12_termOf_160 : decode cX12_termOf 160 = .ok (.iload_n 1, 1) := dX12_termOf_160g.1
theorem dX12_termOf_161 : decode cX12_termOf 161 = .ok (.invokevirtual 237, 3) := dX12_termOf_160g.2.1
theorem dX12_termOf_164 : decode cX12_termOf 164 = .ok (.lstore_n 2, 1) := dX12_termOf_160g.2.2.1
theorem dX12_termOf_165 : decode cX12_termOf 165 = .ok (.goto (-159), 3) := dX12_termOf_160g.2.2.2.1
theorem dX12_termOf_168 : decode cX12_termOf 168 = .ok (.lload_n 2, 1) := dX12_termOf_160g.2.2.2.2.1
theorem dX12_termOf_169 : decode cX12_termOf 169 = .ok (.lreturn, 1) := dX12_termOf_160g.2.2.2.2.2
set_option maxHeartbeats 4000000 in
set_option maxRecDepth 100000 in
theorem c_X12_termOf (l : Launch) (E : Nat → Nat) (D : va_G) (G : th_G) (k : Nat) (h0 : Nat) (hG0 : G h0 = some (10, 0)) (x1 : Int32) (hx1 : (0 : Int) ≤ x1.toInt ∧ x1.toInt ≤ 1) (ff : Nat → Int32) (tt dd pp qq : Nat) (hgr : Gr (kC ff tt) 1 dd pp qq) (hk : 8 ≤ dd + k) (hpart : ∀ (h0 : Nat) (hG0 : G h0 = some (10, 0)) (x1 : Int32) (hx1 : (0 : Int) ≤ x1.toInt ∧ x1.toInt ≤ 1) (ff : Nat → Int32) (tt dd pp qq : Nat) (hgr : Gr (kC ff tt) 0 dd pp qq) (hk : 8 ≤ dd + k), Met l yX12_partOf (tb (.code yX12_partOf cX12_partOf 4 (some .long))) (rm (2 + 3 * k)) (va_Pc [.ref h0, .int x1] (PX E D G (fun H => EV E D G h0 ff tt pp H))) (QXl E D G (fun r H => EV E D G h0 ff tt qq H)) 0 0 (th_A G)) : Met l yX12_termOf (tb (.code yX12_termOf cX12_termOf 7 (some .long))) (rm (3 + 3 * k)) (va_Pc [.ref h0, .int x1] (PX E D G (fun H => EV E D G h0 ff tt pp H))) (QXl E D G (fun r H => EV E D G h0 ff tt qq H)) 0 0 (th_A G) := by
  refine Met.ofW (cc := cX12_termOf) (maxL := 7) (ret := (some .long)) (by decide) rfl ?_
  intro p e s m args below meth c s₁ B hml hv
  obtain ⟨hav, ⟨hI, hN, hK⟩, hX⟩ := hv
  have hx := B.exec
  have hb := B.bytes
  have hr := B.returns
  have hts := atoms_spec (ws := tb (.code yX12_termOf cX12_termOf 7 (some .long))) B.pre
  have hown : s.vm.findClass RX12 = some m.cls := findClass_of_methodNamed B.named
  have hlocks := B.notSynchronized
  have hS : va_S (th_A G) s.heap s.heap [] := va_S.rf
  have hl := lv_entry ([.ref h0, .int x1]) (n := 7) (Nat.le_of_ble_eq_true rfl)
  rw [show entryFrame m args 7 = entryFrame m ([.ref h0, .int x1] : List Value).toArray 7 from by rw [hav], lg_entry_eq]
  generalize (lg_sl ([.ref h0, .int x1]) ++ List.replicate (7 - (lg_sl ([.ref h0, .int x1])).length) Slot.unset).toArray = ls at hl ⊢
  have hl : lv_has ls 7 [(0, .ref h0), (1, .int x1)] := hl
  generalize hR : (headSpec (tb (.code yX12_termOf cX12_termOf 7 (some .long))) (rm (3 + 3 * k))).room = R
  have hR := hR.symm
  generalize hQ : MQ below (QXl E D G (fun r H => EV E D G h0 ff tt qq H)) args s 0 0 (th_A G) = QF
  have hQ := hQ.symm
  obtain ⟨hkf, ht, hT, k9, ⟨qq1, hf2, hq3, hA4⟩, ⟨w5, hg6, k10⟩, ⟨w7, hg8, k11⟩⟩ := hX
  obtain ⟨m0, h00, h07⟩ := g1_o hgr
  have hlt0 := Gr.lt kC_end (by decide) h00
  have hle0 := Gr.le kC_end (by decide) hlt0.2 h07
  have J_6 : ∀ (nn : Nat) (H : Heap) (locs : List Loc) (ls : Array Slot) (l7104 : Int64) (mm : Nat), (Int.toNat (((qq : Nat) : Int) - ((mm : Nat) : Int)) = nn) → lv_has ls 7 [(2, .long l7104), (0, .ref h0), (1, .int x1)] → ((0 : Int) ≤ x1.toInt ∧ x1.toInt ≤ 1) → (mm ≤ kT ff tt) → (Gr (kC ff tt) 7 dd mm qq) → (EV E D G h0 ff tt mm H) → th_I (okM E) D G [] H → va_S (th_A G) s.heap H locs → W p l e R s m args below meth c H locs 0 0 QF (F0 m 6 ls []) := by
    intro nn
    induction nn using Nat.strongRecOn with
    | ind nn ih_6 =>
      intro H locs ls l7104 mm hm hl k7105 hmT hL hE hI hS
      obtain ⟨hkf, ht, hT, k7114, ⟨qq7106, hf7107, hq7108, hA7109⟩, ⟨w7110, hg7111, k7115⟩, ⟨w7112, hg7113, k7116⟩⟩ := hE
      have hleL := Gr.le kC_end (by decide) hmT hL
      refine lv_aload_n hx hb dX12_termOf_6 rfl (lv_at hl 1 rfl) ?_
      refine lv_aload_n hx hb dX12_termOf_7 rfl (lv_at hl 1 rfl) ?_
      refine gmI hx hb hts inT12 hown hK hI List.not_mem_nil hG0 19 (by decide) (hts _ (tb_c wd_1252)) rfl rfl dX12_termOf_8 (fun w7117 hg7118 k7119 k7120 => ?_)
      obtain rfl := gf.uniq (by decide) hg7111 hg7118
      refine mr_i (As := [.int w7110]) (rest := []) (n := 1) (d := 0) ⟨hx, hb, hml, hown, hts⟩ (c_X12_codeAt l E D G H h0 hG0 w7110 ⟨by omega, by omega⟩ ff tt mm mm ⟨hkf, ht, hT, by omega, ⟨qq7106, hf7107, hq7108, hA7109⟩, ⟨w7110, hg7111, by omega⟩, ⟨w7112, hg7113, by omega⟩⟩ (by omega)) wd_1479 wd_1481 wp_49 wd_13 wd_1482 (by decide +kernel) ⟨by rw [hR]; show 0 + 1 ≤ 3 + 3 * k; omega, by rw [hR]; show 8 + (2 + 11) + 40 * (0) ≤ 40 * (3 + 3 * k); omega⟩ hI hN hK hS hG0 rfl hl.1 rfl (Nat.le_of_ble_eq_true rfl) dX12_termOf_11 ⟨Nat.zero_le _, Nat.zero_le _⟩ (fun r7121 locs hp hS => ?_)
      have hc7122 := hp
      refine lv_bipush (v := 42) hx hb dX12_termOf_14 (by decide) ?_
      refine th_cSs (As := [.int 42]) (rest := [.int r7121]) (n := 1) (d := 0) ⟨hx, hb, hml, hown, hts⟩ (c_X12_sign l H 42) wd_1495 wd_1496 wd_13 wd_1497 (by decide +kernel) ⟨by rw [hR]; show 0 + 1 ≤ 3 + 3 * k; omega, by rw [hR]; show 8 + (1 + 11) + 40 * (0) ≤ 40 * (3 + 3 * k); omega⟩ hN hS rfl hl.1 rfl (Nat.le_of_ble_eq_true rfl) dX12_termOf_16 ⟨Nat.zero_le _, Nat.zero_le _⟩ (fun r7123 locs hp hS => ?_)
      obtain rfl : r7123 = 142 := hp.trans (by decide)
      have k7124 := iv_lo r7121
      have k7125 := iv_hi r7121
      refine lv_icmp_eq (tgt := 54) hx hb dX12_termOf_19 (by decide) (fun c7126 => ?_) (fun c7126 => ?_)
      · skip
        have k7127 := iv_eq (X := r7121.toInt) (Y := (142)) rfl (by decide) c7126
        obtain ⟨m2, h1, hL2⟩ := g7_m hL (by omega)
        have hlt2 := Gr.lt kC_end (by decide) h1
        have hle2 := Gr.le kC_end (by decide) hlt2.2 hL2
        refine lv_aload_n hx hb dX12_termOf_54 rfl (lv_at hl 1 rfl) ?_
        refine lv_aload_n hx hb dX12_termOf_55 rfl (lv_at hl 1 rfl) ?_
        refine gmI hx hb hts inT12 hown hK hI List.not_mem_nil hG0 19 (by decide) (hts _ (tb_c wd_1252)) rfl rfl dX12_termOf_56 (fun w7128 hg7129 k7130 k7131 => ?_)
        obtain rfl := gf.uniq (by decide) hg7111 hg7129
        refine mr_i (As := [.int w7110]) (rest := []) (n := 1) (d := 0) ⟨hx, hb, hml, hown, hts⟩ (c_X12_codeAt l E D G H h0 hG0 w7110 ⟨by omega, by omega⟩ ff tt mm mm ⟨hkf, ht, hT, by omega, ⟨qq7106, hf7107, hq7108, hA7109⟩, ⟨w7110, hg7111, by omega⟩, ⟨w7112, hg7113, by omega⟩⟩ (by omega)) wd_1479 wd_1481 wp_49 wd_13 wd_1482 (by decide +kernel) ⟨by rw [hR]; show 0 + 1 ≤ 3 + 3 * k; omega, by rw [hR]; show 8 + (2 + 11) + 40 * (0) ≤ 40 * (3 + 3 * k); omega⟩ hI hN hK hS hG0 rfl hl.1 rfl (Nat.le_of_ble_eq_true rfl) dX12_termOf_59 ⟨Nat.zero_le _, Nat.zero_le _⟩ (fun r7132 locs hp hS => ?_)
        have hc7133 := hp
        refine lv_istore (lv' := [(4, .int r7132), (2, .long l7104), (0, .ref h0), (1, .int x1)]) hx hb dX12_termOf_62 hl (by decide) rfl (fun ls hl => ?_)
        refine lv_aload_n hx hb dX12_termOf_64 rfl (lv_at hl 2 rfl) ?_
        refine lv_dup hx hb dX12_termOf_65 rfl ?_
        refine gmI hx hb hts inT12 hown hK hI List.not_mem_nil hG0 19 (by decide) (hts _ (tb_c wd_1252)) rfl rfl dX12_termOf_66 (fun w7134 hg7135 k7136 k7137 => ?_)
        obtain rfl := gf.uniq (by decide) hg7111 hg7135
        refine lv_iconst (v := 1) hx hb dX12_termOf_69 (by decide) ?_
        refine lv_iadd hx hb dX12_termOf_70 ?_
        refine lv_topi (fun v7138 e7139 => ?_)
        have tv7138 : v7138.toInt = w7110.toInt + (1) := iv_add rfl (by decide) e7139 (by omega) (by omega)
        refine pmI (ty := .int) hx hb hts inT12 hown hK hI List.not_mem_nil hG0 hS ⟨_, hG0⟩ 19 (by decide) (hts _ (tb_c wd_1252)) rfl rfl (by decide +kernel) rfl rfl rfl (by omega) (by omega) dX12_termOf_71 (fun H locs hI hgP hS => ?_)
        have hg7113 := hgP.2.2.1 20 _ (by decide) (by decide) hg7113
        have hg7140 := hgP.2.1
        have hf7107 := hgP.2.2.2 3 _ (by decide) (by decide) hf7107
        have hA7109 := va_at.kept hA7109 (hgP.1 _ (m_ne hq7108 hG0 (by first | decide | (dsimp only; decide))))
        refine lv_aload_n hx hb dX12_termOf_74 rfl (lv_at hl 2 rfl) ?_
        refine lv_iload_n hx hb dX12_termOf_75 rfl (lv_at hl 3 rfl) ?_
        refine mx_l (As := [.int x1]) (rest := []) (n := 1) (d := (2 + 3 * k)) ⟨hx, hb, hml, hown, hts⟩ (hpart h0 hG0 x1 ⟨by omega, by omega⟩ ff tt dd (mm + 1) m2 h1 (by omega)) wd_1491 wd_1493 wp_52 wd_13 wd_1494 (by decide +kernel) ⟨by rw [hR]; show (2 + 3 * k) + 1 ≤ 3 + 3 * k; omega, by rw [hR]; show 8 + (4 + 11) + 40 * ((2 + 3 * k)) ≤ 40 * (3 + 3 * k); omega⟩ hI hN hK hS hG0 (⟨hkf, ht, hT, by omega, ⟨qq7106, hf7107, hq7108, hA7109⟩, ⟨v7138, hg7140, by omega⟩, ⟨w7112, hg7113, by omega⟩⟩) rfl hl.1 rfl (Nat.le_of_ble_eq_true rfl) dX12_termOf_76 ⟨Nat.zero_le _, Nat.zero_le _⟩ (fun r7141 H locs hI hp hS => ?_)
        have hp0 := hp
        obtain ⟨hkf, ht, hT, k7150, ⟨qq7142, hf7143, hq7144, hA7145⟩, ⟨w7146, hg7147, k7151⟩, ⟨w7148, hg7149, k7152⟩⟩ := hp0
        refine lv_lstore (lv' := [(5, .long r7141), (4, .int r7132), (2, .long l7104), (0, .ref h0), (1, .int x1)]) hx hb dX12_termOf_79 hl (by decide) rfl (fun ls hl => ?_)
        refine lv_iload hx hb dX12_termOf_81 (lv_at hl 1 rfl) ?_
        refine lv_bipush (v := 42) hx hb dX12_termOf_83 (by decide) ?_
        refine th_cSs (As := [.int 42]) (rest := [.int r7132]) (n := 1) (d := 0) ⟨hx, hb, hml, hown, hts⟩ (c_X12_sign l H 42) wd_1495 wd_1496 wd_13 wd_1497 (by decide +kernel) ⟨by rw [hR]; show 0 + 1 ≤ 3 + 3 * k; omega, by rw [hR]; show 8 + (1 + 11) + 40 * (0) ≤ 40 * (3 + 3 * k); omega⟩ hN hS rfl hl.1 rfl (Nat.le_of_ble_eq_true rfl) dX12_termOf_85 ⟨Nat.zero_le _, Nat.zero_le _⟩ (fun r7153 locs hp hS => ?_)
        obtain rfl : r7153 = 142 := hp.trans (by decide)
        have k7154 := iv_lo r7132
        have k7155 := iv_hi r7132
        refine lv_icmp_eq (tgt := 121) hx hb dX12_termOf_88 (by decide) (fun c7156 => ?_) (fun c7156 => ?_)
        · skip
          have k7157 := iv_eq (X := r7132.toInt) (Y := (142)) rfl (by decide) c7156
          refine lv_aload_n hx hb dX12_termOf_121 rfl (lv_at hl 3 rfl) ?_
          refine lv_iload hx hb dX12_termOf_122 (lv_at hl 1 rfl) ?_
          refine lv_bipush (v := 42) hx hb dX12_termOf_124 (by decide) ?_
          refine th_cSs (As := [.int 42]) (rest := [.int r7132, .ref h0]) (n := 1) (d := 0) ⟨hx, hb, hml, hown, hts⟩ (c_X12_sign l H 42) wd_1495 wd_1496 wd_13 wd_1497 (by decide +kernel) ⟨by rw [hR]; show 0 + 1 ≤ 3 + 3 * k; omega, by rw [hR]; show 8 + (1 + 11) + 40 * (0) ≤ 40 * (3 + 3 * k); omega⟩ hN hS rfl hl.1 rfl (Nat.le_of_ble_eq_true rfl) dX12_termOf_126 ⟨Nat.zero_le _, Nat.zero_le _⟩ (fun r7158 locs hp hS => ?_)
          obtain rfl : r7158 = 142 := hp.trans (by decide)
          refine lv_icmp_ne (tgt := 139) hx hb dX12_termOf_129 (by decide) (fun c7159 => ?_) (fun c7159 => ?_)
          · skip
            have k7160 := iv_ne (X := r7132.toInt) (Y := (142)) rfl (by decide) c7159
            exfalso; omega
          · skip
            have k7161 := iv_eq (X := r7132.toInt) (Y := (142)) rfl (by decide) c7159
            refine lv_lload_n hx hb dX12_termOf_132 rfl (lv_at hl 2 rfl) ?_
            refine lv_lload hx hb dX12_termOf_133 (lv_at hl 0 rfl) ?_
            refine lv_lmul hx hb dX12_termOf_135 ?_
            refine lv_topl (fun l7162 e7163 => ?_)
            refine lv_goto (tgt := 160) hx hb dX12_termOf_136 (by decide) ?_
            refine lv_iload_n hx hb dX12_termOf_160 rfl (lv_at hl 4 rfl) ?_
            refine mx_l (As := [.long l7162, .int x1]) (rest := []) (n := 2) (d := 0) ⟨hx, hb, hml, hown, hts⟩ (c_X12_bounded l E D G h0 hG0 l7162 x1 ⟨by omega, by omega⟩ ff tt m2) wd_1502 wd_1504 wp_54 wd_13 wd_1505 (by decide +kernel) ⟨by rw [hR]; show 0 + 1 ≤ 3 + 3 * k; omega, by rw [hR]; show 8 + (4 + 11) + 40 * (0) ≤ 40 * (3 + 3 * k); omega⟩ hI hN hK hS hG0 (⟨hkf, ht, hT, by omega, ⟨qq7142, hf7143, hq7144, hA7145⟩, ⟨w7146, hg7147, by omega⟩, ⟨w7148, hg7149, by omega⟩⟩) rfl hl.1 rfl (Nat.le_of_ble_eq_true rfl) dX12_termOf_161 ⟨Nat.zero_le _, Nat.zero_le _⟩ (fun r7164 H locs hI hp hS => ?_)
            have hp0 := hp
            obtain ⟨hkf, ht, hT, k7173, ⟨qq7165, hf7166, hq7167, hA7168⟩, ⟨w7169, hg7170, k7174⟩, ⟨w7171, hg7172, k7175⟩⟩ := hp0
            refine lv_lstore_n (lv' := [(2, .long r7164), (5, .long r7141), (4, .int r7132), (0, .ref h0), (1, .int x1)]) hx hb dX12_termOf_164 rfl hl (by decide) rfl (fun ls hl => ?_)
            refine lv_goto (tgt := 6) hx hb dX12_termOf_165 (by decide) ?_
            exact ih_6 _ (by omega) H locs ls r7164 m2 rfl (lv_sub hl [0, 3, 4] rfl) ⟨by omega, by omega⟩ (by omega) (hL2) (⟨hkf, ht, hT, by omega, ⟨qq7165, hf7166, hq7167, hA7168⟩, ⟨w7169, hg7170, by omega⟩, ⟨w7171, hg7172, by omega⟩⟩) hI hS
        · skip
          have k7176 := iv_ne (X := r7132.toInt) (Y := (142)) rfl (by decide) c7156
          refine lv_lload hx hb dX12_termOf_91 (lv_at hl 0 rfl) ?_
          refine lv_lconst hx hb dX12_termOf_93 rfl ?_
          refine lv_topl (fun l7177 e7178 => ?_)
          refine W.lcmp hx hb dX12_termOf_94 ?_
          refine lv_topi (fun v7179 e7180 => ?_)
          have tv7179 := iv_cmp e7180
          refine lv_if_ne (tgt := 121) hx hb dX12_termOf_95 (by decide) (fun c7181 => ?_) (fun c7181 => ?_)
          · skip
            have k7182 := iv_ne (X := v7179.toInt) (Y := (0)) rfl (by decide) c7181
            refine lv_aload_n hx hb dX12_termOf_121 rfl (lv_at hl 3 rfl) ?_
            refine lv_iload hx hb dX12_termOf_122 (lv_at hl 1 rfl) ?_
            refine lv_bipush (v := 42) hx hb dX12_termOf_124 (by decide) ?_
            refine th_cSs (As := [.int 42]) (rest := [.int r7132, .ref h0]) (n := 1) (d := 0) ⟨hx, hb, hml, hown, hts⟩ (c_X12_sign l H 42) wd_1495 wd_1496 wd_13 wd_1497 (by decide +kernel) ⟨by rw [hR]; show 0 + 1 ≤ 3 + 3 * k; omega, by rw [hR]; show 8 + (1 + 11) + 40 * (0) ≤ 40 * (3 + 3 * k); omega⟩ hN hS rfl hl.1 rfl (Nat.le_of_ble_eq_true rfl) dX12_termOf_126 ⟨Nat.zero_le _, Nat.zero_le _⟩ (fun r7183 locs hp hS => ?_)
            obtain rfl : r7183 = 142 := hp.trans (by decide)
            refine lv_icmp_ne (tgt := 139) hx hb dX12_termOf_129 (by decide) (fun c7184 => ?_) (fun c7184 => ?_)
            · skip
              have k7185 := iv_ne (X := r7132.toInt) (Y := (142)) rfl (by decide) c7184
              refine lv_iload hx hb dX12_termOf_139 (lv_at hl 1 rfl) ?_
              refine lv_bipush (v := 47) hx hb dX12_termOf_141 (by decide) ?_
              refine th_cSs (As := [.int 47]) (rest := [.int r7132, .ref h0]) (n := 1) (d := 0) ⟨hx, hb, hml, hown, hts⟩ (c_X12_sign l H 47) wd_1495 wd_1496 wd_13 wd_1497 (by decide +kernel) ⟨by rw [hR]; show 0 + 1 ≤ 3 + 3 * k; omega, by rw [hR]; show 8 + (1 + 11) + 40 * (0) ≤ 40 * (3 + 3 * k); omega⟩ hN hS rfl hl.1 rfl (Nat.le_of_ble_eq_true rfl) dX12_termOf_143 ⟨Nat.zero_le _, Nat.zero_le _⟩ (fun r7186 locs hp hS => ?_)
              obtain rfl : r7186 = 147 := hp.trans (by decide)
              refine lv_icmp_ne (tgt := 156) hx hb dX12_termOf_146 (by decide) (fun c7187 => ?_) (fun c7187 => ?_)
              · skip
                have k7188 := iv_ne (X := r7132.toInt) (Y := (147)) rfl (by decide) c7187
                refine lv_lload_n hx hb dX12_termOf_156 rfl (lv_at hl 2 rfl) ?_
                refine lv_lload hx hb dX12_termOf_157 (lv_at hl 0 rfl) ?_
                refine lv_lrem hx hb dX12_termOf_159 (fun h0 => by have := iv_cmp0 e7180 h0 e7178; omega) ?_
                refine lv_topl (fun l7189 e7190 => ?_)
                refine lv_iload_n hx hb dX12_termOf_160 rfl (lv_at hl 4 rfl) ?_
                refine mx_l (As := [.long l7189, .int x1]) (rest := []) (n := 2) (d := 0) ⟨hx, hb, hml, hown, hts⟩ (c_X12_bounded l E D G h0 hG0 l7189 x1 ⟨by omega, by omega⟩ ff tt m2) wd_1502 wd_1504 wp_54 wd_13 wd_1505 (by decide +kernel) ⟨by rw [hR]; show 0 + 1 ≤ 3 + 3 * k; omega, by rw [hR]; show 8 + (4 + 11) + 40 * (0) ≤ 40 * (3 + 3 * k); omega⟩ hI hN hK hS hG0 (⟨hkf, ht, hT, by omega, ⟨qq7142, hf7143, hq7144, hA7145⟩, ⟨w7146, hg7147, by omega⟩, ⟨w7148, hg7149, by omega⟩⟩) rfl hl.1 rfl (Nat.le_of_ble_eq_true rfl) dX12_termOf_161 ⟨Nat.zero_le _, Nat.zero_le _⟩ (fun r7191 H locs hI hp hS => ?_)
                have hp0 := hp
                obtain ⟨hkf, ht, hT, k7200, ⟨qq7192, hf7193, hq7194, hA7195⟩, ⟨w7196, hg7197, k7201⟩, ⟨w7198, hg7199, k7202⟩⟩ := hp0
                refine lv_lstore_n (lv' := [(2, .long r7191), (5, .long r7141), (4, .int r7132), (0, .ref h0), (1, .int x1)]) hx hb dX12_termOf_164 rfl hl (by decide) rfl (fun ls hl => ?_)
                refine lv_goto (tgt := 6) hx hb dX12_termOf_165 (by decide) ?_
                exact ih_6 _ (by omega) H locs ls r7191 m2 rfl (lv_sub hl [0, 3, 4] rfl) ⟨by omega, by omega⟩ (by omega) (hL2) (⟨hkf, ht, hT, by omega, ⟨qq7192, hf7193, hq7194, hA7195⟩, ⟨w7196, hg7197, by omega⟩, ⟨w7198, hg7199, by omega⟩⟩) hI hS
              · skip
                have k7203 := iv_eq (X := r7132.toInt) (Y := (147)) rfl (by decide) c7187
                refine lv_lload_n hx hb dX12_termOf_149 rfl (lv_at hl 2 rfl) ?_
                refine lv_lload hx hb dX12_termOf_150 (lv_at hl 0 rfl) ?_
                refine lv_ldiv hx hb dX12_termOf_152 (fun h0 => by have := iv_cmp0 e7180 h0 e7178; omega) ?_
                refine lv_topl (fun l7204 e7205 => ?_)
                refine lv_goto (tgt := 160) hx hb dX12_termOf_153 (by decide) ?_
                refine lv_iload_n hx hb dX12_termOf_160 rfl (lv_at hl 4 rfl) ?_
                refine mx_l (As := [.long l7204, .int x1]) (rest := []) (n := 2) (d := 0) ⟨hx, hb, hml, hown, hts⟩ (c_X12_bounded l E D G h0 hG0 l7204 x1 ⟨by omega, by omega⟩ ff tt m2) wd_1502 wd_1504 wp_54 wd_13 wd_1505 (by decide +kernel) ⟨by rw [hR]; show 0 + 1 ≤ 3 + 3 * k; omega, by rw [hR]; show 8 + (4 + 11) + 40 * (0) ≤ 40 * (3 + 3 * k); omega⟩ hI hN hK hS hG0 (⟨hkf, ht, hT, by omega, ⟨qq7142, hf7143, hq7144, hA7145⟩, ⟨w7146, hg7147, by omega⟩, ⟨w7148, hg7149, by omega⟩⟩) rfl hl.1 rfl (Nat.le_of_ble_eq_true rfl) dX12_termOf_161 ⟨Nat.zero_le _, Nat.zero_le _⟩ (fun r7206 H locs hI hp hS => ?_)
                have hp0 := hp
                obtain ⟨hkf, ht, hT, k7215, ⟨qq7207, hf7208, hq7209, hA7210⟩, ⟨w7211, hg7212, k7216⟩, ⟨w7213, hg7214, k7217⟩⟩ := hp0
                refine lv_lstore_n (lv' := [(2, .long r7206), (5, .long r7141), (4, .int r7132), (0, .ref h0), (1, .int x1)]) hx hb dX12_termOf_164 rfl hl (by decide) rfl (fun ls hl => ?_)
                refine lv_goto (tgt := 6) hx hb dX12_termOf_165 (by decide) ?_
                exact ih_6 _ (by omega) H locs ls r7206 m2 rfl (lv_sub hl [0, 3, 4] rfl) ⟨by omega, by omega⟩ (by omega) (hL2) (⟨hkf, ht, hT, by omega, ⟨qq7207, hf7208, hq7209, hA7210⟩, ⟨w7211, hg7212, by omega⟩, ⟨w7213, hg7214, by omega⟩⟩) hI hS
            · skip
              have k7218 := iv_eq (X := r7132.toInt) (Y := (142)) rfl (by decide) c7184
              refine lv_lload_n hx hb dX12_termOf_132 rfl (lv_at hl 2 rfl) ?_
              refine lv_lload hx hb dX12_termOf_133 (lv_at hl 0 rfl) ?_
              refine lv_lmul hx hb dX12_termOf_135 ?_
              refine lv_topl (fun l7219 e7220 => ?_)
              refine lv_goto (tgt := 160) hx hb dX12_termOf_136 (by decide) ?_
              refine lv_iload_n hx hb dX12_termOf_160 rfl (lv_at hl 4 rfl) ?_
              refine mx_l (As := [.long l7219, .int x1]) (rest := []) (n := 2) (d := 0) ⟨hx, hb, hml, hown, hts⟩ (c_X12_bounded l E D G h0 hG0 l7219 x1 ⟨by omega, by omega⟩ ff tt m2) wd_1502 wd_1504 wp_54 wd_13 wd_1505 (by decide +kernel) ⟨by rw [hR]; show 0 + 1 ≤ 3 + 3 * k; omega, by rw [hR]; show 8 + (4 + 11) + 40 * (0) ≤ 40 * (3 + 3 * k); omega⟩ hI hN hK hS hG0 (⟨hkf, ht, hT, by omega, ⟨qq7142, hf7143, hq7144, hA7145⟩, ⟨w7146, hg7147, by omega⟩, ⟨w7148, hg7149, by omega⟩⟩) rfl hl.1 rfl (Nat.le_of_ble_eq_true rfl) dX12_termOf_161 ⟨Nat.zero_le _, Nat.zero_le _⟩ (fun r7221 H locs hI hp hS => ?_)
              have hp0 := hp
              obtain ⟨hkf, ht, hT, k7230, ⟨qq7222, hf7223, hq7224, hA7225⟩, ⟨w7226, hg7227, k7231⟩, ⟨w7228, hg7229, k7232⟩⟩ := hp0
              refine lv_lstore_n (lv' := [(2, .long r7221), (5, .long r7141), (4, .int r7132), (0, .ref h0), (1, .int x1)]) hx hb dX12_termOf_164 rfl hl (by decide) rfl (fun ls hl => ?_)
              refine lv_goto (tgt := 6) hx hb dX12_termOf_165 (by decide) ?_
              exact ih_6 _ (by omega) H locs ls r7221 m2 rfl (lv_sub hl [0, 3, 4] rfl) ⟨by omega, by omega⟩ (by omega) (hL2) (⟨hkf, ht, hT, by omega, ⟨qq7222, hf7223, hq7224, hA7225⟩, ⟨w7226, hg7227, by omega⟩, ⟨w7228, hg7229, by omega⟩⟩) hI hS
          · skip
            have k7233 := iv_eq (X := v7179.toInt) (Y := (0)) rfl (by decide) c7181
            refine lv_aload_n hx hb dX12_termOf_98 rfl (lv_at hl 3 rfl) ?_
            refine lv_aload_n hx hb dX12_termOf_99 rfl (lv_at hl 3 rfl) ?_
            refine gmI hx hb hts inT12 hown hK hI List.not_mem_nil hG0 21 (by decide) (hts _ (tb_c wd_1254)) rfl rfl dX12_termOf_100 (fun w7234 hg7235 k7236 k7237 => ?_)
            refine lv_if_ne (tgt := 110) hx hb dX12_termOf_103 (by decide) (fun c7238 => ?_) (fun c7238 => ?_)
            · skip
              have k7239 := iv_ne (X := w7234.toInt) (Y := (0)) rfl (by decide) c7238
              refine lv_iconst (v := 1) hx hb dX12_termOf_110 (by decide) ?_
              refine lv_goto (tgt := 115) hx hb dX12_termOf_111 (by decide) ?_
              refine pmI (ty := .boolean) hx hb hts inT12 hown hK hI List.not_mem_nil hG0 hS ⟨_, hG0⟩ 21 (by decide) (hts _ (tb_c wd_1254)) rfl rfl (by decide +kernel) (by decide) rfl rfl (by decide) (by decide) dX12_termOf_115 (fun H locs hI hgP hS => ?_)
              have hg7147 := hgP.2.2.1 19 _ (by decide) (by decide) hg7147
              have hg7149 := hgP.2.2.1 20 _ (by decide) (by decide) hg7149
              have hg7240 := hgP.2.1
              have hf7143 := hgP.2.2.2 3 _ (by decide) (by decide) hf7143
              have hA7145 := va_at.kept hA7145 (hgP.1 _ (m_ne hq7144 hG0 (by first | decide | (dsimp only; decide))))
              refine lv_lconst hx hb dX12_termOf_118 rfl ?_
              refine lv_topl (fun l7241 e7242 => ?_)
              refine lv_lstore (lv' := [(5, .long l7241), (4, .int r7132), (2, .long l7104), (0, .ref h0), (1, .int x1)]) hx hb dX12_termOf_119 hl (by decide) rfl (fun ls hl => ?_)
              refine lv_aload_n hx hb dX12_termOf_121 rfl (lv_at hl 3 rfl) ?_
              refine lv_iload hx hb dX12_termOf_122 (lv_at hl 1 rfl) ?_
              refine lv_bipush (v := 42) hx hb dX12_termOf_124 (by decide) ?_
              refine th_cSs (As := [.int 42]) (rest := [.int r7132, .ref h0]) (n := 1) (d := 0) ⟨hx, hb, hml, hown, hts⟩ (c_X12_sign l H 42) wd_1495 wd_1496 wd_13 wd_1497 (by decide +kernel) ⟨by rw [hR]; show 0 + 1 ≤ 3 + 3 * k; omega, by rw [hR]; show 8 + (1 + 11) + 40 * (0) ≤ 40 * (3 + 3 * k); omega⟩ hN hS rfl hl.1 rfl (Nat.le_of_ble_eq_true rfl) dX12_termOf_126 ⟨Nat.zero_le _, Nat.zero_le _⟩ (fun r7243 locs hp hS => ?_)
              obtain rfl : r7243 = 142 := hp.trans (by decide)
              refine lv_icmp_ne (tgt := 139) hx hb dX12_termOf_129 (by decide) (fun c7244 => ?_) (fun c7244 => ?_)
              · skip
                have k7245 := iv_ne (X := r7132.toInt) (Y := (142)) rfl (by decide) c7244
                refine lv_iload hx hb dX12_termOf_139 (lv_at hl 1 rfl) ?_
                refine lv_bipush (v := 47) hx hb dX12_termOf_141 (by decide) ?_
                refine th_cSs (As := [.int 47]) (rest := [.int r7132, .ref h0]) (n := 1) (d := 0) ⟨hx, hb, hml, hown, hts⟩ (c_X12_sign l H 47) wd_1495 wd_1496 wd_13 wd_1497 (by decide +kernel) ⟨by rw [hR]; show 0 + 1 ≤ 3 + 3 * k; omega, by rw [hR]; show 8 + (1 + 11) + 40 * (0) ≤ 40 * (3 + 3 * k); omega⟩ hN hS rfl hl.1 rfl (Nat.le_of_ble_eq_true rfl) dX12_termOf_143 ⟨Nat.zero_le _, Nat.zero_le _⟩ (fun r7246 locs hp hS => ?_)
                obtain rfl : r7246 = 147 := hp.trans (by decide)
                refine lv_icmp_ne (tgt := 156) hx hb dX12_termOf_146 (by decide) (fun c7247 => ?_) (fun c7247 => ?_)
                · skip
                  have k7248 := iv_ne (X := r7132.toInt) (Y := (147)) rfl (by decide) c7247
                  refine lv_lload_n hx hb dX12_termOf_156 rfl (lv_at hl 2 rfl) ?_
                  refine lv_lload hx hb dX12_termOf_157 (lv_at hl 0 rfl) ?_
                  refine lv_lrem hx hb dX12_termOf_159 (by rw [e7242]; decide) ?_
                  refine lv_topl (fun l7249 e7250 => ?_)
                  refine lv_iload_n hx hb dX12_termOf_160 rfl (lv_at hl 4 rfl) ?_
                  refine mx_l (As := [.long l7249, .int x1]) (rest := []) (n := 2) (d := 0) ⟨hx, hb, hml, hown, hts⟩ (c_X12_bounded l E D G h0 hG0 l7249 x1 ⟨by omega, by omega⟩ ff tt m2) wd_1502 wd_1504 wp_54 wd_13 wd_1505 (by decide +kernel) ⟨by rw [hR]; show 0 + 1 ≤ 3 + 3 * k; omega, by rw [hR]; show 8 + (4 + 11) + 40 * (0) ≤ 40 * (3 + 3 * k); omega⟩ hI hN hK hS hG0 (⟨hkf, ht, hT, by omega, ⟨qq7142, hf7143, hq7144, hA7145⟩, ⟨w7146, hg7147, by omega⟩, ⟨w7148, hg7149, by omega⟩⟩) rfl hl.1 rfl (Nat.le_of_ble_eq_true rfl) dX12_termOf_161 ⟨Nat.zero_le _, Nat.zero_le _⟩ (fun r7251 H locs hI hp hS => ?_)
                  have hp0 := hp
                  obtain ⟨hkf, ht, hT, k7260, ⟨qq7252, hf7253, hq7254, hA7255⟩, ⟨w7256, hg7257, k7261⟩, ⟨w7258, hg7259, k7262⟩⟩ := hp0
                  refine lv_lstore_n (lv' := [(2, .long r7251), (5, .long l7241), (4, .int r7132), (0, .ref h0), (1, .int x1)]) hx hb dX12_termOf_164 rfl hl (by decide) rfl (fun ls hl => ?_)
                  refine lv_goto (tgt := 6) hx hb dX12_termOf_165 (by decide) ?_
                  exact ih_6 _ (by omega) H locs ls r7251 m2 rfl (lv_sub hl [0, 3, 4] rfl) ⟨by omega, by omega⟩ (by omega) (hL2) (⟨hkf, ht, hT, by omega, ⟨qq7252, hf7253, hq7254, hA7255⟩, ⟨w7256, hg7257, by omega⟩, ⟨w7258, hg7259, by omega⟩⟩) hI hS
                · skip
                  have k7263 := iv_eq (X := r7132.toInt) (Y := (147)) rfl (by decide) c7247
                  refine lv_lload_n hx hb dX12_termOf_149 rfl (lv_at hl 2 rfl) ?_
                  refine lv_lload hx hb dX12_termOf_150 (lv_at hl 0 rfl) ?_
                  refine lv_ldiv hx hb dX12_termOf_152 (by rw [e7242]; decide) ?_
                  refine lv_topl (fun l7264 e7265 => ?_)
                  refine lv_goto (tgt := 160) hx hb dX12_termOf_153 (by decide) ?_
                  refine lv_iload_n hx hb dX12_termOf_160 rfl (lv_at hl 4 rfl) ?_
                  refine mx_l (As := [.long l7264, .int x1]) (rest := []) (n := 2) (d := 0) ⟨hx, hb, hml, hown, hts⟩ (c_X12_bounded l E D G h0 hG0 l7264 x1 ⟨by omega, by omega⟩ ff tt m2) wd_1502 wd_1504 wp_54 wd_13 wd_1505 (by decide +kernel) ⟨by rw [hR]; show 0 + 1 ≤ 3 + 3 * k; omega, by rw [hR]; show 8 + (4 + 11) + 40 * (0) ≤ 40 * (3 + 3 * k); omega⟩ hI hN hK hS hG0 (⟨hkf, ht, hT, by omega, ⟨qq7142, hf7143, hq7144, hA7145⟩, ⟨w7146, hg7147, by omega⟩, ⟨w7148, hg7149, by omega⟩⟩) rfl hl.1 rfl (Nat.le_of_ble_eq_true rfl) dX12_termOf_161 ⟨Nat.zero_le _, Nat.zero_le _⟩ (fun r7266 H locs hI hp hS => ?_)
                  have hp0 := hp
                  obtain ⟨hkf, ht, hT, k7275, ⟨qq7267, hf7268, hq7269, hA7270⟩, ⟨w7271, hg7272, k7276⟩, ⟨w7273, hg7274, k7277⟩⟩ := hp0
                  refine lv_lstore_n (lv' := [(2, .long r7266), (5, .long l7241), (4, .int r7132), (0, .ref h0), (1, .int x1)]) hx hb dX12_termOf_164 rfl hl (by decide) rfl (fun ls hl => ?_)
                  refine lv_goto (tgt := 6) hx hb dX12_termOf_165 (by decide) ?_
                  exact ih_6 _ (by omega) H locs ls r7266 m2 rfl (lv_sub hl [0, 3, 4] rfl) ⟨by omega, by omega⟩ (by omega) (hL2) (⟨hkf, ht, hT, by omega, ⟨qq7267, hf7268, hq7269, hA7270⟩, ⟨w7271, hg7272, by omega⟩, ⟨w7273, hg7274, by omega⟩⟩) hI hS
              · skip
                have k7278 := iv_eq (X := r7132.toInt) (Y := (142)) rfl (by decide) c7244
                refine lv_lload_n hx hb dX12_termOf_132 rfl (lv_at hl 2 rfl) ?_
                refine lv_lload hx hb dX12_termOf_133 (lv_at hl 0 rfl) ?_
                refine lv_lmul hx hb dX12_termOf_135 ?_
                refine lv_topl (fun l7279 e7280 => ?_)
                refine lv_goto (tgt := 160) hx hb dX12_termOf_136 (by decide) ?_
                refine lv_iload_n hx hb dX12_termOf_160 rfl (lv_at hl 4 rfl) ?_
                refine mx_l (As := [.long l7279, .int x1]) (rest := []) (n := 2) (d := 0) ⟨hx, hb, hml, hown, hts⟩ (c_X12_bounded l E D G h0 hG0 l7279 x1 ⟨by omega, by omega⟩ ff tt m2) wd_1502 wd_1504 wp_54 wd_13 wd_1505 (by decide +kernel) ⟨by rw [hR]; show 0 + 1 ≤ 3 + 3 * k; omega, by rw [hR]; show 8 + (4 + 11) + 40 * (0) ≤ 40 * (3 + 3 * k); omega⟩ hI hN hK hS hG0 (⟨hkf, ht, hT, by omega, ⟨qq7142, hf7143, hq7144, hA7145⟩, ⟨w7146, hg7147, by omega⟩, ⟨w7148, hg7149, by omega⟩⟩) rfl hl.1 rfl (Nat.le_of_ble_eq_true rfl) dX12_termOf_161 ⟨Nat.zero_le _, Nat.zero_le _⟩ (fun r7281 H locs hI hp hS => ?_)
                have hp0 := hp
                obtain ⟨hkf, ht, hT, k7290, ⟨qq7282, hf7283, hq7284, hA7285⟩, ⟨w7286, hg7287, k7291⟩, ⟨w7288, hg7289, k7292⟩⟩ := hp0
                refine lv_lstore_n (lv' := [(2, .long r7281), (5, .long l7241), (4, .int r7132), (0, .ref h0), (1, .int x1)]) hx hb dX12_termOf_164 rfl hl (by decide) rfl (fun ls hl => ?_)
                refine lv_goto (tgt := 6) hx hb dX12_termOf_165 (by decide) ?_
                exact ih_6 _ (by omega) H locs ls r7281 m2 rfl (lv_sub hl [0, 3, 4] rfl) ⟨by omega, by omega⟩ (by omega) (hL2) (⟨hkf, ht, hT, by omega, ⟨qq7282, hf7283, hq7284, hA7285⟩, ⟨w7286, hg7287, by omega⟩, ⟨w7288, hg7289, by omega⟩⟩) hI hS
            · skip
              have k7293 := iv_eq (X := w7234.toInt) (Y := (0)) rfl (by decide) c7238
              refine lv_iload_n hx hb dX12_termOf_106 rfl (lv_at hl 4 rfl) ?_
              refine lv_if_eq (tgt := 114) hx hb dX12_termOf_107 (by decide) (fun c7294 => ?_) (fun c7294 => ?_)
              · skip
                have k7295 := iv_eq (X := x1.toInt) (Y := (0)) rfl (by decide) c7294
                refine lv_iconst (v := 0) hx hb dX12_termOf_114 (by decide) ?_
                refine pmI (ty := .boolean) hx hb hts inT12 hown hK hI List.not_mem_nil hG0 hS ⟨_, hG0⟩ 21 (by decide) (hts _ (tb_c wd_1254)) rfl rfl (by decide +kernel) (by decide) rfl rfl (by decide) (by decide) dX12_termOf_115 (fun H locs hI hgP hS => ?_)
                have hg7147 := hgP.2.2.1 19 _ (by decide) (by decide) hg7147
                have hg7149 := hgP.2.2.1 20 _ (by decide) (by decide) hg7149
                have hg7296 := hgP.2.1
                have hf7143 := hgP.2.2.2 3 _ (by decide) (by decide) hf7143
                have hA7145 := va_at.kept hA7145 (hgP.1 _ (m_ne hq7144 hG0 (by first | decide | (dsimp only; decide))))
                refine lv_lconst hx hb dX12_termOf_118 rfl ?_
                refine lv_topl (fun l7297 e7298 => ?_)
                refine lv_lstore (lv' := [(5, .long l7297), (4, .int r7132), (2, .long l7104), (0, .ref h0), (1, .int x1)]) hx hb dX12_termOf_119 hl (by decide) rfl (fun ls hl => ?_)
                refine lv_aload_n hx hb dX12_termOf_121 rfl (lv_at hl 3 rfl) ?_
                refine lv_iload hx hb dX12_termOf_122 (lv_at hl 1 rfl) ?_
                refine lv_bipush (v := 42) hx hb dX12_termOf_124 (by decide) ?_
                refine th_cSs (As := [.int 42]) (rest := [.int r7132, .ref h0]) (n := 1) (d := 0) ⟨hx, hb, hml, hown, hts⟩ (c_X12_sign l H 42) wd_1495 wd_1496 wd_13 wd_1497 (by decide +kernel) ⟨by rw [hR]; show 0 + 1 ≤ 3 + 3 * k; omega, by rw [hR]; show 8 + (1 + 11) + 40 * (0) ≤ 40 * (3 + 3 * k); omega⟩ hN hS rfl hl.1 rfl (Nat.le_of_ble_eq_true rfl) dX12_termOf_126 ⟨Nat.zero_le _, Nat.zero_le _⟩ (fun r7299 locs hp hS => ?_)
                obtain rfl : r7299 = 142 := hp.trans (by decide)
                refine lv_icmp_ne (tgt := 139) hx hb dX12_termOf_129 (by decide) (fun c7300 => ?_) (fun c7300 => ?_)
                · skip
                  have k7301 := iv_ne (X := r7132.toInt) (Y := (142)) rfl (by decide) c7300
                  refine lv_iload hx hb dX12_termOf_139 (lv_at hl 1 rfl) ?_
                  refine lv_bipush (v := 47) hx hb dX12_termOf_141 (by decide) ?_
                  refine th_cSs (As := [.int 47]) (rest := [.int r7132, .ref h0]) (n := 1) (d := 0) ⟨hx, hb, hml, hown, hts⟩ (c_X12_sign l H 47) wd_1495 wd_1496 wd_13 wd_1497 (by decide +kernel) ⟨by rw [hR]; show 0 + 1 ≤ 3 + 3 * k; omega, by rw [hR]; show 8 + (1 + 11) + 40 * (0) ≤ 40 * (3 + 3 * k); omega⟩ hN hS rfl hl.1 rfl (Nat.le_of_ble_eq_true rfl) dX12_termOf_143 ⟨Nat.zero_le _, Nat.zero_le _⟩ (fun r7302 locs hp hS => ?_)
                  obtain rfl : r7302 = 147 := hp.trans (by decide)
                  refine lv_icmp_ne (tgt := 156) hx hb dX12_termOf_146 (by decide) (fun c7303 => ?_) (fun c7303 => ?_)
                  · skip
                    have k7304 := iv_ne (X := r7132.toInt) (Y := (147)) rfl (by decide) c7303
                    refine lv_lload_n hx hb dX12_termOf_156 rfl (lv_at hl 2 rfl) ?_
                    refine lv_lload hx hb dX12_termOf_157 (lv_at hl 0 rfl) ?_
                    refine lv_lrem hx hb dX12_termOf_159 (by rw [e7298]; decide) ?_
                    refine lv_topl (fun l7305 e7306 => ?_)
                    refine lv_iload_n hx hb dX12_termOf_160 rfl (lv_at hl 4 rfl) ?_
                    refine mx_l (As := [.long l7305, .int x1]) (rest := []) (n := 2) (d := 0) ⟨hx, hb, hml, hown, hts⟩ (c_X12_bounded l E D G h0 hG0 l7305 x1 ⟨by omega, by omega⟩ ff tt m2) wd_1502 wd_1504 wp_54 wd_13 wd_1505 (by decide +kernel) ⟨by rw [hR]; show 0 + 1 ≤ 3 + 3 * k; omega, by rw [hR]; show 8 + (4 + 11) + 40 * (0) ≤ 40 * (3 + 3 * k); omega⟩ hI hN hK hS hG0 (⟨hkf, ht, hT, by omega, ⟨qq7142, hf7143, hq7144, hA7145⟩, ⟨w7146, hg7147, by omega⟩, ⟨w7148, hg7149, by omega⟩⟩) rfl hl.1 rfl (Nat.le_of_ble_eq_true rfl) dX12_termOf_161 ⟨Nat.zero_le _, Nat.zero_le _⟩ (fun r7307 H locs hI hp hS => ?_)
                    have hp0 := hp
                    obtain ⟨hkf, ht, hT, k7316, ⟨qq7308, hf7309, hq7310, hA7311⟩, ⟨w7312, hg7313, k7317⟩, ⟨w7314, hg7315, k7318⟩⟩ := hp0
                    refine lv_lstore_n (lv' := [(2, .long r7307), (5, .long l7297), (4, .int r7132), (0, .ref h0), (1, .int x1)]) hx hb dX12_termOf_164 rfl hl (by decide) rfl (fun ls hl => ?_)
                    refine lv_goto (tgt := 6) hx hb dX12_termOf_165 (by decide) ?_
                    exact ih_6 _ (by omega) H locs ls r7307 m2 rfl (lv_sub hl [0, 3, 4] rfl) ⟨by omega, by omega⟩ (by omega) (hL2) (⟨hkf, ht, hT, by omega, ⟨qq7308, hf7309, hq7310, hA7311⟩, ⟨w7312, hg7313, by omega⟩, ⟨w7314, hg7315, by omega⟩⟩) hI hS
                  · skip
                    have k7319 := iv_eq (X := r7132.toInt) (Y := (147)) rfl (by decide) c7303
                    refine lv_lload_n hx hb dX12_termOf_149 rfl (lv_at hl 2 rfl) ?_
                    refine lv_lload hx hb dX12_termOf_150 (lv_at hl 0 rfl) ?_
                    refine lv_ldiv hx hb dX12_termOf_152 (by rw [e7298]; decide) ?_
                    refine lv_topl (fun l7320 e7321 => ?_)
                    refine lv_goto (tgt := 160) hx hb dX12_termOf_153 (by decide) ?_
                    refine lv_iload_n hx hb dX12_termOf_160 rfl (lv_at hl 4 rfl) ?_
                    refine mx_l (As := [.long l7320, .int x1]) (rest := []) (n := 2) (d := 0) ⟨hx, hb, hml, hown, hts⟩ (c_X12_bounded l E D G h0 hG0 l7320 x1 ⟨by omega, by omega⟩ ff tt m2) wd_1502 wd_1504 wp_54 wd_13 wd_1505 (by decide +kernel) ⟨by rw [hR]; show 0 + 1 ≤ 3 + 3 * k; omega, by rw [hR]; show 8 + (4 + 11) + 40 * (0) ≤ 40 * (3 + 3 * k); omega⟩ hI hN hK hS hG0 (⟨hkf, ht, hT, by omega, ⟨qq7142, hf7143, hq7144, hA7145⟩, ⟨w7146, hg7147, by omega⟩, ⟨w7148, hg7149, by omega⟩⟩) rfl hl.1 rfl (Nat.le_of_ble_eq_true rfl) dX12_termOf_161 ⟨Nat.zero_le _, Nat.zero_le _⟩ (fun r7322 H locs hI hp hS => ?_)
                    have hp0 := hp
                    obtain ⟨hkf, ht, hT, k7331, ⟨qq7323, hf7324, hq7325, hA7326⟩, ⟨w7327, hg7328, k7332⟩, ⟨w7329, hg7330, k7333⟩⟩ := hp0
                    refine lv_lstore_n (lv' := [(2, .long r7322), (5, .long l7297), (4, .int r7132), (0, .ref h0), (1, .int x1)]) hx hb dX12_termOf_164 rfl hl (by decide) rfl (fun ls hl => ?_)
                    refine lv_goto (tgt := 6) hx hb dX12_termOf_165 (by decide) ?_
                    exact ih_6 _ (by omega) H locs ls r7322 m2 rfl (lv_sub hl [0, 3, 4] rfl) ⟨by omega, by omega⟩ (by omega) (hL2) (⟨hkf, ht, hT, by omega, ⟨qq7323, hf7324, hq7325, hA7326⟩, ⟨w7327, hg7328, by omega⟩, ⟨w7329, hg7330, by omega⟩⟩) hI hS
                · skip
                  have k7334 := iv_eq (X := r7132.toInt) (Y := (142)) rfl (by decide) c7300
                  refine lv_lload_n hx hb dX12_termOf_132 rfl (lv_at hl 2 rfl) ?_
                  refine lv_lload hx hb dX12_termOf_133 (lv_at hl 0 rfl) ?_
                  refine lv_lmul hx hb dX12_termOf_135 ?_
                  refine lv_topl (fun l7335 e7336 => ?_)
                  refine lv_goto (tgt := 160) hx hb dX12_termOf_136 (by decide) ?_
                  refine lv_iload_n hx hb dX12_termOf_160 rfl (lv_at hl 4 rfl) ?_
                  refine mx_l (As := [.long l7335, .int x1]) (rest := []) (n := 2) (d := 0) ⟨hx, hb, hml, hown, hts⟩ (c_X12_bounded l E D G h0 hG0 l7335 x1 ⟨by omega, by omega⟩ ff tt m2) wd_1502 wd_1504 wp_54 wd_13 wd_1505 (by decide +kernel) ⟨by rw [hR]; show 0 + 1 ≤ 3 + 3 * k; omega, by rw [hR]; show 8 + (4 + 11) + 40 * (0) ≤ 40 * (3 + 3 * k); omega⟩ hI hN hK hS hG0 (⟨hkf, ht, hT, by omega, ⟨qq7142, hf7143, hq7144, hA7145⟩, ⟨w7146, hg7147, by omega⟩, ⟨w7148, hg7149, by omega⟩⟩) rfl hl.1 rfl (Nat.le_of_ble_eq_true rfl) dX12_termOf_161 ⟨Nat.zero_le _, Nat.zero_le _⟩ (fun r7337 H locs hI hp hS => ?_)
                  have hp0 := hp
                  obtain ⟨hkf, ht, hT, k7346, ⟨qq7338, hf7339, hq7340, hA7341⟩, ⟨w7342, hg7343, k7347⟩, ⟨w7344, hg7345, k7348⟩⟩ := hp0
                  refine lv_lstore_n (lv' := [(2, .long r7337), (5, .long l7297), (4, .int r7132), (0, .ref h0), (1, .int x1)]) hx hb dX12_termOf_164 rfl hl (by decide) rfl (fun ls hl => ?_)
                  refine lv_goto (tgt := 6) hx hb dX12_termOf_165 (by decide) ?_
                  exact ih_6 _ (by omega) H locs ls r7337 m2 rfl (lv_sub hl [0, 3, 4] rfl) ⟨by omega, by omega⟩ (by omega) (hL2) (⟨hkf, ht, hT, by omega, ⟨qq7338, hf7339, hq7340, hA7341⟩, ⟨w7342, hg7343, by omega⟩, ⟨w7344, hg7345, by omega⟩⟩) hI hS
              · skip
                have k7349 := iv_ne (X := x1.toInt) (Y := (0)) rfl (by decide) c7294
                refine lv_iconst (v := 1) hx hb dX12_termOf_110 (by decide) ?_
                refine lv_goto (tgt := 115) hx hb dX12_termOf_111 (by decide) ?_
                refine pmI (ty := .boolean) hx hb hts inT12 hown hK hI List.not_mem_nil hG0 hS ⟨_, hG0⟩ 21 (by decide) (hts _ (tb_c wd_1254)) rfl rfl (by decide +kernel) (by decide) rfl rfl (by decide) (by decide) dX12_termOf_115 (fun H locs hI hgP hS => ?_)
                have hg7147 := hgP.2.2.1 19 _ (by decide) (by decide) hg7147
                have hg7149 := hgP.2.2.1 20 _ (by decide) (by decide) hg7149
                have hg7350 := hgP.2.1
                have hf7143 := hgP.2.2.2 3 _ (by decide) (by decide) hf7143
                have hA7145 := va_at.kept hA7145 (hgP.1 _ (m_ne hq7144 hG0 (by first | decide | (dsimp only; decide))))
                refine lv_lconst hx hb dX12_termOf_118 rfl ?_
                refine lv_topl (fun l7351 e7352 => ?_)
                refine lv_lstore (lv' := [(5, .long l7351), (4, .int r7132), (2, .long l7104), (0, .ref h0), (1, .int x1)]) hx hb dX12_termOf_119 hl (by decide) rfl (fun ls hl => ?_)
                refine lv_aload_n hx hb dX12_termOf_121 rfl (lv_at hl 3 rfl) ?_
                refine lv_iload hx hb dX12_termOf_122 (lv_at hl 1 rfl) ?_
                refine lv_bipush (v := 42) hx hb dX12_termOf_124 (by decide) ?_
                refine th_cSs (As := [.int 42]) (rest := [.int r7132, .ref h0]) (n := 1) (d := 0) ⟨hx, hb, hml, hown, hts⟩ (c_X12_sign l H 42) wd_1495 wd_1496 wd_13 wd_1497 (by decide +kernel) ⟨by rw [hR]; show 0 + 1 ≤ 3 + 3 * k; omega, by rw [hR]; show 8 + (1 + 11) + 40 * (0) ≤ 40 * (3 + 3 * k); omega⟩ hN hS rfl hl.1 rfl (Nat.le_of_ble_eq_true rfl) dX12_termOf_126 ⟨Nat.zero_le _, Nat.zero_le _⟩ (fun r7353 locs hp hS => ?_)
                obtain rfl : r7353 = 142 := hp.trans (by decide)
                refine lv_icmp_ne (tgt := 139) hx hb dX12_termOf_129 (by decide) (fun c7354 => ?_) (fun c7354 => ?_)
                · skip
                  have k7355 := iv_ne (X := r7132.toInt) (Y := (142)) rfl (by decide) c7354
                  refine lv_iload hx hb dX12_termOf_139 (lv_at hl 1 rfl) ?_
                  refine lv_bipush (v := 47) hx hb dX12_termOf_141 (by decide) ?_
                  refine th_cSs (As := [.int 47]) (rest := [.int r7132, .ref h0]) (n := 1) (d := 0) ⟨hx, hb, hml, hown, hts⟩ (c_X12_sign l H 47) wd_1495 wd_1496 wd_13 wd_1497 (by decide +kernel) ⟨by rw [hR]; show 0 + 1 ≤ 3 + 3 * k; omega, by rw [hR]; show 8 + (1 + 11) + 40 * (0) ≤ 40 * (3 + 3 * k); omega⟩ hN hS rfl hl.1 rfl (Nat.le_of_ble_eq_true rfl) dX12_termOf_143 ⟨Nat.zero_le _, Nat.zero_le _⟩ (fun r7356 locs hp hS => ?_)
                  obtain rfl : r7356 = 147 := hp.trans (by decide)
                  refine lv_icmp_ne (tgt := 156) hx hb dX12_termOf_146 (by decide) (fun c7357 => ?_) (fun c7357 => ?_)
                  · skip
                    have k7358 := iv_ne (X := r7132.toInt) (Y := (147)) rfl (by decide) c7357
                    refine lv_lload_n hx hb dX12_termOf_156 rfl (lv_at hl 2 rfl) ?_
                    refine lv_lload hx hb dX12_termOf_157 (lv_at hl 0 rfl) ?_
                    refine lv_lrem hx hb dX12_termOf_159 (by rw [e7352]; decide) ?_
                    refine lv_topl (fun l7359 e7360 => ?_)
                    refine lv_iload_n hx hb dX12_termOf_160 rfl (lv_at hl 4 rfl) ?_
                    refine mx_l (As := [.long l7359, .int x1]) (rest := []) (n := 2) (d := 0) ⟨hx, hb, hml, hown, hts⟩ (c_X12_bounded l E D G h0 hG0 l7359 x1 ⟨by omega, by omega⟩ ff tt m2) wd_1502 wd_1504 wp_54 wd_13 wd_1505 (by decide +kernel) ⟨by rw [hR]; show 0 + 1 ≤ 3 + 3 * k; omega, by rw [hR]; show 8 + (4 + 11) + 40 * (0) ≤ 40 * (3 + 3 * k); omega⟩ hI hN hK hS hG0 (⟨hkf, ht, hT, by omega, ⟨qq7142, hf7143, hq7144, hA7145⟩, ⟨w7146, hg7147, by omega⟩, ⟨w7148, hg7149, by omega⟩⟩) rfl hl.1 rfl (Nat.le_of_ble_eq_true rfl) dX12_termOf_161 ⟨Nat.zero_le _, Nat.zero_le _⟩ (fun r7361 H locs hI hp hS => ?_)
                    have hp0 := hp
                    obtain ⟨hkf, ht, hT, k7370, ⟨qq7362, hf7363, hq7364, hA7365⟩, ⟨w7366, hg7367, k7371⟩, ⟨w7368, hg7369, k7372⟩⟩ := hp0
                    refine lv_lstore_n (lv' := [(2, .long r7361), (5, .long l7351), (4, .int r7132), (0, .ref h0), (1, .int x1)]) hx hb dX12_termOf_164 rfl hl (by decide) rfl (fun ls hl => ?_)
                    refine lv_goto (tgt := 6) hx hb dX12_termOf_165 (by decide) ?_
                    exact ih_6 _ (by omega) H locs ls r7361 m2 rfl (lv_sub hl [0, 3, 4] rfl) ⟨by omega, by omega⟩ (by omega) (hL2) (⟨hkf, ht, hT, by omega, ⟨qq7362, hf7363, hq7364, hA7365⟩, ⟨w7366, hg7367, by omega⟩, ⟨w7368, hg7369, by omega⟩⟩) hI hS
                  · skip
                    have k7373 := iv_eq (X := r7132.toInt) (Y := (147)) rfl (by decide) c7357
                    refine lv_lload_n hx hb dX12_termOf_149 rfl (lv_at hl 2 rfl) ?_
                    refine lv_lload hx hb dX12_termOf_150 (lv_at hl 0 rfl) ?_
                    refine lv_ldiv hx hb dX12_termOf_152 (by rw [e7352]; decide) ?_
                    refine lv_topl (fun l7374 e7375 => ?_)
                    refine lv_goto (tgt := 160) hx hb dX12_termOf_153 (by decide) ?_
                    refine lv_iload_n hx hb dX12_termOf_160 rfl (lv_at hl 4 rfl) ?_
                    refine mx_l (As := [.long l7374, .int x1]) (rest := []) (n := 2) (d := 0) ⟨hx, hb, hml, hown, hts⟩ (c_X12_bounded l E D G h0 hG0 l7374 x1 ⟨by omega, by omega⟩ ff tt m2) wd_1502 wd_1504 wp_54 wd_13 wd_1505 (by decide +kernel) ⟨by rw [hR]; show 0 + 1 ≤ 3 + 3 * k; omega, by rw [hR]; show 8 + (4 + 11) + 40 * (0) ≤ 40 * (3 + 3 * k); omega⟩ hI hN hK hS hG0 (⟨hkf, ht, hT, by omega, ⟨qq7142, hf7143, hq7144, hA7145⟩, ⟨w7146, hg7147, by omega⟩, ⟨w7148, hg7149, by omega⟩⟩) rfl hl.1 rfl (Nat.le_of_ble_eq_true rfl) dX12_termOf_161 ⟨Nat.zero_le _, Nat.zero_le _⟩ (fun r7376 H locs hI hp hS => ?_)
                    have hp0 := hp
                    obtain ⟨hkf, ht, hT, k7385, ⟨qq7377, hf7378, hq7379, hA7380⟩, ⟨w7381, hg7382, k7386⟩, ⟨w7383, hg7384, k7387⟩⟩ := hp0
                    refine lv_lstore_n (lv' := [(2, .long r7376), (5, .long l7351), (4, .int r7132), (0, .ref h0), (1, .int x1)]) hx hb dX12_termOf_164 rfl hl (by decide) rfl (fun ls hl => ?_)
                    refine lv_goto (tgt := 6) hx hb dX12_termOf_165 (by decide) ?_
                    exact ih_6 _ (by omega) H locs ls r7376 m2 rfl (lv_sub hl [0, 3, 4] rfl) ⟨by omega, by omega⟩ (by omega) (hL2) (⟨hkf, ht, hT, by omega, ⟨qq7377, hf7378, hq7379, hA7380⟩, ⟨w7381, hg7382, by omega⟩, ⟨w7383, hg7384, by omega⟩⟩) hI hS
                · skip
                  have k7388 := iv_eq (X := r7132.toInt) (Y := (142)) rfl (by decide) c7354
                  refine lv_lload_n hx hb dX12_termOf_132 rfl (lv_at hl 2 rfl) ?_
                  refine lv_lload hx hb dX12_termOf_133 (lv_at hl 0 rfl) ?_
                  refine lv_lmul hx hb dX12_termOf_135 ?_
                  refine lv_topl (fun l7389 e7390 => ?_)
                  refine lv_goto (tgt := 160) hx hb dX12_termOf_136 (by decide) ?_
                  refine lv_iload_n hx hb dX12_termOf_160 rfl (lv_at hl 4 rfl) ?_
                  refine mx_l (As := [.long l7389, .int x1]) (rest := []) (n := 2) (d := 0) ⟨hx, hb, hml, hown, hts⟩ (c_X12_bounded l E D G h0 hG0 l7389 x1 ⟨by omega, by omega⟩ ff tt m2) wd_1502 wd_1504 wp_54 wd_13 wd_1505 (by decide +kernel) ⟨by rw [hR]; show 0 + 1 ≤ 3 + 3 * k; omega, by rw [hR]; show 8 + (4 + 11) + 40 * (0) ≤ 40 * (3 + 3 * k); omega⟩ hI hN hK hS hG0 (⟨hkf, ht, hT, by omega, ⟨qq7142, hf7143, hq7144, hA7145⟩, ⟨w7146, hg7147, by omega⟩, ⟨w7148, hg7149, by omega⟩⟩) rfl hl.1 rfl (Nat.le_of_ble_eq_true rfl) dX12_termOf_161 ⟨Nat.zero_le _, Nat.zero_le _⟩ (fun r7391 H locs hI hp hS => ?_)
                  have hp0 := hp
                  obtain ⟨hkf, ht, hT, k7400, ⟨qq7392, hf7393, hq7394, hA7395⟩, ⟨w7396, hg7397, k7401⟩, ⟨w7398, hg7399, k7402⟩⟩ := hp0
                  refine lv_lstore_n (lv' := [(2, .long r7391), (5, .long l7351), (4, .int r7132), (0, .ref h0), (1, .int x1)]) hx hb dX12_termOf_164 rfl hl (by decide) rfl (fun ls hl => ?_)
                  refine lv_goto (tgt := 6) hx hb dX12_termOf_165 (by decide) ?_
                  exact ih_6 _ (by omega) H locs ls r7391 m2 rfl (lv_sub hl [0, 3, 4] rfl) ⟨by omega, by omega⟩ (by omega) (hL2) (⟨hkf, ht, hT, by omega, ⟨qq7392, hf7393, hq7394, hA7395⟩, ⟨w7396, hg7397, by omega⟩, ⟨w7398, hg7399, by omega⟩⟩) hI hS
      · skip
        have k7403 := iv_ne (X := r7121.toInt) (Y := (142)) rfl (by decide) c7126
        refine lv_aload_n hx hb dX12_termOf_22 rfl (lv_at hl 1 rfl) ?_
        refine lv_aload_n hx hb dX12_termOf_23 rfl (lv_at hl 1 rfl) ?_
        refine gmI hx hb hts inT12 hown hK hI List.not_mem_nil hG0 19 (by decide) (hts _ (tb_c wd_1252)) rfl rfl dX12_termOf_24 (fun w7404 hg7405 k7406 k7407 => ?_)
        obtain rfl := gf.uniq (by decide) hg7111 hg7405
        refine mr_i (As := [.int w7110]) (rest := []) (n := 1) (d := 0) ⟨hx, hb, hml, hown, hts⟩ (c_X12_codeAt l E D G H h0 hG0 w7110 ⟨by omega, by omega⟩ ff tt mm mm ⟨hkf, ht, hT, by omega, ⟨qq7106, hf7107, hq7108, hA7109⟩, ⟨w7110, hg7111, by omega⟩, ⟨w7112, hg7113, by omega⟩⟩ (by omega)) wd_1479 wd_1481 wp_49 wd_13 wd_1482 (by decide +kernel) ⟨by rw [hR]; show 0 + 1 ≤ 3 + 3 * k; omega, by rw [hR]; show 8 + (2 + 11) + 40 * (0) ≤ 40 * (3 + 3 * k); omega⟩ hI hN hK hS hG0 rfl hl.1 rfl (Nat.le_of_ble_eq_true rfl) dX12_termOf_27 ⟨Nat.zero_le _, Nat.zero_le _⟩ (fun r7408 locs hp hS => ?_)
        have hc7409 := hp
        refine lv_bipush (v := 47) hx hb dX12_termOf_30 (by decide) ?_
        refine th_cSs (As := [.int 47]) (rest := [.int r7408]) (n := 1) (d := 0) ⟨hx, hb, hml, hown, hts⟩ (c_X12_sign l H 47) wd_1495 wd_1496 wd_13 wd_1497 (by decide +kernel) ⟨by rw [hR]; show 0 + 1 ≤ 3 + 3 * k; omega, by rw [hR]; show 8 + (1 + 11) + 40 * (0) ≤ 40 * (3 + 3 * k); omega⟩ hN hS rfl hl.1 rfl (Nat.le_of_ble_eq_true rfl) dX12_termOf_32 ⟨Nat.zero_le _, Nat.zero_le _⟩ (fun r7410 locs hp hS => ?_)
        obtain rfl : r7410 = 147 := hp.trans (by decide)
        have k7411 := iv_lo r7408
        have k7412 := iv_hi r7408
        refine lv_icmp_eq (tgt := 54) hx hb dX12_termOf_35 (by decide) (fun c7413 => ?_) (fun c7413 => ?_)
        · skip
          have k7414 := iv_eq (X := r7408.toInt) (Y := (147)) rfl (by decide) c7413
          obtain ⟨m2, h1, hL2⟩ := g7_m hL (by omega)
          have hlt2 := Gr.lt kC_end (by decide) h1
          have hle2 := Gr.le kC_end (by decide) hlt2.2 hL2
          refine lv_aload_n hx hb dX12_termOf_54 rfl (lv_at hl 1 rfl) ?_
          refine lv_aload_n hx hb dX12_termOf_55 rfl (lv_at hl 1 rfl) ?_
          refine gmI hx hb hts inT12 hown hK hI List.not_mem_nil hG0 19 (by decide) (hts _ (tb_c wd_1252)) rfl rfl dX12_termOf_56 (fun w7415 hg7416 k7417 k7418 => ?_)
          obtain rfl := gf.uniq (by decide) hg7111 hg7416
          refine mr_i (As := [.int w7110]) (rest := []) (n := 1) (d := 0) ⟨hx, hb, hml, hown, hts⟩ (c_X12_codeAt l E D G H h0 hG0 w7110 ⟨by omega, by omega⟩ ff tt mm mm ⟨hkf, ht, hT, by omega, ⟨qq7106, hf7107, hq7108, hA7109⟩, ⟨w7110, hg7111, by omega⟩, ⟨w7112, hg7113, by omega⟩⟩ (by omega)) wd_1479 wd_1481 wp_49 wd_13 wd_1482 (by decide +kernel) ⟨by rw [hR]; show 0 + 1 ≤ 3 + 3 * k; omega, by rw [hR]; show 8 + (2 + 11) + 40 * (0) ≤ 40 * (3 + 3 * k); omega⟩ hI hN hK hS hG0 rfl hl.1 rfl (Nat.le_of_ble_eq_true rfl) dX12_termOf_59 ⟨Nat.zero_le _, Nat.zero_le _⟩ (fun r7419 locs hp hS => ?_)
          have hc7420 := hp
          refine lv_istore (lv' := [(4, .int r7419), (2, .long l7104), (0, .ref h0), (1, .int x1)]) hx hb dX12_termOf_62 hl (by decide) rfl (fun ls hl => ?_)
          refine lv_aload_n hx hb dX12_termOf_64 rfl (lv_at hl 2 rfl) ?_
          refine lv_dup hx hb dX12_termOf_65 rfl ?_
          refine gmI hx hb hts inT12 hown hK hI List.not_mem_nil hG0 19 (by decide) (hts _ (tb_c wd_1252)) rfl rfl dX12_termOf_66 (fun w7421 hg7422 k7423 k7424 => ?_)
          obtain rfl := gf.uniq (by decide) hg7111 hg7422
          refine lv_iconst (v := 1) hx hb dX12_termOf_69 (by decide) ?_
          refine lv_iadd hx hb dX12_termOf_70 ?_
          refine lv_topi (fun v7425 e7426 => ?_)
          have tv7425 : v7425.toInt = w7110.toInt + (1) := iv_add rfl (by decide) e7426 (by omega) (by omega)
          refine pmI (ty := .int) hx hb hts inT12 hown hK hI List.not_mem_nil hG0 hS ⟨_, hG0⟩ 19 (by decide) (hts _ (tb_c wd_1252)) rfl rfl (by decide +kernel) rfl rfl rfl (by omega) (by omega) dX12_termOf_71 (fun H locs hI hgP hS => ?_)
          have hg7113 := hgP.2.2.1 20 _ (by decide) (by decide) hg7113
          have hg7427 := hgP.2.1
          have hf7107 := hgP.2.2.2 3 _ (by decide) (by decide) hf7107
          have hA7109 := va_at.kept hA7109 (hgP.1 _ (m_ne hq7108 hG0 (by first | decide | (dsimp only; decide))))
          refine lv_aload_n hx hb dX12_termOf_74 rfl (lv_at hl 2 rfl) ?_
          refine lv_iload_n hx hb dX12_termOf_75 rfl (lv_at hl 3 rfl) ?_
          refine mx_l (As := [.int x1]) (rest := []) (n := 1) (d := (2 + 3 * k)) ⟨hx, hb, hml, hown, hts⟩ (hpart h0 hG0 x1 ⟨by omega, by omega⟩ ff tt dd (mm + 1) m2 h1 (by omega)) wd_1491 wd_1493 wp_52 wd_13 wd_1494 (by decide +kernel) ⟨by rw [hR]; show (2 + 3 * k) + 1 ≤ 3 + 3 * k; omega, by rw [hR]; show 8 + (4 + 11) + 40 * ((2 + 3 * k)) ≤ 40 * (3 + 3 * k); omega⟩ hI hN hK hS hG0 (⟨hkf, ht, hT, by omega, ⟨qq7106, hf7107, hq7108, hA7109⟩, ⟨v7425, hg7427, by omega⟩, ⟨w7112, hg7113, by omega⟩⟩) rfl hl.1 rfl (Nat.le_of_ble_eq_true rfl) dX12_termOf_76 ⟨Nat.zero_le _, Nat.zero_le _⟩ (fun r7428 H locs hI hp hS => ?_)
          have hp0 := hp
          obtain ⟨hkf, ht, hT, k7437, ⟨qq7429, hf7430, hq7431, hA7432⟩, ⟨w7433, hg7434, k7438⟩, ⟨w7435, hg7436, k7439⟩⟩ := hp0
          refine lv_lstore (lv' := [(5, .long r7428), (4, .int r7419), (2, .long l7104), (0, .ref h0), (1, .int x1)]) hx hb dX12_termOf_79 hl (by decide) rfl (fun ls hl => ?_)
          refine lv_iload hx hb dX12_termOf_81 (lv_at hl 1 rfl) ?_
          refine lv_bipush (v := 42) hx hb dX12_termOf_83 (by decide) ?_
          refine th_cSs (As := [.int 42]) (rest := [.int r7419]) (n := 1) (d := 0) ⟨hx, hb, hml, hown, hts⟩ (c_X12_sign l H 42) wd_1495 wd_1496 wd_13 wd_1497 (by decide +kernel) ⟨by rw [hR]; show 0 + 1 ≤ 3 + 3 * k; omega, by rw [hR]; show 8 + (1 + 11) + 40 * (0) ≤ 40 * (3 + 3 * k); omega⟩ hN hS rfl hl.1 rfl (Nat.le_of_ble_eq_true rfl) dX12_termOf_85 ⟨Nat.zero_le _, Nat.zero_le _⟩ (fun r7440 locs hp hS => ?_)
          obtain rfl : r7440 = 142 := hp.trans (by decide)
          have k7441 := iv_lo r7419
          have k7442 := iv_hi r7419
          refine lv_icmp_eq (tgt := 121) hx hb dX12_termOf_88 (by decide) (fun c7443 => ?_) (fun c7443 => ?_)
          · skip
            have k7444 := iv_eq (X := r7419.toInt) (Y := (142)) rfl (by decide) c7443
            refine lv_aload_n hx hb dX12_termOf_121 rfl (lv_at hl 3 rfl) ?_
            refine lv_iload hx hb dX12_termOf_122 (lv_at hl 1 rfl) ?_
            refine lv_bipush (v := 42) hx hb dX12_termOf_124 (by decide) ?_
            refine th_cSs (As := [.int 42]) (rest := [.int r7419, .ref h0]) (n := 1) (d := 0) ⟨hx, hb, hml, hown, hts⟩ (c_X12_sign l H 42) wd_1495 wd_1496 wd_13 wd_1497 (by decide +kernel) ⟨by rw [hR]; show 0 + 1 ≤ 3 + 3 * k; omega, by rw [hR]; show 8 + (1 + 11) + 40 * (0) ≤ 40 * (3 + 3 * k); omega⟩ hN hS rfl hl.1 rfl (Nat.le_of_ble_eq_true rfl) dX12_termOf_126 ⟨Nat.zero_le _, Nat.zero_le _⟩ (fun r7445 locs hp hS => ?_)
            obtain rfl : r7445 = 142 := hp.trans (by decide)
            refine lv_icmp_ne (tgt := 139) hx hb dX12_termOf_129 (by decide) (fun c7446 => ?_) (fun c7446 => ?_)
            · skip
              have k7447 := iv_ne (X := r7419.toInt) (Y := (142)) rfl (by decide) c7446
              exfalso; omega
            · skip
              have k7448 := iv_eq (X := r7419.toInt) (Y := (142)) rfl (by decide) c7446
              refine lv_lload_n hx hb dX12_termOf_132 rfl (lv_at hl 2 rfl) ?_
              refine lv_lload hx hb dX12_termOf_133 (lv_at hl 0 rfl) ?_
              refine lv_lmul hx hb dX12_termOf_135 ?_
              refine lv_topl (fun l7449 e7450 => ?_)
              refine lv_goto (tgt := 160) hx hb dX12_termOf_136 (by decide) ?_
              refine lv_iload_n hx hb dX12_termOf_160 rfl (lv_at hl 4 rfl) ?_
              refine mx_l (As := [.long l7449, .int x1]) (rest := []) (n := 2) (d := 0) ⟨hx, hb, hml, hown, hts⟩ (c_X12_bounded l E D G h0 hG0 l7449 x1 ⟨by omega, by omega⟩ ff tt m2) wd_1502 wd_1504 wp_54 wd_13 wd_1505 (by decide +kernel) ⟨by rw [hR]; show 0 + 1 ≤ 3 + 3 * k; omega, by rw [hR]; show 8 + (4 + 11) + 40 * (0) ≤ 40 * (3 + 3 * k); omega⟩ hI hN hK hS hG0 (⟨hkf, ht, hT, by omega, ⟨qq7429, hf7430, hq7431, hA7432⟩, ⟨w7433, hg7434, by omega⟩, ⟨w7435, hg7436, by omega⟩⟩) rfl hl.1 rfl (Nat.le_of_ble_eq_true rfl) dX12_termOf_161 ⟨Nat.zero_le _, Nat.zero_le _⟩ (fun r7451 H locs hI hp hS => ?_)
              have hp0 := hp
              obtain ⟨hkf, ht, hT, k7460, ⟨qq7452, hf7453, hq7454, hA7455⟩, ⟨w7456, hg7457, k7461⟩, ⟨w7458, hg7459, k7462⟩⟩ := hp0
              refine lv_lstore_n (lv' := [(2, .long r7451), (5, .long r7428), (4, .int r7419), (0, .ref h0), (1, .int x1)]) hx hb dX12_termOf_164 rfl hl (by decide) rfl (fun ls hl => ?_)
              refine lv_goto (tgt := 6) hx hb dX12_termOf_165 (by decide) ?_
              exact ih_6 _ (by omega) H locs ls r7451 m2 rfl (lv_sub hl [0, 3, 4] rfl) ⟨by omega, by omega⟩ (by omega) (hL2) (⟨hkf, ht, hT, by omega, ⟨qq7452, hf7453, hq7454, hA7455⟩, ⟨w7456, hg7457, by omega⟩, ⟨w7458, hg7459, by omega⟩⟩) hI hS
          · skip
            have k7463 := iv_ne (X := r7419.toInt) (Y := (142)) rfl (by decide) c7443
            refine lv_lload hx hb dX12_termOf_91 (lv_at hl 0 rfl) ?_
            refine lv_lconst hx hb dX12_termOf_93 rfl ?_
            refine lv_topl (fun l7464 e7465 => ?_)
            refine W.lcmp hx hb dX12_termOf_94 ?_
            refine lv_topi (fun v7466 e7467 => ?_)
            have tv7466 := iv_cmp e7467
            refine lv_if_ne (tgt := 121) hx hb dX12_termOf_95 (by decide) (fun c7468 => ?_) (fun c7468 => ?_)
            · skip
              have k7469 := iv_ne (X := v7466.toInt) (Y := (0)) rfl (by decide) c7468
              refine lv_aload_n hx hb dX12_termOf_121 rfl (lv_at hl 3 rfl) ?_
              refine lv_iload hx hb dX12_termOf_122 (lv_at hl 1 rfl) ?_
              refine lv_bipush (v := 42) hx hb dX12_termOf_124 (by decide) ?_
              refine th_cSs (As := [.int 42]) (rest := [.int r7419, .ref h0]) (n := 1) (d := 0) ⟨hx, hb, hml, hown, hts⟩ (c_X12_sign l H 42) wd_1495 wd_1496 wd_13 wd_1497 (by decide +kernel) ⟨by rw [hR]; show 0 + 1 ≤ 3 + 3 * k; omega, by rw [hR]; show 8 + (1 + 11) + 40 * (0) ≤ 40 * (3 + 3 * k); omega⟩ hN hS rfl hl.1 rfl (Nat.le_of_ble_eq_true rfl) dX12_termOf_126 ⟨Nat.zero_le _, Nat.zero_le _⟩ (fun r7470 locs hp hS => ?_)
              obtain rfl : r7470 = 142 := hp.trans (by decide)
              refine lv_icmp_ne (tgt := 139) hx hb dX12_termOf_129 (by decide) (fun c7471 => ?_) (fun c7471 => ?_)
              · skip
                have k7472 := iv_ne (X := r7419.toInt) (Y := (142)) rfl (by decide) c7471
                refine lv_iload hx hb dX12_termOf_139 (lv_at hl 1 rfl) ?_
                refine lv_bipush (v := 47) hx hb dX12_termOf_141 (by decide) ?_
                refine th_cSs (As := [.int 47]) (rest := [.int r7419, .ref h0]) (n := 1) (d := 0) ⟨hx, hb, hml, hown, hts⟩ (c_X12_sign l H 47) wd_1495 wd_1496 wd_13 wd_1497 (by decide +kernel) ⟨by rw [hR]; show 0 + 1 ≤ 3 + 3 * k; omega, by rw [hR]; show 8 + (1 + 11) + 40 * (0) ≤ 40 * (3 + 3 * k); omega⟩ hN hS rfl hl.1 rfl (Nat.le_of_ble_eq_true rfl) dX12_termOf_143 ⟨Nat.zero_le _, Nat.zero_le _⟩ (fun r7473 locs hp hS => ?_)
                obtain rfl : r7473 = 147 := hp.trans (by decide)
                refine lv_icmp_ne (tgt := 156) hx hb dX12_termOf_146 (by decide) (fun c7474 => ?_) (fun c7474 => ?_)
                · skip
                  have k7475 := iv_ne (X := r7419.toInt) (Y := (147)) rfl (by decide) c7474
                  refine lv_lload_n hx hb dX12_termOf_156 rfl (lv_at hl 2 rfl) ?_
                  refine lv_lload hx hb dX12_termOf_157 (lv_at hl 0 rfl) ?_
                  refine lv_lrem hx hb dX12_termOf_159 (fun h0 => by have := iv_cmp0 e7467 h0 e7465; omega) ?_
                  refine lv_topl (fun l7476 e7477 => ?_)
                  refine lv_iload_n hx hb dX12_termOf_160 rfl (lv_at hl 4 rfl) ?_
                  refine mx_l (As := [.long l7476, .int x1]) (rest := []) (n := 2) (d := 0) ⟨hx, hb, hml, hown, hts⟩ (c_X12_bounded l E D G h0 hG0 l7476 x1 ⟨by omega, by omega⟩ ff tt m2) wd_1502 wd_1504 wp_54 wd_13 wd_1505 (by decide +kernel) ⟨by rw [hR]; show 0 + 1 ≤ 3 + 3 * k; omega, by rw [hR]; show 8 + (4 + 11) + 40 * (0) ≤ 40 * (3 + 3 * k); omega⟩ hI hN hK hS hG0 (⟨hkf, ht, hT, by omega, ⟨qq7429, hf7430, hq7431, hA7432⟩, ⟨w7433, hg7434, by omega⟩, ⟨w7435, hg7436, by omega⟩⟩) rfl hl.1 rfl (Nat.le_of_ble_eq_true rfl) dX12_termOf_161 ⟨Nat.zero_le _, Nat.zero_le _⟩ (fun r7478 H locs hI hp hS => ?_)
                  have hp0 := hp
                  obtain ⟨hkf, ht, hT, k7487, ⟨qq7479, hf7480, hq7481, hA7482⟩, ⟨w7483, hg7484, k7488⟩, ⟨w7485, hg7486, k7489⟩⟩ := hp0
                  refine lv_lstore_n (lv' := [(2, .long r7478), (5, .long r7428), (4, .int r7419), (0, .ref h0), (1, .int x1)]) hx hb dX12_termOf_164 rfl hl (by decide) rfl (fun ls hl => ?_)
                  refine lv_goto (tgt := 6) hx hb dX12_termOf_165 (by decide) ?_
                  exact ih_6 _ (by omega) H locs ls r7478 m2 rfl (lv_sub hl [0, 3, 4] rfl) ⟨by omega, by omega⟩ (by omega) (hL2) (⟨hkf, ht, hT, by omega, ⟨qq7479, hf7480, hq7481, hA7482⟩, ⟨w7483, hg7484, by omega⟩, ⟨w7485, hg7486, by omega⟩⟩) hI hS
                · skip
                  have k7490 := iv_eq (X := r7419.toInt) (Y := (147)) rfl (by decide) c7474
                  refine lv_lload_n hx hb dX12_termOf_149 rfl (lv_at hl 2 rfl) ?_
                  refine lv_lload hx hb dX12_termOf_150 (lv_at hl 0 rfl) ?_
                  refine lv_ldiv hx hb dX12_termOf_152 (fun h0 => by have := iv_cmp0 e7467 h0 e7465; omega) ?_
                  refine lv_topl (fun l7491 e7492 => ?_)
                  refine lv_goto (tgt := 160) hx hb dX12_termOf_153 (by decide) ?_
                  refine lv_iload_n hx hb dX12_termOf_160 rfl (lv_at hl 4 rfl) ?_
                  refine mx_l (As := [.long l7491, .int x1]) (rest := []) (n := 2) (d := 0) ⟨hx, hb, hml, hown, hts⟩ (c_X12_bounded l E D G h0 hG0 l7491 x1 ⟨by omega, by omega⟩ ff tt m2) wd_1502 wd_1504 wp_54 wd_13 wd_1505 (by decide +kernel) ⟨by rw [hR]; show 0 + 1 ≤ 3 + 3 * k; omega, by rw [hR]; show 8 + (4 + 11) + 40 * (0) ≤ 40 * (3 + 3 * k); omega⟩ hI hN hK hS hG0 (⟨hkf, ht, hT, by omega, ⟨qq7429, hf7430, hq7431, hA7432⟩, ⟨w7433, hg7434, by omega⟩, ⟨w7435, hg7436, by omega⟩⟩) rfl hl.1 rfl (Nat.le_of_ble_eq_true rfl) dX12_termOf_161 ⟨Nat.zero_le _, Nat.zero_le _⟩ (fun r7493 H locs hI hp hS => ?_)
                  have hp0 := hp
                  obtain ⟨hkf, ht, hT, k7502, ⟨qq7494, hf7495, hq7496, hA7497⟩, ⟨w7498, hg7499, k7503⟩, ⟨w7500, hg7501, k7504⟩⟩ := hp0
                  refine lv_lstore_n (lv' := [(2, .long r7493), (5, .long r7428), (4, .int r7419), (0, .ref h0), (1, .int x1)]) hx hb dX12_termOf_164 rfl hl (by decide) rfl (fun ls hl => ?_)
                  refine lv_goto (tgt := 6) hx hb dX12_termOf_165 (by decide) ?_
                  exact ih_6 _ (by omega) H locs ls r7493 m2 rfl (lv_sub hl [0, 3, 4] rfl) ⟨by omega, by omega⟩ (by omega) (hL2) (⟨hkf, ht, hT, by omega, ⟨qq7494, hf7495, hq7496, hA7497⟩, ⟨w7498, hg7499, by omega⟩, ⟨w7500, hg7501, by omega⟩⟩) hI hS
              · skip
                have k7505 := iv_eq (X := r7419.toInt) (Y := (142)) rfl (by decide) c7471
                refine lv_lload_n hx hb dX12_termOf_132 rfl (lv_at hl 2 rfl) ?_
                refine lv_lload hx hb dX12_termOf_133 (lv_at hl 0 rfl) ?_
                refine lv_lmul hx hb dX12_termOf_135 ?_
                refine lv_topl (fun l7506 e7507 => ?_)
                refine lv_goto (tgt := 160) hx hb dX12_termOf_136 (by decide) ?_
                refine lv_iload_n hx hb dX12_termOf_160 rfl (lv_at hl 4 rfl) ?_
                refine mx_l (As := [.long l7506, .int x1]) (rest := []) (n := 2) (d := 0) ⟨hx, hb, hml, hown, hts⟩ (c_X12_bounded l E D G h0 hG0 l7506 x1 ⟨by omega, by omega⟩ ff tt m2) wd_1502 wd_1504 wp_54 wd_13 wd_1505 (by decide +kernel) ⟨by rw [hR]; show 0 + 1 ≤ 3 + 3 * k; omega, by rw [hR]; show 8 + (4 + 11) + 40 * (0) ≤ 40 * (3 + 3 * k); omega⟩ hI hN hK hS hG0 (⟨hkf, ht, hT, by omega, ⟨qq7429, hf7430, hq7431, hA7432⟩, ⟨w7433, hg7434, by omega⟩, ⟨w7435, hg7436, by omega⟩⟩) rfl hl.1 rfl (Nat.le_of_ble_eq_true rfl) dX12_termOf_161 ⟨Nat.zero_le _, Nat.zero_le _⟩ (fun r7508 H locs hI hp hS => ?_)
                have hp0 := hp
                obtain ⟨hkf, ht, hT, k7517, ⟨qq7509, hf7510, hq7511, hA7512⟩, ⟨w7513, hg7514, k7518⟩, ⟨w7515, hg7516, k7519⟩⟩ := hp0
                refine lv_lstore_n (lv' := [(2, .long r7508), (5, .long r7428), (4, .int r7419), (0, .ref h0), (1, .int x1)]) hx hb dX12_termOf_164 rfl hl (by decide) rfl (fun ls hl => ?_)
                refine lv_goto (tgt := 6) hx hb dX12_termOf_165 (by decide) ?_
                exact ih_6 _ (by omega) H locs ls r7508 m2 rfl (lv_sub hl [0, 3, 4] rfl) ⟨by omega, by omega⟩ (by omega) (hL2) (⟨hkf, ht, hT, by omega, ⟨qq7509, hf7510, hq7511, hA7512⟩, ⟨w7513, hg7514, by omega⟩, ⟨w7515, hg7516, by omega⟩⟩) hI hS
            · skip
              have k7520 := iv_eq (X := v7466.toInt) (Y := (0)) rfl (by decide) c7468
              refine lv_aload_n hx hb dX12_termOf_98 rfl (lv_at hl 3 rfl) ?_
              refine lv_aload_n hx hb dX12_termOf_99 rfl (lv_at hl 3 rfl) ?_
              refine gmI hx hb hts inT12 hown hK hI List.not_mem_nil hG0 21 (by decide) (hts _ (tb_c wd_1254)) rfl rfl dX12_termOf_100 (fun w7521 hg7522 k7523 k7524 => ?_)
              refine lv_if_ne (tgt := 110) hx hb dX12_termOf_103 (by decide) (fun c7525 => ?_) (fun c7525 => ?_)
              · skip
                have k7526 := iv_ne (X := w7521.toInt) (Y := (0)) rfl (by decide) c7525
                refine lv_iconst (v := 1) hx hb dX12_termOf_110 (by decide) ?_
                refine lv_goto (tgt := 115) hx hb dX12_termOf_111 (by decide) ?_
                refine pmI (ty := .boolean) hx hb hts inT12 hown hK hI List.not_mem_nil hG0 hS ⟨_, hG0⟩ 21 (by decide) (hts _ (tb_c wd_1254)) rfl rfl (by decide +kernel) (by decide) rfl rfl (by decide) (by decide) dX12_termOf_115 (fun H locs hI hgP hS => ?_)
                have hg7434 := hgP.2.2.1 19 _ (by decide) (by decide) hg7434
                have hg7436 := hgP.2.2.1 20 _ (by decide) (by decide) hg7436
                have hg7527 := hgP.2.1
                have hf7430 := hgP.2.2.2 3 _ (by decide) (by decide) hf7430
                have hA7432 := va_at.kept hA7432 (hgP.1 _ (m_ne hq7431 hG0 (by first | decide | (dsimp only; decide))))
                refine lv_lconst hx hb dX12_termOf_118 rfl ?_
                refine lv_topl (fun l7528 e7529 => ?_)
                refine lv_lstore (lv' := [(5, .long l7528), (4, .int r7419), (2, .long l7104), (0, .ref h0), (1, .int x1)]) hx hb dX12_termOf_119 hl (by decide) rfl (fun ls hl => ?_)
                refine lv_aload_n hx hb dX12_termOf_121 rfl (lv_at hl 3 rfl) ?_
                refine lv_iload hx hb dX12_termOf_122 (lv_at hl 1 rfl) ?_
                refine lv_bipush (v := 42) hx hb dX12_termOf_124 (by decide) ?_
                refine th_cSs (As := [.int 42]) (rest := [.int r7419, .ref h0]) (n := 1) (d := 0) ⟨hx, hb, hml, hown, hts⟩ (c_X12_sign l H 42) wd_1495 wd_1496 wd_13 wd_1497 (by decide +kernel) ⟨by rw [hR]; show 0 + 1 ≤ 3 + 3 * k; omega, by rw [hR]; show 8 + (1 + 11) + 40 * (0) ≤ 40 * (3 + 3 * k); omega⟩ hN hS rfl hl.1 rfl (Nat.le_of_ble_eq_true rfl) dX12_termOf_126 ⟨Nat.zero_le _, Nat.zero_le _⟩ (fun r7530 locs hp hS => ?_)
                obtain rfl : r7530 = 142 := hp.trans (by decide)
                refine lv_icmp_ne (tgt := 139) hx hb dX12_termOf_129 (by decide) (fun c7531 => ?_) (fun c7531 => ?_)
                · skip
                  have k7532 := iv_ne (X := r7419.toInt) (Y := (142)) rfl (by decide) c7531
                  refine lv_iload hx hb dX12_termOf_139 (lv_at hl 1 rfl) ?_
                  refine lv_bipush (v := 47) hx hb dX12_termOf_141 (by decide) ?_
                  refine th_cSs (As := [.int 47]) (rest := [.int r7419, .ref h0]) (n := 1) (d := 0) ⟨hx, hb, hml, hown, hts⟩ (c_X12_sign l H 47) wd_1495 wd_1496 wd_13 wd_1497 (by decide +kernel) ⟨by rw [hR]; show 0 + 1 ≤ 3 + 3 * k; omega, by rw [hR]; show 8 + (1 + 11) + 40 * (0) ≤ 40 * (3 + 3 * k); omega⟩ hN hS rfl hl.1 rfl (Nat.le_of_ble_eq_true rfl) dX12_termOf_143 ⟨Nat.zero_le _, Nat.zero_le _⟩ (fun r7533 locs hp hS => ?_)
                  obtain rfl : r7533 = 147 := hp.trans (by decide)
                  refine lv_icmp_ne (tgt := 156) hx hb dX12_termOf_146 (by decide) (fun c7534 => ?_) (fun c7534 => ?_)
                  · skip
                    have k7535 := iv_ne (X := r7419.toInt) (Y := (147)) rfl (by decide) c7534
                    refine lv_lload_n hx hb dX12_termOf_156 rfl (lv_at hl 2 rfl) ?_
                    refine lv_lload hx hb dX12_termOf_157 (lv_at hl 0 rfl) ?_
                    refine lv_lrem hx hb dX12_termOf_159 (by rw [e7529]; decide) ?_
                    refine lv_topl (fun l7536 e7537 => ?_)
                    refine lv_iload_n hx hb dX12_termOf_160 rfl (lv_at hl 4 rfl) ?_
                    refine mx_l (As := [.long l7536, .int x1]) (rest := []) (n := 2) (d := 0) ⟨hx, hb, hml, hown, hts⟩ (c_X12_bounded l E D G h0 hG0 l7536 x1 ⟨by omega, by omega⟩ ff tt m2) wd_1502 wd_1504 wp_54 wd_13 wd_1505 (by decide +kernel) ⟨by rw [hR]; show 0 + 1 ≤ 3 + 3 * k; omega, by rw [hR]; show 8 + (4 + 11) + 40 * (0) ≤ 40 * (3 + 3 * k); omega⟩ hI hN hK hS hG0 (⟨hkf, ht, hT, by omega, ⟨qq7429, hf7430, hq7431, hA7432⟩, ⟨w7433, hg7434, by omega⟩, ⟨w7435, hg7436, by omega⟩⟩) rfl hl.1 rfl (Nat.le_of_ble_eq_true rfl) dX12_termOf_161 ⟨Nat.zero_le _, Nat.zero_le _⟩ (fun r7538 H locs hI hp hS => ?_)
                    have hp0 := hp
                    obtain ⟨hkf, ht, hT, k7547, ⟨qq7539, hf7540, hq7541, hA7542⟩, ⟨w7543, hg7544, k7548⟩, ⟨w7545, hg7546, k7549⟩⟩ := hp0
                    refine lv_lstore_n (lv' := [(2, .long r7538), (5, .long l7528), (4, .int r7419), (0, .ref h0), (1, .int x1)]) hx hb dX12_termOf_164 rfl hl (by decide) rfl (fun ls hl => ?_)
                    refine lv_goto (tgt := 6) hx hb dX12_termOf_165 (by decide) ?_
                    exact ih_6 _ (by omega) H locs ls r7538 m2 rfl (lv_sub hl [0, 3, 4] rfl) ⟨by omega, by omega⟩ (by omega) (hL2) (⟨hkf, ht, hT, by omega, ⟨qq7539, hf7540, hq7541, hA7542⟩, ⟨w7543, hg7544, by omega⟩, ⟨w7545, hg7546, by omega⟩⟩) hI hS
                  · skip
                    have k7550 := iv_eq (X := r7419.toInt) (Y := (147)) rfl (by decide) c7534
                    refine lv_lload_n hx hb dX12_termOf_149 rfl (lv_at hl 2 rfl) ?_
                    refine lv_lload hx hb dX12_termOf_150 (lv_at hl 0 rfl) ?_
                    refine lv_ldiv hx hb dX12_termOf_152 (by rw [e7529]; decide) ?_
                    refine lv_topl (fun l7551 e7552 => ?_)
                    refine lv_goto (tgt := 160) hx hb dX12_termOf_153 (by decide) ?_
                    refine lv_iload_n hx hb dX12_termOf_160 rfl (lv_at hl 4 rfl) ?_
                    refine mx_l (As := [.long l7551, .int x1]) (rest := []) (n := 2) (d := 0) ⟨hx, hb, hml, hown, hts⟩ (c_X12_bounded l E D G h0 hG0 l7551 x1 ⟨by omega, by omega⟩ ff tt m2) wd_1502 wd_1504 wp_54 wd_13 wd_1505 (by decide +kernel) ⟨by rw [hR]; show 0 + 1 ≤ 3 + 3 * k; omega, by rw [hR]; show 8 + (4 + 11) + 40 * (0) ≤ 40 * (3 + 3 * k); omega⟩ hI hN hK hS hG0 (⟨hkf, ht, hT, by omega, ⟨qq7429, hf7430, hq7431, hA7432⟩, ⟨w7433, hg7434, by omega⟩, ⟨w7435, hg7436, by omega⟩⟩) rfl hl.1 rfl (Nat.le_of_ble_eq_true rfl) dX12_termOf_161 ⟨Nat.zero_le _, Nat.zero_le _⟩ (fun r7553 H locs hI hp hS => ?_)
                    have hp0 := hp
                    obtain ⟨hkf, ht, hT, k7562, ⟨qq7554, hf7555, hq7556, hA7557⟩, ⟨w7558, hg7559, k7563⟩, ⟨w7560, hg7561, k7564⟩⟩ := hp0
                    refine lv_lstore_n (lv' := [(2, .long r7553), (5, .long l7528), (4, .int r7419), (0, .ref h0), (1, .int x1)]) hx hb dX12_termOf_164 rfl hl (by decide) rfl (fun ls hl => ?_)
                    refine lv_goto (tgt := 6) hx hb dX12_termOf_165 (by decide) ?_
                    exact ih_6 _ (by omega) H locs ls r7553 m2 rfl (lv_sub hl [0, 3, 4] rfl) ⟨by omega, by omega⟩ (by omega) (hL2) (⟨hkf, ht, hT, by omega, ⟨qq7554, hf7555, hq7556, hA7557⟩, ⟨w7558, hg7559, by omega⟩, ⟨w7560, hg7561, by omega⟩⟩) hI hS
                · skip
                  have k7565 := iv_eq (X := r7419.toInt) (Y := (142)) rfl (by decide) c7531
                  refine lv_lload_n hx hb dX12_termOf_132 rfl (lv_at hl 2 rfl) ?_
                  refine lv_lload hx hb dX12_termOf_133 (lv_at hl 0 rfl) ?_
                  refine lv_lmul hx hb dX12_termOf_135 ?_
                  refine lv_topl (fun l7566 e7567 => ?_)
                  refine lv_goto (tgt := 160) hx hb dX12_termOf_136 (by decide) ?_
                  refine lv_iload_n hx hb dX12_termOf_160 rfl (lv_at hl 4 rfl) ?_
                  refine mx_l (As := [.long l7566, .int x1]) (rest := []) (n := 2) (d := 0) ⟨hx, hb, hml, hown, hts⟩ (c_X12_bounded l E D G h0 hG0 l7566 x1 ⟨by omega, by omega⟩ ff tt m2) wd_1502 wd_1504 wp_54 wd_13 wd_1505 (by decide +kernel) ⟨by rw [hR]; show 0 + 1 ≤ 3 + 3 * k; omega, by rw [hR]; show 8 + (4 + 11) + 40 * (0) ≤ 40 * (3 + 3 * k); omega⟩ hI hN hK hS hG0 (⟨hkf, ht, hT, by omega, ⟨qq7429, hf7430, hq7431, hA7432⟩, ⟨w7433, hg7434, by omega⟩, ⟨w7435, hg7436, by omega⟩⟩) rfl hl.1 rfl (Nat.le_of_ble_eq_true rfl) dX12_termOf_161 ⟨Nat.zero_le _, Nat.zero_le _⟩ (fun r7568 H locs hI hp hS => ?_)
                  have hp0 := hp
                  obtain ⟨hkf, ht, hT, k7577, ⟨qq7569, hf7570, hq7571, hA7572⟩, ⟨w7573, hg7574, k7578⟩, ⟨w7575, hg7576, k7579⟩⟩ := hp0
                  refine lv_lstore_n (lv' := [(2, .long r7568), (5, .long l7528), (4, .int r7419), (0, .ref h0), (1, .int x1)]) hx hb dX12_termOf_164 rfl hl (by decide) rfl (fun ls hl => ?_)
                  refine lv_goto (tgt := 6) hx hb dX12_termOf_165 (by decide) ?_
                  exact ih_6 _ (by omega) H locs ls r7568 m2 rfl (lv_sub hl [0, 3, 4] rfl) ⟨by omega, by omega⟩ (by omega) (hL2) (⟨hkf, ht, hT, by omega, ⟨qq7569, hf7570, hq7571, hA7572⟩, ⟨w7573, hg7574, by omega⟩, ⟨w7575, hg7576, by omega⟩⟩) hI hS
              · skip
                have k7580 := iv_eq (X := w7521.toInt) (Y := (0)) rfl (by decide) c7525
                refine lv_iload_n hx hb dX12_termOf_106 rfl (lv_at hl 4 rfl) ?_
                refine lv_if_eq (tgt := 114) hx hb dX12_termOf_107 (by decide) (fun c7581 => ?_) (fun c7581 => ?_)
                · skip
                  have k7582 := iv_eq (X := x1.toInt) (Y := (0)) rfl (by decide) c7581
                  refine lv_iconst (v := 0) hx hb dX12_termOf_114 (by decide) ?_
                  refine pmI (ty := .boolean) hx hb hts inT12 hown hK hI List.not_mem_nil hG0 hS ⟨_, hG0⟩ 21 (by decide) (hts _ (tb_c wd_1254)) rfl rfl (by decide +kernel) (by decide) rfl rfl (by decide) (by decide) dX12_termOf_115 (fun H locs hI hgP hS => ?_)
                  have hg7434 := hgP.2.2.1 19 _ (by decide) (by decide) hg7434
                  have hg7436 := hgP.2.2.1 20 _ (by decide) (by decide) hg7436
                  have hg7583 := hgP.2.1
                  have hf7430 := hgP.2.2.2 3 _ (by decide) (by decide) hf7430
                  have hA7432 := va_at.kept hA7432 (hgP.1 _ (m_ne hq7431 hG0 (by first | decide | (dsimp only; decide))))
                  refine lv_lconst hx hb dX12_termOf_118 rfl ?_
                  refine lv_topl (fun l7584 e7585 => ?_)
                  refine lv_lstore (lv' := [(5, .long l7584), (4, .int r7419), (2, .long l7104), (0, .ref h0), (1, .int x1)]) hx hb dX12_termOf_119 hl (by decide) rfl (fun ls hl => ?_)
                  refine lv_aload_n hx hb dX12_termOf_121 rfl (lv_at hl 3 rfl) ?_
                  refine lv_iload hx hb dX12_termOf_122 (lv_at hl 1 rfl) ?_
                  refine lv_bipush (v := 42) hx hb dX12_termOf_124 (by decide) ?_
                  refine th_cSs (As := [.int 42]) (rest := [.int r7419, .ref h0]) (n := 1) (d := 0) ⟨hx, hb, hml, hown, hts⟩ (c_X12_sign l H 42) wd_1495 wd_1496 wd_13 wd_1497 (by decide +kernel) ⟨by rw [hR]; show 0 + 1 ≤ 3 + 3 * k; omega, by rw [hR]; show 8 + (1 + 11) + 40 * (0) ≤ 40 * (3 + 3 * k); omega⟩ hN hS rfl hl.1 rfl (Nat.le_of_ble_eq_true rfl) dX12_termOf_126 ⟨Nat.zero_le _, Nat.zero_le _⟩ (fun r7586 locs hp hS => ?_)
                  obtain rfl : r7586 = 142 := hp.trans (by decide)
                  refine lv_icmp_ne (tgt := 139) hx hb dX12_termOf_129 (by decide) (fun c7587 => ?_) (fun c7587 => ?_)
                  · skip
                    have k7588 := iv_ne (X := r7419.toInt) (Y := (142)) rfl (by decide) c7587
                    refine lv_iload hx hb dX12_termOf_139 (lv_at hl 1 rfl) ?_
                    refine lv_bipush (v := 47) hx hb dX12_termOf_141 (by decide) ?_
                    refine th_cSs (As := [.int 47]) (rest := [.int r7419, .ref h0]) (n := 1) (d := 0) ⟨hx, hb, hml, hown, hts⟩ (c_X12_sign l H 47) wd_1495 wd_1496 wd_13 wd_1497 (by decide +kernel) ⟨by rw [hR]; show 0 + 1 ≤ 3 + 3 * k; omega, by rw [hR]; show 8 + (1 + 11) + 40 * (0) ≤ 40 * (3 + 3 * k); omega⟩ hN hS rfl hl.1 rfl (Nat.le_of_ble_eq_true rfl) dX12_termOf_143 ⟨Nat.zero_le _, Nat.zero_le _⟩ (fun r7589 locs hp hS => ?_)
                    obtain rfl : r7589 = 147 := hp.trans (by decide)
                    refine lv_icmp_ne (tgt := 156) hx hb dX12_termOf_146 (by decide) (fun c7590 => ?_) (fun c7590 => ?_)
                    · skip
                      have k7591 := iv_ne (X := r7419.toInt) (Y := (147)) rfl (by decide) c7590
                      refine lv_lload_n hx hb dX12_termOf_156 rfl (lv_at hl 2 rfl) ?_
                      refine lv_lload hx hb dX12_termOf_157 (lv_at hl 0 rfl) ?_
                      refine lv_lrem hx hb dX12_termOf_159 (by rw [e7585]; decide) ?_
                      refine lv_topl (fun l7592 e7593 => ?_)
                      refine lv_iload_n hx hb dX12_termOf_160 rfl (lv_at hl 4 rfl) ?_
                      refine mx_l (As := [.long l7592, .int x1]) (rest := []) (n := 2) (d := 0) ⟨hx, hb, hml, hown, hts⟩ (c_X12_bounded l E D G h0 hG0 l7592 x1 ⟨by omega, by omega⟩ ff tt m2) wd_1502 wd_1504 wp_54 wd_13 wd_1505 (by decide +kernel) ⟨by rw [hR]; show 0 + 1 ≤ 3 + 3 * k; omega, by rw [hR]; show 8 + (4 + 11) + 40 * (0) ≤ 40 * (3 + 3 * k); omega⟩ hI hN hK hS hG0 (⟨hkf, ht, hT, by omega, ⟨qq7429, hf7430, hq7431, hA7432⟩, ⟨w7433, hg7434, by omega⟩, ⟨w7435, hg7436, by omega⟩⟩) rfl hl.1 rfl (Nat.le_of_ble_eq_true rfl) dX12_termOf_161 ⟨Nat.zero_le _, Nat.zero_le _⟩ (fun r7594 H locs hI hp hS => ?_)
                      have hp0 := hp
                      obtain ⟨hkf, ht, hT, k7603, ⟨qq7595, hf7596, hq7597, hA7598⟩, ⟨w7599, hg7600, k7604⟩, ⟨w7601, hg7602, k7605⟩⟩ := hp0
                      refine lv_lstore_n (lv' := [(2, .long r7594), (5, .long l7584), (4, .int r7419), (0, .ref h0), (1, .int x1)]) hx hb dX12_termOf_164 rfl hl (by decide) rfl (fun ls hl => ?_)
                      refine lv_goto (tgt := 6) hx hb dX12_termOf_165 (by decide) ?_
                      exact ih_6 _ (by omega) H locs ls r7594 m2 rfl (lv_sub hl [0, 3, 4] rfl) ⟨by omega, by omega⟩ (by omega) (hL2) (⟨hkf, ht, hT, by omega, ⟨qq7595, hf7596, hq7597, hA7598⟩, ⟨w7599, hg7600, by omega⟩, ⟨w7601, hg7602, by omega⟩⟩) hI hS
                    · skip
                      have k7606 := iv_eq (X := r7419.toInt) (Y := (147)) rfl (by decide) c7590
                      refine lv_lload_n hx hb dX12_termOf_149 rfl (lv_at hl 2 rfl) ?_
                      refine lv_lload hx hb dX12_termOf_150 (lv_at hl 0 rfl) ?_
                      refine lv_ldiv hx hb dX12_termOf_152 (by rw [e7585]; decide) ?_
                      refine lv_topl (fun l7607 e7608 => ?_)
                      refine lv_goto (tgt := 160) hx hb dX12_termOf_153 (by decide) ?_
                      refine lv_iload_n hx hb dX12_termOf_160 rfl (lv_at hl 4 rfl) ?_
                      refine mx_l (As := [.long l7607, .int x1]) (rest := []) (n := 2) (d := 0) ⟨hx, hb, hml, hown, hts⟩ (c_X12_bounded l E D G h0 hG0 l7607 x1 ⟨by omega, by omega⟩ ff tt m2) wd_1502 wd_1504 wp_54 wd_13 wd_1505 (by decide +kernel) ⟨by rw [hR]; show 0 + 1 ≤ 3 + 3 * k; omega, by rw [hR]; show 8 + (4 + 11) + 40 * (0) ≤ 40 * (3 + 3 * k); omega⟩ hI hN hK hS hG0 (⟨hkf, ht, hT, by omega, ⟨qq7429, hf7430, hq7431, hA7432⟩, ⟨w7433, hg7434, by omega⟩, ⟨w7435, hg7436, by omega⟩⟩) rfl hl.1 rfl (Nat.le_of_ble_eq_true rfl) dX12_termOf_161 ⟨Nat.zero_le _, Nat.zero_le _⟩ (fun r7609 H locs hI hp hS => ?_)
                      have hp0 := hp
                      obtain ⟨hkf, ht, hT, k7618, ⟨qq7610, hf7611, hq7612, hA7613⟩, ⟨w7614, hg7615, k7619⟩, ⟨w7616, hg7617, k7620⟩⟩ := hp0
                      refine lv_lstore_n (lv' := [(2, .long r7609), (5, .long l7584), (4, .int r7419), (0, .ref h0), (1, .int x1)]) hx hb dX12_termOf_164 rfl hl (by decide) rfl (fun ls hl => ?_)
                      refine lv_goto (tgt := 6) hx hb dX12_termOf_165 (by decide) ?_
                      exact ih_6 _ (by omega) H locs ls r7609 m2 rfl (lv_sub hl [0, 3, 4] rfl) ⟨by omega, by omega⟩ (by omega) (hL2) (⟨hkf, ht, hT, by omega, ⟨qq7610, hf7611, hq7612, hA7613⟩, ⟨w7614, hg7615, by omega⟩, ⟨w7616, hg7617, by omega⟩⟩) hI hS
                  · skip
                    have k7621 := iv_eq (X := r7419.toInt) (Y := (142)) rfl (by decide) c7587
                    refine lv_lload_n hx hb dX12_termOf_132 rfl (lv_at hl 2 rfl) ?_
                    refine lv_lload hx hb dX12_termOf_133 (lv_at hl 0 rfl) ?_
                    refine lv_lmul hx hb dX12_termOf_135 ?_
                    refine lv_topl (fun l7622 e7623 => ?_)
                    refine lv_goto (tgt := 160) hx hb dX12_termOf_136 (by decide) ?_
                    refine lv_iload_n hx hb dX12_termOf_160 rfl (lv_at hl 4 rfl) ?_
                    refine mx_l (As := [.long l7622, .int x1]) (rest := []) (n := 2) (d := 0) ⟨hx, hb, hml, hown, hts⟩ (c_X12_bounded l E D G h0 hG0 l7622 x1 ⟨by omega, by omega⟩ ff tt m2) wd_1502 wd_1504 wp_54 wd_13 wd_1505 (by decide +kernel) ⟨by rw [hR]; show 0 + 1 ≤ 3 + 3 * k; omega, by rw [hR]; show 8 + (4 + 11) + 40 * (0) ≤ 40 * (3 + 3 * k); omega⟩ hI hN hK hS hG0 (⟨hkf, ht, hT, by omega, ⟨qq7429, hf7430, hq7431, hA7432⟩, ⟨w7433, hg7434, by omega⟩, ⟨w7435, hg7436, by omega⟩⟩) rfl hl.1 rfl (Nat.le_of_ble_eq_true rfl) dX12_termOf_161 ⟨Nat.zero_le _, Nat.zero_le _⟩ (fun r7624 H locs hI hp hS => ?_)
                    have hp0 := hp
                    obtain ⟨hkf, ht, hT, k7633, ⟨qq7625, hf7626, hq7627, hA7628⟩, ⟨w7629, hg7630, k7634⟩, ⟨w7631, hg7632, k7635⟩⟩ := hp0
                    refine lv_lstore_n (lv' := [(2, .long r7624), (5, .long l7584), (4, .int r7419), (0, .ref h0), (1, .int x1)]) hx hb dX12_termOf_164 rfl hl (by decide) rfl (fun ls hl => ?_)
                    refine lv_goto (tgt := 6) hx hb dX12_termOf_165 (by decide) ?_
                    exact ih_6 _ (by omega) H locs ls r7624 m2 rfl (lv_sub hl [0, 3, 4] rfl) ⟨by omega, by omega⟩ (by omega) (hL2) (⟨hkf, ht, hT, by omega, ⟨qq7625, hf7626, hq7627, hA7628⟩, ⟨w7629, hg7630, by omega⟩, ⟨w7631, hg7632, by omega⟩⟩) hI hS
                · skip
                  have k7636 := iv_ne (X := x1.toInt) (Y := (0)) rfl (by decide) c7581
                  refine lv_iconst (v := 1) hx hb dX12_termOf_110 (by decide) ?_
                  refine lv_goto (tgt := 115) hx hb dX12_termOf_111 (by decide) ?_
                  refine pmI (ty := .boolean) hx hb hts inT12 hown hK hI List.not_mem_nil hG0 hS ⟨_, hG0⟩ 21 (by decide) (hts _ (tb_c wd_1254)) rfl rfl (by decide +kernel) (by decide) rfl rfl (by decide) (by decide) dX12_termOf_115 (fun H locs hI hgP hS => ?_)
                  have hg7434 := hgP.2.2.1 19 _ (by decide) (by decide) hg7434
                  have hg7436 := hgP.2.2.1 20 _ (by decide) (by decide) hg7436
                  have hg7637 := hgP.2.1
                  have hf7430 := hgP.2.2.2 3 _ (by decide) (by decide) hf7430
                  have hA7432 := va_at.kept hA7432 (hgP.1 _ (m_ne hq7431 hG0 (by first | decide | (dsimp only; decide))))
                  refine lv_lconst hx hb dX12_termOf_118 rfl ?_
                  refine lv_topl (fun l7638 e7639 => ?_)
                  refine lv_lstore (lv' := [(5, .long l7638), (4, .int r7419), (2, .long l7104), (0, .ref h0), (1, .int x1)]) hx hb dX12_termOf_119 hl (by decide) rfl (fun ls hl => ?_)
                  refine lv_aload_n hx hb dX12_termOf_121 rfl (lv_at hl 3 rfl) ?_
                  refine lv_iload hx hb dX12_termOf_122 (lv_at hl 1 rfl) ?_
                  refine lv_bipush (v := 42) hx hb dX12_termOf_124 (by decide) ?_
                  refine th_cSs (As := [.int 42]) (rest := [.int r7419, .ref h0]) (n := 1) (d := 0) ⟨hx, hb, hml, hown, hts⟩ (c_X12_sign l H 42) wd_1495 wd_1496 wd_13 wd_1497 (by decide +kernel) ⟨by rw [hR]; show 0 + 1 ≤ 3 + 3 * k; omega, by rw [hR]; show 8 + (1 + 11) + 40 * (0) ≤ 40 * (3 + 3 * k); omega⟩ hN hS rfl hl.1 rfl (Nat.le_of_ble_eq_true rfl) dX12_termOf_126 ⟨Nat.zero_le _, Nat.zero_le _⟩ (fun r7640 locs hp hS => ?_)
                  obtain rfl : r7640 = 142 := hp.trans (by decide)
                  refine lv_icmp_ne (tgt := 139) hx hb dX12_termOf_129 (by decide) (fun c7641 => ?_) (fun c7641 => ?_)
                  · skip
                    have k7642 := iv_ne (X := r7419.toInt) (Y := (142)) rfl (by decide) c7641
                    refine lv_iload hx hb dX12_termOf_139 (lv_at hl 1 rfl) ?_
                    refine lv_bipush (v := 47) hx hb dX12_termOf_141 (by decide) ?_
                    refine th_cSs (As := [.int 47]) (rest := [.int r7419, .ref h0]) (n := 1) (d := 0) ⟨hx, hb, hml, hown, hts⟩ (c_X12_sign l H 47) wd_1495 wd_1496 wd_13 wd_1497 (by decide +kernel) ⟨by rw [hR]; show 0 + 1 ≤ 3 + 3 * k; omega, by rw [hR]; show 8 + (1 + 11) + 40 * (0) ≤ 40 * (3 + 3 * k); omega⟩ hN hS rfl hl.1 rfl (Nat.le_of_ble_eq_true rfl) dX12_termOf_143 ⟨Nat.zero_le _, Nat.zero_le _⟩ (fun r7643 locs hp hS => ?_)
                    obtain rfl : r7643 = 147 := hp.trans (by decide)
                    refine lv_icmp_ne (tgt := 156) hx hb dX12_termOf_146 (by decide) (fun c7644 => ?_) (fun c7644 => ?_)
                    · skip
                      have k7645 := iv_ne (X := r7419.toInt) (Y := (147)) rfl (by decide) c7644
                      refine lv_lload_n hx hb dX12_termOf_156 rfl (lv_at hl 2 rfl) ?_
                      refine lv_lload hx hb dX12_termOf_157 (lv_at hl 0 rfl) ?_
                      refine lv_lrem hx hb dX12_termOf_159 (by rw [e7639]; decide) ?_
                      refine lv_topl (fun l7646 e7647 => ?_)
                      refine lv_iload_n hx hb dX12_termOf_160 rfl (lv_at hl 4 rfl) ?_
                      refine mx_l (As := [.long l7646, .int x1]) (rest := []) (n := 2) (d := 0) ⟨hx, hb, hml, hown, hts⟩ (c_X12_bounded l E D G h0 hG0 l7646 x1 ⟨by omega, by omega⟩ ff tt m2) wd_1502 wd_1504 wp_54 wd_13 wd_1505 (by decide +kernel) ⟨by rw [hR]; show 0 + 1 ≤ 3 + 3 * k; omega, by rw [hR]; show 8 + (4 + 11) + 40 * (0) ≤ 40 * (3 + 3 * k); omega⟩ hI hN hK hS hG0 (⟨hkf, ht, hT, by omega, ⟨qq7429, hf7430, hq7431, hA7432⟩, ⟨w7433, hg7434, by omega⟩, ⟨w7435, hg7436, by omega⟩⟩) rfl hl.1 rfl (Nat.le_of_ble_eq_true rfl) dX12_termOf_161 ⟨Nat.zero_le _, Nat.zero_le _⟩ (fun r7648 H locs hI hp hS => ?_)
                      have hp0 := hp
                      obtain ⟨hkf, ht, hT, k7657, ⟨qq7649, hf7650, hq7651, hA7652⟩, ⟨w7653, hg7654, k7658⟩, ⟨w7655, hg7656, k7659⟩⟩ := hp0
                      refine lv_lstore_n (lv' := [(2, .long r7648), (5, .long l7638), (4, .int r7419), (0, .ref h0), (1, .int x1)]) hx hb dX12_termOf_164 rfl hl (by decide) rfl (fun ls hl => ?_)
                      refine lv_goto (tgt := 6) hx hb dX12_termOf_165 (by decide) ?_
                      exact ih_6 _ (by omega) H locs ls r7648 m2 rfl (lv_sub hl [0, 3, 4] rfl) ⟨by omega, by omega⟩ (by omega) (hL2) (⟨hkf, ht, hT, by omega, ⟨qq7649, hf7650, hq7651, hA7652⟩, ⟨w7653, hg7654, by omega⟩, ⟨w7655, hg7656, by omega⟩⟩) hI hS
                    · skip
                      have k7660 := iv_eq (X := r7419.toInt) (Y := (147)) rfl (by decide) c7644
                      refine lv_lload_n hx hb dX12_termOf_149 rfl (lv_at hl 2 rfl) ?_
                      refine lv_lload hx hb dX12_termOf_150 (lv_at hl 0 rfl) ?_
                      refine lv_ldiv hx hb dX12_termOf_152 (by rw [e7639]; decide) ?_
                      refine lv_topl (fun l7661 e7662 => ?_)
                      refine lv_goto (tgt := 160) hx hb dX12_termOf_153 (by decide) ?_
                      refine lv_iload_n hx hb dX12_termOf_160 rfl (lv_at hl 4 rfl) ?_
                      refine mx_l (As := [.long l7661, .int x1]) (rest := []) (n := 2) (d := 0) ⟨hx, hb, hml, hown, hts⟩ (c_X12_bounded l E D G h0 hG0 l7661 x1 ⟨by omega, by omega⟩ ff tt m2) wd_1502 wd_1504 wp_54 wd_13 wd_1505 (by decide +kernel) ⟨by rw [hR]; show 0 + 1 ≤ 3 + 3 * k; omega, by rw [hR]; show 8 + (4 + 11) + 40 * (0) ≤ 40 * (3 + 3 * k); omega⟩ hI hN hK hS hG0 (⟨hkf, ht, hT, by omega, ⟨qq7429, hf7430, hq7431, hA7432⟩, ⟨w7433, hg7434, by omega⟩, ⟨w7435, hg7436, by omega⟩⟩) rfl hl.1 rfl (Nat.le_of_ble_eq_true rfl) dX12_termOf_161 ⟨Nat.zero_le _, Nat.zero_le _⟩ (fun r7663 H locs hI hp hS => ?_)
                      have hp0 := hp
                      obtain ⟨hkf, ht, hT, k7672, ⟨qq7664, hf7665, hq7666, hA7667⟩, ⟨w7668, hg7669, k7673⟩, ⟨w7670, hg7671, k7674⟩⟩ := hp0
                      refine lv_lstore_n (lv' := [(2, .long r7663), (5, .long l7638), (4, .int r7419), (0, .ref h0), (1, .int x1)]) hx hb dX12_termOf_164 rfl hl (by decide) rfl (fun ls hl => ?_)
                      refine lv_goto (tgt := 6) hx hb dX12_termOf_165 (by decide) ?_
                      exact ih_6 _ (by omega) H locs ls r7663 m2 rfl (lv_sub hl [0, 3, 4] rfl) ⟨by omega, by omega⟩ (by omega) (hL2) (⟨hkf, ht, hT, by omega, ⟨qq7664, hf7665, hq7666, hA7667⟩, ⟨w7668, hg7669, by omega⟩, ⟨w7670, hg7671, by omega⟩⟩) hI hS
                  · skip
                    have k7675 := iv_eq (X := r7419.toInt) (Y := (142)) rfl (by decide) c7641
                    refine lv_lload_n hx hb dX12_termOf_132 rfl (lv_at hl 2 rfl) ?_
                    refine lv_lload hx hb dX12_termOf_133 (lv_at hl 0 rfl) ?_
                    refine lv_lmul hx hb dX12_termOf_135 ?_
                    refine lv_topl (fun l7676 e7677 => ?_)
                    refine lv_goto (tgt := 160) hx hb dX12_termOf_136 (by decide) ?_
                    refine lv_iload_n hx hb dX12_termOf_160 rfl (lv_at hl 4 rfl) ?_
                    refine mx_l (As := [.long l7676, .int x1]) (rest := []) (n := 2) (d := 0) ⟨hx, hb, hml, hown, hts⟩ (c_X12_bounded l E D G h0 hG0 l7676 x1 ⟨by omega, by omega⟩ ff tt m2) wd_1502 wd_1504 wp_54 wd_13 wd_1505 (by decide +kernel) ⟨by rw [hR]; show 0 + 1 ≤ 3 + 3 * k; omega, by rw [hR]; show 8 + (4 + 11) + 40 * (0) ≤ 40 * (3 + 3 * k); omega⟩ hI hN hK hS hG0 (⟨hkf, ht, hT, by omega, ⟨qq7429, hf7430, hq7431, hA7432⟩, ⟨w7433, hg7434, by omega⟩, ⟨w7435, hg7436, by omega⟩⟩) rfl hl.1 rfl (Nat.le_of_ble_eq_true rfl) dX12_termOf_161 ⟨Nat.zero_le _, Nat.zero_le _⟩ (fun r7678 H locs hI hp hS => ?_)
                    have hp0 := hp
                    obtain ⟨hkf, ht, hT, k7687, ⟨qq7679, hf7680, hq7681, hA7682⟩, ⟨w7683, hg7684, k7688⟩, ⟨w7685, hg7686, k7689⟩⟩ := hp0
                    refine lv_lstore_n (lv' := [(2, .long r7678), (5, .long l7638), (4, .int r7419), (0, .ref h0), (1, .int x1)]) hx hb dX12_termOf_164 rfl hl (by decide) rfl (fun ls hl => ?_)
                    refine lv_goto (tgt := 6) hx hb dX12_termOf_165 (by decide) ?_
                    exact ih_6 _ (by omega) H locs ls r7678 m2 rfl (lv_sub hl [0, 3, 4] rfl) ⟨by omega, by omega⟩ (by omega) (hL2) (⟨hkf, ht, hT, by omega, ⟨qq7679, hf7680, hq7681, hA7682⟩, ⟨w7683, hg7684, by omega⟩, ⟨w7685, hg7686, by omega⟩⟩) hI hS
        · skip
          have k7690 := iv_ne (X := r7408.toInt) (Y := (147)) rfl (by decide) c7413
          refine lv_aload_n hx hb dX12_termOf_38 rfl (lv_at hl 1 rfl) ?_
          refine lv_aload_n hx hb dX12_termOf_39 rfl (lv_at hl 1 rfl) ?_
          refine gmI hx hb hts inT12 hown hK hI List.not_mem_nil hG0 19 (by decide) (hts _ (tb_c wd_1252)) rfl rfl dX12_termOf_40 (fun w7691 hg7692 k7693 k7694 => ?_)
          obtain rfl := gf.uniq (by decide) hg7111 hg7692
          refine mr_i (As := [.int w7110]) (rest := []) (n := 1) (d := 0) ⟨hx, hb, hml, hown, hts⟩ (c_X12_codeAt l E D G H h0 hG0 w7110 ⟨by omega, by omega⟩ ff tt mm mm ⟨hkf, ht, hT, by omega, ⟨qq7106, hf7107, hq7108, hA7109⟩, ⟨w7110, hg7111, by omega⟩, ⟨w7112, hg7113, by omega⟩⟩ (by omega)) wd_1479 wd_1481 wp_49 wd_13 wd_1482 (by decide +kernel) ⟨by rw [hR]; show 0 + 1 ≤ 3 + 3 * k; omega, by rw [hR]; show 8 + (2 + 11) + 40 * (0) ≤ 40 * (3 + 3 * k); omega⟩ hI hN hK hS hG0 rfl hl.1 rfl (Nat.le_of_ble_eq_true rfl) dX12_termOf_43 ⟨Nat.zero_le _, Nat.zero_le _⟩ (fun r7695 locs hp hS => ?_)
          have hc7696 := hp
          refine lv_bipush (v := 37) hx hb dX12_termOf_46 (by decide) ?_
          refine th_cSs (As := [.int 37]) (rest := [.int r7695]) (n := 1) (d := 0) ⟨hx, hb, hml, hown, hts⟩ (c_X12_sign l H 37) wd_1495 wd_1496 wd_13 wd_1497 (by decide +kernel) ⟨by rw [hR]; show 0 + 1 ≤ 3 + 3 * k; omega, by rw [hR]; show 8 + (1 + 11) + 40 * (0) ≤ 40 * (3 + 3 * k); omega⟩ hN hS rfl hl.1 rfl (Nat.le_of_ble_eq_true rfl) dX12_termOf_48 ⟨Nat.zero_le _, Nat.zero_le _⟩ (fun r7697 locs hp hS => ?_)
          obtain rfl : r7697 = 137 := hp.trans (by decide)
          have k7698 := iv_lo r7695
          have k7699 := iv_hi r7695
          refine lv_icmp_ne (tgt := 168) hx hb dX12_termOf_51 (by decide) (fun c7700 => ?_) (fun c7700 => ?_)
          · skip
            have k7701 := iv_ne (X := r7695.toInt) (Y := (137)) rfl (by decide) c7700
            have hqm : qq = mm := g7_x hL (by omega) (by omega) (by omega)
            refine lv_lload_n hx hb dX12_termOf_168 rfl (lv_at hl 0 rfl) ?_
            have hpost : EV E D G h0 ff tt qq H := ⟨hkf, ht, hT, by omega, ⟨qq7106, hf7107, hq7108, hA7109⟩, ⟨w7110, hg7111, by omega⟩, ⟨w7112, hg7113, by omega⟩⟩
            rw [hQ]
            exact W.lret (v := l7104) hx hb hr (fun t ht hW => ⟨⟨l7104, l7104, rfl, rfl, ⟨by rw [ht]; exact hI, hN.warm hW, va_K.moved hW.alike hK⟩, by first | (rw [ht]; exact hpost) | exact hpost⟩, hS.F ht⟩) hS.2.2 dX12_termOf_169
          · skip
            have k7702 := iv_eq (X := r7695.toInt) (Y := (137)) rfl (by decide) c7700
            obtain ⟨m2, h1, hL2⟩ := g7_m hL (by omega)
            have hlt2 := Gr.lt kC_end (by decide) h1
            have hle2 := Gr.le kC_end (by decide) hlt2.2 hL2
            refine lv_aload_n hx hb dX12_termOf_54 rfl (lv_at hl 1 rfl) ?_
            refine lv_aload_n hx hb dX12_termOf_55 rfl (lv_at hl 1 rfl) ?_
            refine gmI hx hb hts inT12 hown hK hI List.not_mem_nil hG0 19 (by decide) (hts _ (tb_c wd_1252)) rfl rfl dX12_termOf_56 (fun w7703 hg7704 k7705 k7706 => ?_)
            obtain rfl := gf.uniq (by decide) hg7111 hg7704
            refine mr_i (As := [.int w7110]) (rest := []) (n := 1) (d := 0) ⟨hx, hb, hml, hown, hts⟩ (c_X12_codeAt l E D G H h0 hG0 w7110 ⟨by omega, by omega⟩ ff tt mm mm ⟨hkf, ht, hT, by omega, ⟨qq7106, hf7107, hq7108, hA7109⟩, ⟨w7110, hg7111, by omega⟩, ⟨w7112, hg7113, by omega⟩⟩ (by omega)) wd_1479 wd_1481 wp_49 wd_13 wd_1482 (by decide +kernel) ⟨by rw [hR]; show 0 + 1 ≤ 3 + 3 * k; omega, by rw [hR]; show 8 + (2 + 11) + 40 * (0) ≤ 40 * (3 + 3 * k); omega⟩ hI hN hK hS hG0 rfl hl.1 rfl (Nat.le_of_ble_eq_true rfl) dX12_termOf_59 ⟨Nat.zero_le _, Nat.zero_le _⟩ (fun r7707 locs hp hS => ?_)
            have hc7708 := hp
            refine lv_istore (lv' := [(4, .int r7707), (2, .long l7104), (0, .ref h0), (1, .int x1)]) hx hb dX12_termOf_62 hl (by decide) rfl (fun ls hl => ?_)
            refine lv_aload_n hx hb dX12_termOf_64 rfl (lv_at hl 2 rfl) ?_
            refine lv_dup hx hb dX12_termOf_65 rfl ?_
            refine gmI hx hb hts inT12 hown hK hI List.not_mem_nil hG0 19 (by decide) (hts _ (tb_c wd_1252)) rfl rfl dX12_termOf_66 (fun w7709 hg7710 k7711 k7712 => ?_)
            obtain rfl := gf.uniq (by decide) hg7111 hg7710
            refine lv_iconst (v := 1) hx hb dX12_termOf_69 (by decide) ?_
            refine lv_iadd hx hb dX12_termOf_70 ?_
            refine lv_topi (fun v7713 e7714 => ?_)
            have tv7713 : v7713.toInt = w7110.toInt + (1) := iv_add rfl (by decide) e7714 (by omega) (by omega)
            refine pmI (ty := .int) hx hb hts inT12 hown hK hI List.not_mem_nil hG0 hS ⟨_, hG0⟩ 19 (by decide) (hts _ (tb_c wd_1252)) rfl rfl (by decide +kernel) rfl rfl rfl (by omega) (by omega) dX12_termOf_71 (fun H locs hI hgP hS => ?_)
            have hg7113 := hgP.2.2.1 20 _ (by decide) (by decide) hg7113
            have hg7715 := hgP.2.1
            have hf7107 := hgP.2.2.2 3 _ (by decide) (by decide) hf7107
            have hA7109 := va_at.kept hA7109 (hgP.1 _ (m_ne hq7108 hG0 (by first | decide | (dsimp only; decide))))
            refine lv_aload_n hx hb dX12_termOf_74 rfl (lv_at hl 2 rfl) ?_
            refine lv_iload_n hx hb dX12_termOf_75 rfl (lv_at hl 3 rfl) ?_
            refine mx_l (As := [.int x1]) (rest := []) (n := 1) (d := (2 + 3 * k)) ⟨hx, hb, hml, hown, hts⟩ (hpart h0 hG0 x1 ⟨by omega, by omega⟩ ff tt dd (mm + 1) m2 h1 (by omega)) wd_1491 wd_1493 wp_52 wd_13 wd_1494 (by decide +kernel) ⟨by rw [hR]; show (2 + 3 * k) + 1 ≤ 3 + 3 * k; omega, by rw [hR]; show 8 + (4 + 11) + 40 * ((2 + 3 * k)) ≤ 40 * (3 + 3 * k); omega⟩ hI hN hK hS hG0 (⟨hkf, ht, hT, by omega, ⟨qq7106, hf7107, hq7108, hA7109⟩, ⟨v7713, hg7715, by omega⟩, ⟨w7112, hg7113, by omega⟩⟩) rfl hl.1 rfl (Nat.le_of_ble_eq_true rfl) dX12_termOf_76 ⟨Nat.zero_le _, Nat.zero_le _⟩ (fun r7716 H locs hI hp hS => ?_)
            have hp0 := hp
            obtain ⟨hkf, ht, hT, k7725, ⟨qq7717, hf7718, hq7719, hA7720⟩, ⟨w7721, hg7722, k7726⟩, ⟨w7723, hg7724, k7727⟩⟩ := hp0
            refine lv_lstore (lv' := [(5, .long r7716), (4, .int r7707), (2, .long l7104), (0, .ref h0), (1, .int x1)]) hx hb dX12_termOf_79 hl (by decide) rfl (fun ls hl => ?_)
            refine lv_iload hx hb dX12_termOf_81 (lv_at hl 1 rfl) ?_
            refine lv_bipush (v := 42) hx hb dX12_termOf_83 (by decide) ?_
            refine th_cSs (As := [.int 42]) (rest := [.int r7707]) (n := 1) (d := 0) ⟨hx, hb, hml, hown, hts⟩ (c_X12_sign l H 42) wd_1495 wd_1496 wd_13 wd_1497 (by decide +kernel) ⟨by rw [hR]; show 0 + 1 ≤ 3 + 3 * k; omega, by rw [hR]; show 8 + (1 + 11) + 40 * (0) ≤ 40 * (3 + 3 * k); omega⟩ hN hS rfl hl.1 rfl (Nat.le_of_ble_eq_true rfl) dX12_termOf_85 ⟨Nat.zero_le _, Nat.zero_le _⟩ (fun r7728 locs hp hS => ?_)
            obtain rfl : r7728 = 142 := hp.trans (by decide)
            have k7729 := iv_lo r7707
            have k7730 := iv_hi r7707
            refine lv_icmp_eq (tgt := 121) hx hb dX12_termOf_88 (by decide) (fun c7731 => ?_) (fun c7731 => ?_)
            · skip
              have k7732 := iv_eq (X := r7707.toInt) (Y := (142)) rfl (by decide) c7731
              refine lv_aload_n hx hb dX12_termOf_121 rfl (lv_at hl 3 rfl) ?_
              refine lv_iload hx hb dX12_termOf_122 (lv_at hl 1 rfl) ?_
              refine lv_bipush (v := 42) hx hb dX12_termOf_124 (by decide) ?_
              refine th_cSs (As := [.int 42]) (rest := [.int r7707, .ref h0]) (n := 1) (d := 0) ⟨hx, hb, hml, hown, hts⟩ (c_X12_sign l H 42) wd_1495 wd_1496 wd_13 wd_1497 (by decide +kernel) ⟨by rw [hR]; show 0 + 1 ≤ 3 + 3 * k; omega, by rw [hR]; show 8 + (1 + 11) + 40 * (0) ≤ 40 * (3 + 3 * k); omega⟩ hN hS rfl hl.1 rfl (Nat.le_of_ble_eq_true rfl) dX12_termOf_126 ⟨Nat.zero_le _, Nat.zero_le _⟩ (fun r7733 locs hp hS => ?_)
              obtain rfl : r7733 = 142 := hp.trans (by decide)
              refine lv_icmp_ne (tgt := 139) hx hb dX12_termOf_129 (by decide) (fun c7734 => ?_) (fun c7734 => ?_)
              · skip
                have k7735 := iv_ne (X := r7707.toInt) (Y := (142)) rfl (by decide) c7734
                exfalso; omega
              · skip
                have k7736 := iv_eq (X := r7707.toInt) (Y := (142)) rfl (by decide) c7734
                refine lv_lload_n hx hb dX12_termOf_132 rfl (lv_at hl 2 rfl) ?_
                refine lv_lload hx hb dX12_termOf_133 (lv_at hl 0 rfl) ?_
                refine lv_lmul hx hb dX12_termOf_135 ?_
                refine lv_topl (fun l7737 e7738 => ?_)
                refine lv_goto (tgt := 160) hx hb dX12_termOf_136 (by decide) ?_
                refine lv_iload_n hx hb dX12_termOf_160 rfl (lv_at hl 4 rfl) ?_
                refine mx_l (As := [.long l7737, .int x1]) (rest := []) (n := 2) (d := 0) ⟨hx, hb, hml, hown, hts⟩ (c_X12_bounded l E D G h0 hG0 l7737 x1 ⟨by omega, by omega⟩ ff tt m2) wd_1502 wd_1504 wp_54 wd_13 wd_1505 (by decide +kernel) ⟨by rw [hR]; show 0 + 1 ≤ 3 + 3 * k; omega, by rw [hR]; show 8 + (4 + 11) + 40 * (0) ≤ 40 * (3 + 3 * k); omega⟩ hI hN hK hS hG0 (⟨hkf, ht, hT, by omega, ⟨qq7717, hf7718, hq7719, hA7720⟩, ⟨w7721, hg7722, by omega⟩, ⟨w7723, hg7724, by omega⟩⟩) rfl hl.1 rfl (Nat.le_of_ble_eq_true rfl) dX12_termOf_161 ⟨Nat.zero_le _, Nat.zero_le _⟩ (fun r7739 H locs hI hp hS => ?_)
                have hp0 := hp
                obtain ⟨hkf, ht, hT, k7748, ⟨qq7740, hf7741, hq7742, hA7743⟩, ⟨w7744, hg7745, k7749⟩, ⟨w7746, hg7747, k7750⟩⟩ := hp0
                refine lv_lstore_n (lv' := [(2, .long r7739), (5, .long r7716), (4, .int r7707), (0, .ref h0), (1, .int x1)]) hx hb dX12_termOf_164 rfl hl (by decide) rfl (fun ls hl => ?_)
                refine lv_goto (tgt := 6) hx hb dX12_termOf_165 (by decide) ?_
                exact ih_6 _ (by omega) H locs ls r7739 m2 rfl (lv_sub hl [0, 3, 4] rfl) ⟨by omega, by omega⟩ (by omega) (hL2) (⟨hkf, ht, hT, by omega, ⟨qq7740, hf7741, hq7742, hA7743⟩, ⟨w7744, hg7745, by omega⟩, ⟨w7746, hg7747, by omega⟩⟩) hI hS
            · skip
              have k7751 := iv_ne (X := r7707.toInt) (Y := (142)) rfl (by decide) c7731
              refine lv_lload hx hb dX12_termOf_91 (lv_at hl 0 rfl) ?_
              refine lv_lconst hx hb dX12_termOf_93 rfl ?_
              refine lv_topl (fun l7752 e7753 => ?_)
              refine W.lcmp hx hb dX12_termOf_94 ?_
              refine lv_topi (fun v7754 e7755 => ?_)
              have tv7754 := iv_cmp e7755
              refine lv_if_ne (tgt := 121) hx hb dX12_termOf_95 (by decide) (fun c7756 => ?_) (fun c7756 => ?_)
              · skip
                have k7757 := iv_ne (X := v7754.toInt) (Y := (0)) rfl (by decide) c7756
                refine lv_aload_n hx hb dX12_termOf_121 rfl (lv_at hl 3 rfl) ?_
                refine lv_iload hx hb dX12_termOf_122 (lv_at hl 1 rfl) ?_
                refine lv_bipush (v := 42) hx hb dX12_termOf_124 (by decide) ?_
                refine th_cSs (As := [.int 42]) (rest := [.int r7707, .ref h0]) (n := 1) (d := 0) ⟨hx, hb, hml, hown, hts⟩ (c_X12_sign l H 42) wd_1495 wd_1496 wd_13 wd_1497 (by decide +kernel) ⟨by rw [hR]; show 0 + 1 ≤ 3 + 3 * k; omega, by rw [hR]; show 8 + (1 + 11) + 40 * (0) ≤ 40 * (3 + 3 * k); omega⟩ hN hS rfl hl.1 rfl (Nat.le_of_ble_eq_true rfl) dX12_termOf_126 ⟨Nat.zero_le _, Nat.zero_le _⟩ (fun r7758 locs hp hS => ?_)
                obtain rfl : r7758 = 142 := hp.trans (by decide)
                refine lv_icmp_ne (tgt := 139) hx hb dX12_termOf_129 (by decide) (fun c7759 => ?_) (fun c7759 => ?_)
                · skip
                  have k7760 := iv_ne (X := r7707.toInt) (Y := (142)) rfl (by decide) c7759
                  refine lv_iload hx hb dX12_termOf_139 (lv_at hl 1 rfl) ?_
                  refine lv_bipush (v := 47) hx hb dX12_termOf_141 (by decide) ?_
                  refine th_cSs (As := [.int 47]) (rest := [.int r7707, .ref h0]) (n := 1) (d := 0) ⟨hx, hb, hml, hown, hts⟩ (c_X12_sign l H 47) wd_1495 wd_1496 wd_13 wd_1497 (by decide +kernel) ⟨by rw [hR]; show 0 + 1 ≤ 3 + 3 * k; omega, by rw [hR]; show 8 + (1 + 11) + 40 * (0) ≤ 40 * (3 + 3 * k); omega⟩ hN hS rfl hl.1 rfl (Nat.le_of_ble_eq_true rfl) dX12_termOf_143 ⟨Nat.zero_le _, Nat.zero_le _⟩ (fun r7761 locs hp hS => ?_)
                  obtain rfl : r7761 = 147 := hp.trans (by decide)
                  refine lv_icmp_ne (tgt := 156) hx hb dX12_termOf_146 (by decide) (fun c7762 => ?_) (fun c7762 => ?_)
                  · skip
                    have k7763 := iv_ne (X := r7707.toInt) (Y := (147)) rfl (by decide) c7762
                    refine lv_lload_n hx hb dX12_termOf_156 rfl (lv_at hl 2 rfl) ?_
                    refine lv_lload hx hb dX12_termOf_157 (lv_at hl 0 rfl) ?_
                    refine lv_lrem hx hb dX12_termOf_159 (fun h0 => by have := iv_cmp0 e7755 h0 e7753; omega) ?_
                    refine lv_topl (fun l7764 e7765 => ?_)
                    refine lv_iload_n hx hb dX12_termOf_160 rfl (lv_at hl 4 rfl) ?_
                    refine mx_l (As := [.long l7764, .int x1]) (rest := []) (n := 2) (d := 0) ⟨hx, hb, hml, hown, hts⟩ (c_X12_bounded l E D G h0 hG0 l7764 x1 ⟨by omega, by omega⟩ ff tt m2) wd_1502 wd_1504 wp_54 wd_13 wd_1505 (by decide +kernel) ⟨by rw [hR]; show 0 + 1 ≤ 3 + 3 * k; omega, by rw [hR]; show 8 + (4 + 11) + 40 * (0) ≤ 40 * (3 + 3 * k); omega⟩ hI hN hK hS hG0 (⟨hkf, ht, hT, by omega, ⟨qq7717, hf7718, hq7719, hA7720⟩, ⟨w7721, hg7722, by omega⟩, ⟨w7723, hg7724, by omega⟩⟩) rfl hl.1 rfl (Nat.le_of_ble_eq_true rfl) dX12_termOf_161 ⟨Nat.zero_le _, Nat.zero_le _⟩ (fun r7766 H locs hI hp hS => ?_)
                    have hp0 := hp
                    obtain ⟨hkf, ht, hT, k7775, ⟨qq7767, hf7768, hq7769, hA7770⟩, ⟨w7771, hg7772, k7776⟩, ⟨w7773, hg7774, k7777⟩⟩ := hp0
                    refine lv_lstore_n (lv' := [(2, .long r7766), (5, .long r7716), (4, .int r7707), (0, .ref h0), (1, .int x1)]) hx hb dX12_termOf_164 rfl hl (by decide) rfl (fun ls hl => ?_)
                    refine lv_goto (tgt := 6) hx hb dX12_termOf_165 (by decide) ?_
                    exact ih_6 _ (by omega) H locs ls r7766 m2 rfl (lv_sub hl [0, 3, 4] rfl) ⟨by omega, by omega⟩ (by omega) (hL2) (⟨hkf, ht, hT, by omega, ⟨qq7767, hf7768, hq7769, hA7770⟩, ⟨w7771, hg7772, by omega⟩, ⟨w7773, hg7774, by omega⟩⟩) hI hS
                  · skip
                    have k7778 := iv_eq (X := r7707.toInt) (Y := (147)) rfl (by decide) c7762
                    refine lv_lload_n hx hb dX12_termOf_149 rfl (lv_at hl 2 rfl) ?_
                    refine lv_lload hx hb dX12_termOf_150 (lv_at hl 0 rfl) ?_
                    refine lv_ldiv hx hb dX12_termOf_152 (fun h0 => by have := iv_cmp0 e7755 h0 e7753; omega) ?_
                    refine lv_topl (fun l7779 e7780 => ?_)
                    refine lv_goto (tgt := 160) hx hb dX12_termOf_153 (by decide) ?_
                    refine lv_iload_n hx hb dX12_termOf_160 rfl (lv_at hl 4 rfl) ?_
                    refine mx_l (As := [.long l7779, .int x1]) (rest := []) (n := 2) (d := 0) ⟨hx, hb, hml, hown, hts⟩ (c_X12_bounded l E D G h0 hG0 l7779 x1 ⟨by omega, by omega⟩ ff tt m2) wd_1502 wd_1504 wp_54 wd_13 wd_1505 (by decide +kernel) ⟨by rw [hR]; show 0 + 1 ≤ 3 + 3 * k; omega, by rw [hR]; show 8 + (4 + 11) + 40 * (0) ≤ 40 * (3 + 3 * k); omega⟩ hI hN hK hS hG0 (⟨hkf, ht, hT, by omega, ⟨qq7717, hf7718, hq7719, hA7720⟩, ⟨w7721, hg7722, by omega⟩, ⟨w7723, hg7724, by omega⟩⟩) rfl hl.1 rfl (Nat.le_of_ble_eq_true rfl) dX12_termOf_161 ⟨Nat.zero_le _, Nat.zero_le _⟩ (fun r7781 H locs hI hp hS => ?_)
                    have hp0 := hp
                    obtain ⟨hkf, ht, hT, k7790, ⟨qq7782, hf7783, hq7784, hA7785⟩, ⟨w7786, hg7787, k7791⟩, ⟨w7788, hg7789, k7792⟩⟩ := hp0
                    refine lv_lstore_n (lv' := [(2, .long r7781), (5, .long r7716), (4, .int r7707), (0, .ref h0), (1, .int x1)]) hx hb dX12_termOf_164 rfl hl (by decide) rfl (fun ls hl => ?_)
                    refine lv_goto (tgt := 6) hx hb dX12_termOf_165 (by decide) ?_
                    exact ih_6 _ (by omega) H locs ls r7781 m2 rfl (lv_sub hl [0, 3, 4] rfl) ⟨by omega, by omega⟩ (by omega) (hL2) (⟨hkf, ht, hT, by omega, ⟨qq7782, hf7783, hq7784, hA7785⟩, ⟨w7786, hg7787, by omega⟩, ⟨w7788, hg7789, by omega⟩⟩) hI hS
                · skip
                  have k7793 := iv_eq (X := r7707.toInt) (Y := (142)) rfl (by decide) c7759
                  refine lv_lload_n hx hb dX12_termOf_132 rfl (lv_at hl 2 rfl) ?_
                  refine lv_lload hx hb dX12_termOf_133 (lv_at hl 0 rfl) ?_
                  refine lv_lmul hx hb dX12_termOf_135 ?_
                  refine lv_topl (fun l7794 e7795 => ?_)
                  refine lv_goto (tgt := 160) hx hb dX12_termOf_136 (by decide) ?_
                  refine lv_iload_n hx hb dX12_termOf_160 rfl (lv_at hl 4 rfl) ?_
                  refine mx_l (As := [.long l7794, .int x1]) (rest := []) (n := 2) (d := 0) ⟨hx, hb, hml, hown, hts⟩ (c_X12_bounded l E D G h0 hG0 l7794 x1 ⟨by omega, by omega⟩ ff tt m2) wd_1502 wd_1504 wp_54 wd_13 wd_1505 (by decide +kernel) ⟨by rw [hR]; show 0 + 1 ≤ 3 + 3 * k; omega, by rw [hR]; show 8 + (4 + 11) + 40 * (0) ≤ 40 * (3 + 3 * k); omega⟩ hI hN hK hS hG0 (⟨hkf, ht, hT, by omega, ⟨qq7717, hf7718, hq7719, hA7720⟩, ⟨w7721, hg7722, by omega⟩, ⟨w7723, hg7724, by omega⟩⟩) rfl hl.1 rfl (Nat.le_of_ble_eq_true rfl) dX12_termOf_161 ⟨Nat.zero_le _, Nat.zero_le _⟩ (fun r7796 H locs hI hp hS => ?_)
                  have hp0 := hp
                  obtain ⟨hkf, ht, hT, k7805, ⟨qq7797, hf7798, hq7799, hA7800⟩, ⟨w7801, hg7802, k7806⟩, ⟨w7803, hg7804, k7807⟩⟩ := hp0
                  refine lv_lstore_n (lv' := [(2, .long r7796), (5, .long r7716), (4, .int r7707), (0, .ref h0), (1, .int x1)]) hx hb dX12_termOf_164 rfl hl (by decide) rfl (fun ls hl => ?_)
                  refine lv_goto (tgt := 6) hx hb dX12_termOf_165 (by decide) ?_
                  exact ih_6 _ (by omega) H locs ls r7796 m2 rfl (lv_sub hl [0, 3, 4] rfl) ⟨by omega, by omega⟩ (by omega) (hL2) (⟨hkf, ht, hT, by omega, ⟨qq7797, hf7798, hq7799, hA7800⟩, ⟨w7801, hg7802, by omega⟩, ⟨w7803, hg7804, by omega⟩⟩) hI hS
              · skip
                have k7808 := iv_eq (X := v7754.toInt) (Y := (0)) rfl (by decide) c7756
                refine lv_aload_n hx hb dX12_termOf_98 rfl (lv_at hl 3 rfl) ?_
                refine lv_aload_n hx hb dX12_termOf_99 rfl (lv_at hl 3 rfl) ?_
                refine gmI hx hb hts inT12 hown hK hI List.not_mem_nil hG0 21 (by decide) (hts _ (tb_c wd_1254)) rfl rfl dX12_termOf_100 (fun w7809 hg7810 k7811 k7812 => ?_)
                refine lv_if_ne (tgt := 110) hx hb dX12_termOf_103 (by decide) (fun c7813 => ?_) (fun c7813 => ?_)
                · skip
                  have k7814 := iv_ne (X := w7809.toInt) (Y := (0)) rfl (by decide) c7813
                  refine lv_iconst (v := 1) hx hb dX12_termOf_110 (by decide) ?_
                  refine lv_goto (tgt := 115) hx hb dX12_termOf_111 (by decide) ?_
                  refine pmI (ty := .boolean) hx hb hts inT12 hown hK hI List.not_mem_nil hG0 hS ⟨_, hG0⟩ 21 (by decide) (hts _ (tb_c wd_1254)) rfl rfl (by decide +kernel) (by decide) rfl rfl (by decide) (by decide) dX12_termOf_115 (fun H locs hI hgP hS => ?_)
                  have hg7722 := hgP.2.2.1 19 _ (by decide) (by decide) hg7722
                  have hg7724 := hgP.2.2.1 20 _ (by decide) (by decide) hg7724
                  have hg7815 := hgP.2.1
                  have hf7718 := hgP.2.2.2 3 _ (by decide) (by decide) hf7718
                  have hA7720 := va_at.kept hA7720 (hgP.1 _ (m_ne hq7719 hG0 (by first | decide | (dsimp only; decide))))
                  refine lv_lconst hx hb dX12_termOf_118 rfl ?_
                  refine lv_topl (fun l7816 e7817 => ?_)
                  refine lv_lstore (lv' := [(5, .long l7816), (4, .int r7707), (2, .long l7104), (0, .ref h0), (1, .int x1)]) hx hb dX12_termOf_119 hl (by decide) rfl (fun ls hl => ?_)
                  refine lv_aload_n hx hb dX12_termOf_121 rfl (lv_at hl 3 rfl) ?_
                  refine lv_iload hx hb dX12_termOf_122 (lv_at hl 1 rfl) ?_
                  refine lv_bipush (v := 42) hx hb dX12_termOf_124 (by decide) ?_
                  refine th_cSs (As := [.int 42]) (rest := [.int r7707, .ref h0]) (n := 1) (d := 0) ⟨hx, hb, hml, hown, hts⟩ (c_X12_sign l H 42) wd_1495 wd_1496 wd_13 wd_1497 (by decide +kernel) ⟨by rw [hR]; show 0 + 1 ≤ 3 + 3 * k; omega, by rw [hR]; show 8 + (1 + 11) + 40 * (0) ≤ 40 * (3 + 3 * k); omega⟩ hN hS rfl hl.1 rfl (Nat.le_of_ble_eq_true rfl) dX12_termOf_126 ⟨Nat.zero_le _, Nat.zero_le _⟩ (fun r7818 locs hp hS => ?_)
                  obtain rfl : r7818 = 142 := hp.trans (by decide)
                  refine lv_icmp_ne (tgt := 139) hx hb dX12_termOf_129 (by decide) (fun c7819 => ?_) (fun c7819 => ?_)
                  · skip
                    have k7820 := iv_ne (X := r7707.toInt) (Y := (142)) rfl (by decide) c7819
                    refine lv_iload hx hb dX12_termOf_139 (lv_at hl 1 rfl) ?_
                    refine lv_bipush (v := 47) hx hb dX12_termOf_141 (by decide) ?_
                    refine th_cSs (As := [.int 47]) (rest := [.int r7707, .ref h0]) (n := 1) (d := 0) ⟨hx, hb, hml, hown, hts⟩ (c_X12_sign l H 47) wd_1495 wd_1496 wd_13 wd_1497 (by decide +kernel) ⟨by rw [hR]; show 0 + 1 ≤ 3 + 3 * k; omega, by rw [hR]; show 8 + (1 + 11) + 40 * (0) ≤ 40 * (3 + 3 * k); omega⟩ hN hS rfl hl.1 rfl (Nat.le_of_ble_eq_true rfl) dX12_termOf_143 ⟨Nat.zero_le _, Nat.zero_le _⟩ (fun r7821 locs hp hS => ?_)
                    obtain rfl : r7821 = 147 := hp.trans (by decide)
                    refine lv_icmp_ne (tgt := 156) hx hb dX12_termOf_146 (by decide) (fun c7822 => ?_) (fun c7822 => ?_)
                    · skip
                      have k7823 := iv_ne (X := r7707.toInt) (Y := (147)) rfl (by decide) c7822
                      refine lv_lload_n hx hb dX12_termOf_156 rfl (lv_at hl 2 rfl) ?_
                      refine lv_lload hx hb dX12_termOf_157 (lv_at hl 0 rfl) ?_
                      refine lv_lrem hx hb dX12_termOf_159 (by rw [e7817]; decide) ?_
                      refine lv_topl (fun l7824 e7825 => ?_)
                      refine lv_iload_n hx hb dX12_termOf_160 rfl (lv_at hl 4 rfl) ?_
                      refine mx_l (As := [.long l7824, .int x1]) (rest := []) (n := 2) (d := 0) ⟨hx, hb, hml, hown, hts⟩ (c_X12_bounded l E D G h0 hG0 l7824 x1 ⟨by omega, by omega⟩ ff tt m2) wd_1502 wd_1504 wp_54 wd_13 wd_1505 (by decide +kernel) ⟨by rw [hR]; show 0 + 1 ≤ 3 + 3 * k; omega, by rw [hR]; show 8 + (4 + 11) + 40 * (0) ≤ 40 * (3 + 3 * k); omega⟩ hI hN hK hS hG0 (⟨hkf, ht, hT, by omega, ⟨qq7717, hf7718, hq7719, hA7720⟩, ⟨w7721, hg7722, by omega⟩, ⟨w7723, hg7724, by omega⟩⟩) rfl hl.1 rfl (Nat.le_of_ble_eq_true rfl) dX12_termOf_161 ⟨Nat.zero_le _, Nat.zero_le _⟩ (fun r7826 H locs hI hp hS => ?_)
                      have hp0 := hp
                      obtain ⟨hkf, ht, hT, k7835, ⟨qq7827, hf7828, hq7829, hA7830⟩, ⟨w7831, hg7832, k7836⟩, ⟨w7833, hg7834, k7837⟩⟩ := hp0
                      refine lv_lstore_n (lv' := [(2, .long r7826), (5, .long l7816), (4, .int r7707), (0, .ref h0), (1, .int x1)]) hx hb dX12_termOf_164 rfl hl (by decide) rfl (fun ls hl => ?_)
                      refine lv_goto (tgt := 6) hx hb dX12_termOf_165 (by decide) ?_
                      exact ih_6 _ (by omega) H locs ls r7826 m2 rfl (lv_sub hl [0, 3, 4] rfl) ⟨by omega, by omega⟩ (by omega) (hL2) (⟨hkf, ht, hT, by omega, ⟨qq7827, hf7828, hq7829, hA7830⟩, ⟨w7831, hg7832, by omega⟩, ⟨w7833, hg7834, by omega⟩⟩) hI hS
                    · skip
                      have k7838 := iv_eq (X := r7707.toInt) (Y := (147)) rfl (by decide) c7822
                      refine lv_lload_n hx hb dX12_termOf_149 rfl (lv_at hl 2 rfl) ?_
                      refine lv_lload hx hb dX12_termOf_150 (lv_at hl 0 rfl) ?_
                      refine lv_ldiv hx hb dX12_termOf_152 (by rw [e7817]; decide) ?_
                      refine lv_topl (fun l7839 e7840 => ?_)
                      refine lv_goto (tgt := 160) hx hb dX12_termOf_153 (by decide) ?_
                      refine lv_iload_n hx hb dX12_termOf_160 rfl (lv_at hl 4 rfl) ?_
                      refine mx_l (As := [.long l7839, .int x1]) (rest := []) (n := 2) (d := 0) ⟨hx, hb, hml, hown, hts⟩ (c_X12_bounded l E D G h0 hG0 l7839 x1 ⟨by omega, by omega⟩ ff tt m2) wd_1502 wd_1504 wp_54 wd_13 wd_1505 (by decide +kernel) ⟨by rw [hR]; show 0 + 1 ≤ 3 + 3 * k; omega, by rw [hR]; show 8 + (4 + 11) + 40 * (0) ≤ 40 * (3 + 3 * k); omega⟩ hI hN hK hS hG0 (⟨hkf, ht, hT, by omega, ⟨qq7717, hf7718, hq7719, hA7720⟩, ⟨w7721, hg7722, by omega⟩, ⟨w7723, hg7724, by omega⟩⟩) rfl hl.1 rfl (Nat.le_of_ble_eq_true rfl) dX12_termOf_161 ⟨Nat.zero_le _, Nat.zero_le _⟩ (fun r7841 H locs hI hp hS => ?_)
                      have hp0 := hp
                      obtain ⟨hkf, ht, hT, k7850, ⟨qq7842, hf7843, hq7844, hA7845⟩, ⟨w7846, hg7847, k7851⟩, ⟨w7848, hg7849, k7852⟩⟩ := hp0
                      refine lv_lstore_n (lv' := [(2, .long r7841), (5, .long l7816), (4, .int r7707), (0, .ref h0), (1, .int x1)]) hx hb dX12_termOf_164 rfl hl (by decide) rfl (fun ls hl => ?_)
                      refine lv_goto (tgt := 6) hx hb dX12_termOf_165 (by decide) ?_
                      exact ih_6 _ (by omega) H locs ls r7841 m2 rfl (lv_sub hl [0, 3, 4] rfl) ⟨by omega, by omega⟩ (by omega) (hL2) (⟨hkf, ht, hT, by omega, ⟨qq7842, hf7843, hq7844, hA7845⟩, ⟨w7846, hg7847, by omega⟩, ⟨w7848, hg7849, by omega⟩⟩) hI hS
                  · skip
                    have k7853 := iv_eq (X := r7707.toInt) (Y := (142)) rfl (by decide) c7819
                    refine lv_lload_n hx hb dX12_termOf_132 rfl (lv_at hl 2 rfl) ?_
                    refine lv_lload hx hb dX12_termOf_133 (lv_at hl 0 rfl) ?_
                    refine lv_lmul hx hb dX12_termOf_135 ?_
                    refine lv_topl (fun l7854 e7855 => ?_)
                    refine lv_goto (tgt := 160) hx hb dX12_termOf_136 (by decide) ?_
                    refine lv_iload_n hx hb dX12_termOf_160 rfl (lv_at hl 4 rfl) ?_
                    refine mx_l (As := [.long l7854, .int x1]) (rest := []) (n := 2) (d := 0) ⟨hx, hb, hml, hown, hts⟩ (c_X12_bounded l E D G h0 hG0 l7854 x1 ⟨by omega, by omega⟩ ff tt m2) wd_1502 wd_1504 wp_54 wd_13 wd_1505 (by decide +kernel) ⟨by rw [hR]; show 0 + 1 ≤ 3 + 3 * k; omega, by rw [hR]; show 8 + (4 + 11) + 40 * (0) ≤ 40 * (3 + 3 * k); omega⟩ hI hN hK hS hG0 (⟨hkf, ht, hT, by omega, ⟨qq7717, hf7718, hq7719, hA7720⟩, ⟨w7721, hg7722, by omega⟩, ⟨w7723, hg7724, by omega⟩⟩) rfl hl.1 rfl (Nat.le_of_ble_eq_true rfl) dX12_termOf_161 ⟨Nat.zero_le _, Nat.zero_le _⟩ (fun r7856 H locs hI hp hS => ?_)
                    have hp0 := hp
                    obtain ⟨hkf, ht, hT, k7865, ⟨qq7857, hf7858, hq7859, hA7860⟩, ⟨w7861, hg7862, k7866⟩, ⟨w7863, hg7864, k7867⟩⟩ := hp0
                    refine lv_lstore_n (lv' := [(2, .long r7856), (5, .long l7816), (4, .int r7707), (0, .ref h0), (1, .int x1)]) hx hb dX12_termOf_164 rfl hl (by decide) rfl (fun ls hl => ?_)
                    refine lv_goto (tgt := 6) hx hb dX12_termOf_165 (by decide) ?_
                    exact ih_6 _ (by omega) H locs ls r7856 m2 rfl (lv_sub hl [0, 3, 4] rfl) ⟨by omega, by omega⟩ (by omega) (hL2) (⟨hkf, ht, hT, by omega, ⟨qq7857, hf7858, hq7859, hA7860⟩, ⟨w7861, hg7862, by omega⟩, ⟨w7863, hg7864, by omega⟩⟩) hI hS
                · skip
                  have k7868 := iv_eq (X := w7809.toInt) (Y := (0)) rfl (by decide) c7813
                  refine lv_iload_n hx hb dX12_termOf_106 rfl (lv_at hl 4 rfl) ?_
                  refine lv_if_eq (tgt := 114) hx hb dX12_termOf_107 (by decide) (fun c7869 => ?_) (fun c7869 => ?_)
                  · skip
                    have k7870 := iv_eq (X := x1.toInt) (Y := (0)) rfl (by decide) c7869
                    refine lv_iconst (v := 0) hx hb dX12_termOf_114 (by decide) ?_
                    refine pmI (ty := .boolean) hx hb hts inT12 hown hK hI List.not_mem_nil hG0 hS ⟨_, hG0⟩ 21 (by decide) (hts _ (tb_c wd_1254)) rfl rfl (by decide +kernel) (by decide) rfl rfl (by decide) (by decide) dX12_termOf_115 (fun H locs hI hgP hS => ?_)
                    have hg7722 := hgP.2.2.1 19 _ (by decide) (by decide) hg7722
                    have hg7724 := hgP.2.2.1 20 _ (by decide) (by decide) hg7724
                    have hg7871 := hgP.2.1
                    have hf7718 := hgP.2.2.2 3 _ (by decide) (by decide) hf7718
                    have hA7720 := va_at.kept hA7720 (hgP.1 _ (m_ne hq7719 hG0 (by first | decide | (dsimp only; decide))))
                    refine lv_lconst hx hb dX12_termOf_118 rfl ?_
                    refine lv_topl (fun l7872 e7873 => ?_)
                    refine lv_lstore (lv' := [(5, .long l7872), (4, .int r7707), (2, .long l7104), (0, .ref h0), (1, .int x1)]) hx hb dX12_termOf_119 hl (by decide) rfl (fun ls hl => ?_)
                    refine lv_aload_n hx hb dX12_termOf_121 rfl (lv_at hl 3 rfl) ?_
                    refine lv_iload hx hb dX12_termOf_122 (lv_at hl 1 rfl) ?_
                    refine lv_bipush (v := 42) hx hb dX12_termOf_124 (by decide) ?_
                    refine th_cSs (As := [.int 42]) (rest := [.int r7707, .ref h0]) (n := 1) (d := 0) ⟨hx, hb, hml, hown, hts⟩ (c_X12_sign l H 42) wd_1495 wd_1496 wd_13 wd_1497 (by decide +kernel) ⟨by rw [hR]; show 0 + 1 ≤ 3 + 3 * k; omega, by rw [hR]; show 8 + (1 + 11) + 40 * (0) ≤ 40 * (3 + 3 * k); omega⟩ hN hS rfl hl.1 rfl (Nat.le_of_ble_eq_true rfl) dX12_termOf_126 ⟨Nat.zero_le _, Nat.zero_le _⟩ (fun r7874 locs hp hS => ?_)
                    obtain rfl : r7874 = 142 := hp.trans (by decide)
                    refine lv_icmp_ne (tgt := 139) hx hb dX12_termOf_129 (by decide) (fun c7875 => ?_) (fun c7875 => ?_)
                    · skip
                      have k7876 := iv_ne (X := r7707.toInt) (Y := (142)) rfl (by decide) c7875
                      refine lv_iload hx hb dX12_termOf_139 (lv_at hl 1 rfl) ?_
                      refine lv_bipush (v := 47) hx hb dX12_termOf_141 (by decide) ?_
                      refine th_cSs (As := [.int 47]) (rest := [.int r7707, .ref h0]) (n := 1) (d := 0) ⟨hx, hb, hml, hown, hts⟩ (c_X12_sign l H 47) wd_1495 wd_1496 wd_13 wd_1497 (by decide +kernel) ⟨by rw [hR]; show 0 + 1 ≤ 3 + 3 * k; omega, by rw [hR]; show 8 + (1 + 11) + 40 * (0) ≤ 40 * (3 + 3 * k); omega⟩ hN hS rfl hl.1 rfl (Nat.le_of_ble_eq_true rfl) dX12_termOf_143 ⟨Nat.zero_le _, Nat.zero_le _⟩ (fun r7877 locs hp hS => ?_)
                      obtain rfl : r7877 = 147 := hp.trans (by decide)
                      refine lv_icmp_ne (tgt := 156) hx hb dX12_termOf_146 (by decide) (fun c7878 => ?_) (fun c7878 => ?_)
                      · skip
                        have k7879 := iv_ne (X := r7707.toInt) (Y := (147)) rfl (by decide) c7878
                        refine lv_lload_n hx hb dX12_termOf_156 rfl (lv_at hl 2 rfl) ?_
                        refine lv_lload hx hb dX12_termOf_157 (lv_at hl 0 rfl) ?_
                        refine lv_lrem hx hb dX12_termOf_159 (by rw [e7873]; decide) ?_
                        refine lv_topl (fun l7880 e7881 => ?_)
                        refine lv_iload_n hx hb dX12_termOf_160 rfl (lv_at hl 4 rfl) ?_
                        refine mx_l (As := [.long l7880, .int x1]) (rest := []) (n := 2) (d := 0) ⟨hx, hb, hml, hown, hts⟩ (c_X12_bounded l E D G h0 hG0 l7880 x1 ⟨by omega, by omega⟩ ff tt m2) wd_1502 wd_1504 wp_54 wd_13 wd_1505 (by decide +kernel) ⟨by rw [hR]; show 0 + 1 ≤ 3 + 3 * k; omega, by rw [hR]; show 8 + (4 + 11) + 40 * (0) ≤ 40 * (3 + 3 * k); omega⟩ hI hN hK hS hG0 (⟨hkf, ht, hT, by omega, ⟨qq7717, hf7718, hq7719, hA7720⟩, ⟨w7721, hg7722, by omega⟩, ⟨w7723, hg7724, by omega⟩⟩) rfl hl.1 rfl (Nat.le_of_ble_eq_true rfl) dX12_termOf_161 ⟨Nat.zero_le _, Nat.zero_le _⟩ (fun r7882 H locs hI hp hS => ?_)
                        have hp0 := hp
                        obtain ⟨hkf, ht, hT, k7891, ⟨qq7883, hf7884, hq7885, hA7886⟩, ⟨w7887, hg7888, k7892⟩, ⟨w7889, hg7890, k7893⟩⟩ := hp0
                        refine lv_lstore_n (lv' := [(2, .long r7882), (5, .long l7872), (4, .int r7707), (0, .ref h0), (1, .int x1)]) hx hb dX12_termOf_164 rfl hl (by decide) rfl (fun ls hl => ?_)
                        refine lv_goto (tgt := 6) hx hb dX12_termOf_165 (by decide) ?_
                        exact ih_6 _ (by omega) H locs ls r7882 m2 rfl (lv_sub hl [0, 3, 4] rfl) ⟨by omega, by omega⟩ (by omega) (hL2) (⟨hkf, ht, hT, by omega, ⟨qq7883, hf7884, hq7885, hA7886⟩, ⟨w7887, hg7888, by omega⟩, ⟨w7889, hg7890, by omega⟩⟩) hI hS
                      · skip
                        have k7894 := iv_eq (X := r7707.toInt) (Y := (147)) rfl (by decide) c7878
                        refine lv_lload_n hx hb dX12_termOf_149 rfl (lv_at hl 2 rfl) ?_
                        refine lv_lload hx hb dX12_termOf_150 (lv_at hl 0 rfl) ?_
                        refine lv_ldiv hx hb dX12_termOf_152 (by rw [e7873]; decide) ?_
                        refine lv_topl (fun l7895 e7896 => ?_)
                        refine lv_goto (tgt := 160) hx hb dX12_termOf_153 (by decide) ?_
                        refine lv_iload_n hx hb dX12_termOf_160 rfl (lv_at hl 4 rfl) ?_
                        refine mx_l (As := [.long l7895, .int x1]) (rest := []) (n := 2) (d := 0) ⟨hx, hb, hml, hown, hts⟩ (c_X12_bounded l E D G h0 hG0 l7895 x1 ⟨by omega, by omega⟩ ff tt m2) wd_1502 wd_1504 wp_54 wd_13 wd_1505 (by decide +kernel) ⟨by rw [hR]; show 0 + 1 ≤ 3 + 3 * k; omega, by rw [hR]; show 8 + (4 + 11) + 40 * (0) ≤ 40 * (3 + 3 * k); omega⟩ hI hN hK hS hG0 (⟨hkf, ht, hT, by omega, ⟨qq7717, hf7718, hq7719, hA7720⟩, ⟨w7721, hg7722, by omega⟩, ⟨w7723, hg7724, by omega⟩⟩) rfl hl.1 rfl (Nat.le_of_ble_eq_true rfl) dX12_termOf_161 ⟨Nat.zero_le _, Nat.zero_le _⟩ (fun r7897 H locs hI hp hS => ?_)
                        have hp0 := hp
                        obtain ⟨hkf, ht, hT, k7906, ⟨qq7898, hf7899, hq7900, hA7901⟩, ⟨w7902, hg7903, k7907⟩, ⟨w7904, hg7905, k7908⟩⟩ := hp0
                        refine lv_lstore_n (lv' := [(2, .long r7897), (5, .long l7872), (4, .int r7707), (0, .ref h0), (1, .int x1)]) hx hb dX12_termOf_164 rfl hl (by decide) rfl (fun ls hl => ?_)
                        refine lv_goto (tgt := 6) hx hb dX12_termOf_165 (by decide) ?_
                        exact ih_6 _ (by omega) H locs ls r7897 m2 rfl (lv_sub hl [0, 3, 4] rfl) ⟨by omega, by omega⟩ (by omega) (hL2) (⟨hkf, ht, hT, by omega, ⟨qq7898, hf7899, hq7900, hA7901⟩, ⟨w7902, hg7903, by omega⟩, ⟨w7904, hg7905, by omega⟩⟩) hI hS
                    · skip
                      have k7909 := iv_eq (X := r7707.toInt) (Y := (142)) rfl (by decide) c7875
                      refine lv_lload_n hx hb dX12_termOf_132 rfl (lv_at hl 2 rfl) ?_
                      refine lv_lload hx hb dX12_termOf_133 (lv_at hl 0 rfl) ?_
                      refine lv_lmul hx hb dX12_termOf_135 ?_
                      refine lv_topl (fun l7910 e7911 => ?_)
                      refine lv_goto (tgt := 160) hx hb dX12_termOf_136 (by decide) ?_
                      refine lv_iload_n hx hb dX12_termOf_160 rfl (lv_at hl 4 rfl) ?_
                      refine mx_l (As := [.long l7910, .int x1]) (rest := []) (n := 2) (d := 0) ⟨hx, hb, hml, hown, hts⟩ (c_X12_bounded l E D G h0 hG0 l7910 x1 ⟨by omega, by omega⟩ ff tt m2) wd_1502 wd_1504 wp_54 wd_13 wd_1505 (by decide +kernel) ⟨by rw [hR]; show 0 + 1 ≤ 3 + 3 * k; omega, by rw [hR]; show 8 + (4 + 11) + 40 * (0) ≤ 40 * (3 + 3 * k); omega⟩ hI hN hK hS hG0 (⟨hkf, ht, hT, by omega, ⟨qq7717, hf7718, hq7719, hA7720⟩, ⟨w7721, hg7722, by omega⟩, ⟨w7723, hg7724, by omega⟩⟩) rfl hl.1 rfl (Nat.le_of_ble_eq_true rfl) dX12_termOf_161 ⟨Nat.zero_le _, Nat.zero_le _⟩ (fun r7912 H locs hI hp hS => ?_)
                      have hp0 := hp
                      obtain ⟨hkf, ht, hT, k7921, ⟨qq7913, hf7914, hq7915, hA7916⟩, ⟨w7917, hg7918, k7922⟩, ⟨w7919, hg7920, k7923⟩⟩ := hp0
                      refine lv_lstore_n (lv' := [(2, .long r7912), (5, .long l7872), (4, .int r7707), (0, .ref h0), (1, .int x1)]) hx hb dX12_termOf_164 rfl hl (by decide) rfl (fun ls hl => ?_)
                      refine lv_goto (tgt := 6) hx hb dX12_termOf_165 (by decide) ?_
                      exact ih_6 _ (by omega) H locs ls r7912 m2 rfl (lv_sub hl [0, 3, 4] rfl) ⟨by omega, by omega⟩ (by omega) (hL2) (⟨hkf, ht, hT, by omega, ⟨qq7913, hf7914, hq7915, hA7916⟩, ⟨w7917, hg7918, by omega⟩, ⟨w7919, hg7920, by omega⟩⟩) hI hS
                  · skip
                    have k7924 := iv_ne (X := x1.toInt) (Y := (0)) rfl (by decide) c7869
                    refine lv_iconst (v := 1) hx hb dX12_termOf_110 (by decide) ?_
                    refine lv_goto (tgt := 115) hx hb dX12_termOf_111 (by decide) ?_
                    refine pmI (ty := .boolean) hx hb hts inT12 hown hK hI List.not_mem_nil hG0 hS ⟨_, hG0⟩ 21 (by decide) (hts _ (tb_c wd_1254)) rfl rfl (by decide +kernel) (by decide) rfl rfl (by decide) (by decide) dX12_termOf_115 (fun H locs hI hgP hS => ?_)
                    have hg7722 := hgP.2.2.1 19 _ (by decide) (by decide) hg7722
                    have hg7724 := hgP.2.2.1 20 _ (by decide) (by decide) hg7724
                    have hg7925 := hgP.2.1
                    have hf7718 := hgP.2.2.2 3 _ (by decide) (by decide) hf7718
                    have hA7720 := va_at.kept hA7720 (hgP.1 _ (m_ne hq7719 hG0 (by first | decide | (dsimp only; decide))))
                    refine lv_lconst hx hb dX12_termOf_118 rfl ?_
                    refine lv_topl (fun l7926 e7927 => ?_)
                    refine lv_lstore (lv' := [(5, .long l7926), (4, .int r7707), (2, .long l7104), (0, .ref h0), (1, .int x1)]) hx hb dX12_termOf_119 hl (by decide) rfl (fun ls hl => ?_)
                    refine lv_aload_n hx hb dX12_termOf_121 rfl (lv_at hl 3 rfl) ?_
                    refine lv_iload hx hb dX12_termOf_122 (lv_at hl 1 rfl) ?_
                    refine lv_bipush (v := 42) hx hb dX12_termOf_124 (by decide) ?_
                    refine th_cSs (As := [.int 42]) (rest := [.int r7707, .ref h0]) (n := 1) (d := 0) ⟨hx, hb, hml, hown, hts⟩ (c_X12_sign l H 42) wd_1495 wd_1496 wd_13 wd_1497 (by decide +kernel) ⟨by rw [hR]; show 0 + 1 ≤ 3 + 3 * k; omega, by rw [hR]; show 8 + (1 + 11) + 40 * (0) ≤ 40 * (3 + 3 * k); omega⟩ hN hS rfl hl.1 rfl (Nat.le_of_ble_eq_true rfl) dX12_termOf_126 ⟨Nat.zero_le _, Nat.zero_le _⟩ (fun r7928 locs hp hS => ?_)
                    obtain rfl : r7928 = 142 := hp.trans (by decide)
                    refine lv_icmp_ne (tgt := 139) hx hb dX12_termOf_129 (by decide) (fun c7929 => ?_) (fun c7929 => ?_)
                    · skip
                      have k7930 := iv_ne (X := r7707.toInt) (Y := (142)) rfl (by decide) c7929
                      refine lv_iload hx hb dX12_termOf_139 (lv_at hl 1 rfl) ?_
                      refine lv_bipush (v := 47) hx hb dX12_termOf_141 (by decide) ?_
                      refine th_cSs (As := [.int 47]) (rest := [.int r7707, .ref h0]) (n := 1) (d := 0) ⟨hx, hb, hml, hown, hts⟩ (c_X12_sign l H 47) wd_1495 wd_1496 wd_13 wd_1497 (by decide +kernel) ⟨by rw [hR]; show 0 + 1 ≤ 3 + 3 * k; omega, by rw [hR]; show 8 + (1 + 11) + 40 * (0) ≤ 40 * (3 + 3 * k); omega⟩ hN hS rfl hl.1 rfl (Nat.le_of_ble_eq_true rfl) dX12_termOf_143 ⟨Nat.zero_le _, Nat.zero_le _⟩ (fun r7931 locs hp hS => ?_)
                      obtain rfl : r7931 = 147 := hp.trans (by decide)
                      refine lv_icmp_ne (tgt := 156) hx hb dX12_termOf_146 (by decide) (fun c7932 => ?_) (fun c7932 => ?_)
                      · skip
                        have k7933 := iv_ne (X := r7707.toInt) (Y := (147)) rfl (by decide) c7932
                        refine lv_lload_n hx hb dX12_termOf_156 rfl (lv_at hl 2 rfl) ?_
                        refine lv_lload hx hb dX12_termOf_157 (lv_at hl 0 rfl) ?_
                        refine lv_lrem hx hb dX12_termOf_159 (by rw [e7927]; decide) ?_
                        refine lv_topl (fun l7934 e7935 => ?_)
                        refine lv_iload_n hx hb dX12_termOf_160 rfl (lv_at hl 4 rfl) ?_
                        refine mx_l (As := [.long l7934, .int x1]) (rest := []) (n := 2) (d := 0) ⟨hx, hb, hml, hown, hts⟩ (c_X12_bounded l E D G h0 hG0 l7934 x1 ⟨by omega, by omega⟩ ff tt m2) wd_1502 wd_1504 wp_54 wd_13 wd_1505 (by decide +kernel) ⟨by rw [hR]; show 0 + 1 ≤ 3 + 3 * k; omega, by rw [hR]; show 8 + (4 + 11) + 40 * (0) ≤ 40 * (3 + 3 * k); omega⟩ hI hN hK hS hG0 (⟨hkf, ht, hT, by omega, ⟨qq7717, hf7718, hq7719, hA7720⟩, ⟨w7721, hg7722, by omega⟩, ⟨w7723, hg7724, by omega⟩⟩) rfl hl.1 rfl (Nat.le_of_ble_eq_true rfl) dX12_termOf_161 ⟨Nat.zero_le _, Nat.zero_le _⟩ (fun r7936 H locs hI hp hS => ?_)
                        have hp0 := hp
                        obtain ⟨hkf, ht, hT, k7945, ⟨qq7937, hf7938, hq7939, hA7940⟩, ⟨w7941, hg7942, k7946⟩, ⟨w7943, hg7944, k7947⟩⟩ := hp0
                        refine lv_lstore_n (lv' := [(2, .long r7936), (5, .long l7926), (4, .int r7707), (0, .ref h0), (1, .int x1)]) hx hb dX12_termOf_164 rfl hl (by decide) rfl (fun ls hl => ?_)
                        refine lv_goto (tgt := 6) hx hb dX12_termOf_165 (by decide) ?_
                        exact ih_6 _ (by omega) H locs ls r7936 m2 rfl (lv_sub hl [0, 3, 4] rfl) ⟨by omega, by omega⟩ (by omega) (hL2) (⟨hkf, ht, hT, by omega, ⟨qq7937, hf7938, hq7939, hA7940⟩, ⟨w7941, hg7942, by omega⟩, ⟨w7943, hg7944, by omega⟩⟩) hI hS
                      · skip
                        have k7948 := iv_eq (X := r7707.toInt) (Y := (147)) rfl (by decide) c7932
                        refine lv_lload_n hx hb dX12_termOf_149 rfl (lv_at hl 2 rfl) ?_
                        refine lv_lload hx hb dX12_termOf_150 (lv_at hl 0 rfl) ?_
                        refine lv_ldiv hx hb dX12_termOf_152 (by rw [e7927]; decide) ?_
                        refine lv_topl (fun l7949 e7950 => ?_)
                        refine lv_goto (tgt := 160) hx hb dX12_termOf_153 (by decide) ?_
                        refine lv_iload_n hx hb dX12_termOf_160 rfl (lv_at hl 4 rfl) ?_
                        refine mx_l (As := [.long l7949, .int x1]) (rest := []) (n := 2) (d := 0) ⟨hx, hb, hml, hown, hts⟩ (c_X12_bounded l E D G h0 hG0 l7949 x1 ⟨by omega, by omega⟩ ff tt m2) wd_1502 wd_1504 wp_54 wd_13 wd_1505 (by decide +kernel) ⟨by rw [hR]; show 0 + 1 ≤ 3 + 3 * k; omega, by rw [hR]; show 8 + (4 + 11) + 40 * (0) ≤ 40 * (3 + 3 * k); omega⟩ hI hN hK hS hG0 (⟨hkf, ht, hT, by omega, ⟨qq7717, hf7718, hq7719, hA7720⟩, ⟨w7721, hg7722, by omega⟩, ⟨w7723, hg7724, by omega⟩⟩) rfl hl.1 rfl (Nat.le_of_ble_eq_true rfl) dX12_termOf_161 ⟨Nat.zero_le _, Nat.zero_le _⟩ (fun r7951 H locs hI hp hS => ?_)
                        have hp0 := hp
                        obtain ⟨hkf, ht, hT, k7960, ⟨qq7952, hf7953, hq7954, hA7955⟩, ⟨w7956, hg7957, k7961⟩, ⟨w7958, hg7959, k7962⟩⟩ := hp0
                        refine lv_lstore_n (lv' := [(2, .long r7951), (5, .long l7926), (4, .int r7707), (0, .ref h0), (1, .int x1)]) hx hb dX12_termOf_164 rfl hl (by decide) rfl (fun ls hl => ?_)
                        refine lv_goto (tgt := 6) hx hb dX12_termOf_165 (by decide) ?_
                        exact ih_6 _ (by omega) H locs ls r7951 m2 rfl (lv_sub hl [0, 3, 4] rfl) ⟨by omega, by omega⟩ (by omega) (hL2) (⟨hkf, ht, hT, by omega, ⟨qq7952, hf7953, hq7954, hA7955⟩, ⟨w7956, hg7957, by omega⟩, ⟨w7958, hg7959, by omega⟩⟩) hI hS
                    · skip
                      have k7963 := iv_eq (X := r7707.toInt) (Y := (142)) rfl (by decide) c7929
                      refine lv_lload_n hx hb dX12_termOf_132 rfl (lv_at hl 2 rfl) ?_
                      refine lv_lload hx hb dX12_termOf_133 (lv_at hl 0 rfl) ?_
                      refine lv_lmul hx hb dX12_termOf_135 ?_
                      refine lv_topl (fun l7964 e7965 => ?_)
                      refine lv_goto (tgt := 160) hx hb dX12_termOf_136 (by decide) ?_
                      refine lv_iload_n hx hb dX12_termOf_160 rfl (lv_at hl 4 rfl) ?_
                      refine mx_l (As := [.long l7964, .int x1]) (rest := []) (n := 2) (d := 0) ⟨hx, hb, hml, hown, hts⟩ (c_X12_bounded l E D G h0 hG0 l7964 x1 ⟨by omega, by omega⟩ ff tt m2) wd_1502 wd_1504 wp_54 wd_13 wd_1505 (by decide +kernel) ⟨by rw [hR]; show 0 + 1 ≤ 3 + 3 * k; omega, by rw [hR]; show 8 + (4 + 11) + 40 * (0) ≤ 40 * (3 + 3 * k); omega⟩ hI hN hK hS hG0 (⟨hkf, ht, hT, by omega, ⟨qq7717, hf7718, hq7719, hA7720⟩, ⟨w7721, hg7722, by omega⟩, ⟨w7723, hg7724, by omega⟩⟩) rfl hl.1 rfl (Nat.le_of_ble_eq_true rfl) dX12_termOf_161 ⟨Nat.zero_le _, Nat.zero_le _⟩ (fun r7966 H locs hI hp hS => ?_)
                      have hp0 := hp
                      obtain ⟨hkf, ht, hT, k7975, ⟨qq7967, hf7968, hq7969, hA7970⟩, ⟨w7971, hg7972, k7976⟩, ⟨w7973, hg7974, k7977⟩⟩ := hp0
                      refine lv_lstore_n (lv' := [(2, .long r7966), (5, .long l7926), (4, .int r7707), (0, .ref h0), (1, .int x1)]) hx hb dX12_termOf_164 rfl hl (by decide) rfl (fun ls hl => ?_)
                      refine lv_goto (tgt := 6) hx hb dX12_termOf_165 (by decide) ?_
                      exact ih_6 _ (by omega) H locs ls r7966 m2 rfl (lv_sub hl [0, 3, 4] rfl) ⟨by omega, by omega⟩ (by omega) (hL2) (⟨hkf, ht, hT, by omega, ⟨qq7967, hf7968, hq7969, hA7970⟩, ⟨w7971, hg7972, by omega⟩, ⟨w7973, hg7974, by omega⟩⟩) hI hS
  refine lv_aload_n hx hb dX12_termOf_0 rfl (lv_at hl 0 rfl) ?_
  refine lv_iload_n hx hb dX12_termOf_1 rfl (lv_at hl 1 rfl) ?_
  refine mx_l (As := [.int x1]) (rest := []) (n := 1) (d := (2 + 3 * k)) ⟨hx, hb, hml, hown, hts⟩ (hpart h0 hG0 x1 ⟨by omega, by omega⟩ ff tt dd pp m0 h00 (by omega)) wd_1491 wd_1493 wp_52 wd_13 wd_1494 (by decide +kernel) ⟨by rw [hR]; show (2 + 3 * k) + 1 ≤ 3 + 3 * k; omega, by rw [hR]; show 8 + (4 + 11) + 40 * ((2 + 3 * k)) ≤ 40 * (3 + 3 * k); omega⟩ hI hN hK hS hG0 (⟨hkf, ht, hT, by omega, ⟨qq1, hf2, hq3, hA4⟩, ⟨w5, hg6, by omega⟩, ⟨w7, hg8, by omega⟩⟩) rfl hl.1 rfl (Nat.le_of_ble_eq_true rfl) dX12_termOf_2 ⟨Nat.zero_le _, Nat.zero_le _⟩ (fun r7978 H locs hI hp hS => ?_)
  have hp0 := hp
  obtain ⟨hkf, ht, hT, k7987, ⟨qq7979, hf7980, hq7981, hA7982⟩, ⟨w7983, hg7984, k7988⟩, ⟨w7985, hg7986, k7989⟩⟩ := hp0
  refine lv_lstore_n (lv' := [(2, .long r7978), (0, .ref h0), (1, .int x1)]) hx hb dX12_termOf_5 rfl hl (by decide) rfl (fun ls hl => ?_)
  exact J_6 _ H locs ls r7978 m0 rfl (lv_sub hl [0, 1, 2] rfl) ⟨by omega, by omega⟩ (by omega) (h07) (⟨hkf, ht, hT, by omega, ⟨qq7979, hf7980, hq7981, hA7982⟩, ⟨w7983, hg7984, by omega⟩, ⟨w7985, hg7986, by omega⟩⟩) hI hS
theorem dX12_sumOf_0g : (decode cX12_sumOf 0 = .ok (.aload_n 0, 1)) ∧ (decode cX12_sumOf 1 = .ok (.iload_n 1, 1)) ∧ (decode cX12_sumOf 2 = .ok (.invokevirtual 233, 3)) ∧ (decode cX12_sumOf 5 = .ok (.lstore_n 2, 1)) ∧ (decode cX12_sumOf 6 = .ok (.aload_n 0, 1)) ∧ (decode cX12_sumOf 7 = .ok (.aload_n 0, 1)) ∧ (decode cX12_sumOf 8 = .ok (.getfield 219, 3)) ∧ (decode cX12_sumOf 11 = .ok (.invokevirtual 222, 3)) ∧ (decode cX12_sumOf 14 = .ok (.bipush 43, 2)) ∧ (decode cX12_sumOf 16 = .ok (.invokestatic 194, 3)) := by decide +kernel
theorem dX12_sumOf_0 : decode cX12_sumOf 0 = .ok (.aload_n 0, 1) := dX12_sumOf_0g.1
theorem dX12_sumOf_1 : decode cX12_sumOf 1 = .ok (.iload_n 1, 1) := dX12_sumOf_0g.2.1
theorem dX12_sumOf_2 : decode cX12_sumOf 2 = .ok (.invokevirtual 233, 3) := dX12_sumOf_0g.2.2.1
theorem dX12_sumOf_5 : decode cX12_sumOf 5 = .ok (.lstore_n 2, 1) := dX12_sumOf_0g.2.2.2.1
theorem dX12_sumOf_6 : decode cX12_sumOf 6 = .ok (.aload_n 0, 1) := dX12_sumOf_0g.2.2.2.2.1
theorem dX12_sumOf_7 : decode cX12_sumOf 7 = .ok (.aload_n 0, 1) := dX12_sumOf_0g.2.2.2.2.2.1
theorem dX12_sumOf_8 : decode cX12_sumOf 8 = .ok (.getfield 219, 3) := dX12_sumOf_0g.2.2.2.2.2.2.1
theorem dX12_sumOf_11 : decode cX12_sumOf 11 = .ok (.invokevirtual 222, 3) := dX12_sumOf_0g.2.2.2.2.2.2.2.1
theorem dX12_sumOf_14 : decode cX12_sumOf 14 = .ok (.bipush 43, 2) := dX12_sumOf_0g.2.2.2.2.2.2.2.2.1
theorem dX12_sumOf_16 : decode cX12_sumOf 16 = .ok (.invokestatic 194, 3) := dX12_sumOf_0g.2.2.2.2.2.2.2.2.2
theorem dX12_sumOf_19g : (decode cX12_sumOf 19 = .ok (.if_icmp .eq 19, 3)) ∧ (decode cX12_sumOf 22 = .ok (.aload_n 0, 1)) ∧ (decode cX12_sumOf 23 = .ok (.aload_n 0, 1)) ∧ (decode cX12_sumOf 24 = .ok (.getfield 219, 3)) ∧ (decode cX12_sumOf 27 = .ok (.invokevirtual 222, 3)) ∧ (decode cX12_sumOf 30 = .ok (.bipush 45, 2)) ∧ (decode cX12_sumOf 32 = .ok (.invokestatic 194, 3)) ∧ (decode cX12_sumOf 35 = .ok (.if_icmp .ne 68, 3)) ∧ (decode cX12_sumOf 38 = .ok (.aload_n 0, 1)) ∧ (decode cX12_sumOf 39 = .ok (.aload_n 0, 1)) := by decide +kernel
theorem dX12_sumOf_19 : decode cX12_sumOf 19 = .ok (.if_icmp .eq 19, 3) := dX12_sumOf_19g.1
theorem dX12_sumOf_22 : decode cX12_sumOf 22 = .ok (.aload_n 0, 1) := dX12_sumOf_19g.2.1
theorem dX12_sumOf_23 : decode cX12_sumOf 23 = .ok (.aload_n 0, 1) := dX12_sumOf_19g.2.2.1
theorem dX12_sumOf_24 : decode cX12_sumOf 24 = .ok (.getfield 219, 3) := dX12_sumOf_19g.2.2.2.1
theorem dX12_sumOf_27 : decode cX12_sumOf 27 = .ok (.invokevirtual 222, 3) := dX12_sumOf_19g.2.2.2.2.1
theorem dX12_sumOf_30 : decode cX12_sumOf 30 = .ok (.bipush 45, 2) := dX12_sumOf_19g.2.2.2.2.2.1
theorem dX12_sumOf_32 : decode cX12_sumOf 32 = .ok (.invokestatic 194, 3) := dX12_sumOf_19g.2.2.2.2.2.2.1
theorem dX12_sumOf_35 : decode cX12_sumOf 35 = .ok (.if_icmp .ne 68, 3) := dX12_sumOf_19g.2.2.2.2.2.2.2.1
theorem dX12_sumOf_38 : decode cX12_sumOf 38 = .ok (.aload_n 0, 1) := dX12_sumOf_19g.2.2.2.2.2.2.2.2.1
theorem dX12_sumOf_39 : decode cX12_sumOf 39 = .ok (.aload_n 0, 1) := dX12_sumOf_19g.2.2.2.2.2.2.2.2.2
theorem dX12_sumOf_40g : (decode cX12_sumOf 40 = .ok (.getfield 219, 3)) ∧ (decode cX12_sumOf 43 = .ok (.invokevirtual 222, 3)) ∧ (decode cX12_sumOf 46 = .ok (.bipush 43, 2)) ∧ (decode cX12_sumOf 48 = .ok (.invokestatic 194, 3)) ∧ (decode cX12_sumOf 51 = .ok (.if_icmp .ne 7, 3)) ∧ (decode cX12_sumOf 54 = .ok (.iconst 1, 1)) ∧ (decode cX12_sumOf 55 = .ok (.goto 4, 3)) ∧ (decode cX12_sumOf 58 = .ok (.iconst 0, 1)) ∧ (decode cX12_sumOf 59 = .ok (.istore 4, 2)) ∧ (decode cX12_sumOf 61 = .ok (.aload_n 0, 1)) := by decide +kernel
theorem dX12_sumOf_40 : decode cX12_sumOf 40 = .ok (.getfield 219, 3) := dX12_sumOf_40g.1
theorem dX12_sumOf_43 : decode cX12_sumOf 43 = .ok (.invokevirtual 222, 3) := dX12_sumOf_40g.2.1
theorem dX12_sumOf_46 : decode cX12_sumOf 46 = .ok (.bipush 43, 2) := dX12_sumOf_40g.2.2.1
theorem dX12_sumOf_48 : decode cX12_sumOf 48 = .ok (.invokestatic 194, 3) := dX12_sumOf_40g.2.2.2.1
theorem dX12_sumOf_51 : decode cX12_sumOf 51 = .ok (.if_icmp .ne 7, 3) := dX12_sumOf_40g.2.2.2.2.1
theorem dX12_sumOf_54 : decode cX12_sumOf 54 = .ok (.iconst 1, 1) := dX12_sumOf_40g.2.2.2.2.2.1
theorem dX12_sumOf_55 : decode cX12_sumOf 55 = .ok (.goto 4, 3) := dX12_sumOf_40g.2.2.2.2.2.2.1
theorem dX12_sumOf_58 : decode cX12_sumOf 58 = .ok (.iconst 0, 1) := dX12_sumOf_40g.2.2.2.2.2.2.2.1
theorem dX12_sumOf_59 : decode cX12_sumOf 59 = .ok (.istore 4, 2) := dX12_sumOf_40g.2.2.2.2.2.2.2.2.1
theorem dX12_sumOf_61 : decode cX12_sumOf 61 = .ok (.aload_n 0, 1) := dX12_sumOf_40g.2.2.2.2.2.2.2.2.2
theorem dX12_sumOf_62g : (decode cX12_sumOf 62 = .ok (.dup, 1)) ∧ (decode cX12_sumOf 63 = .ok (.getfield 219, 3)) ∧ (decode cX12_sumOf 66 = .ok (.iconst 1, 1)) ∧ (decode cX12_sumOf 67 = .ok (.iadd, 1)) ∧ (decode cX12_sumOf 68 = .ok (.putfield 219, 3)) ∧ (decode cX12_sumOf 71 = .ok (.aload_n 0, 1)) ∧ (decode cX12_sumOf 72 = .ok (.iload_n 1, 1)) ∧ (decode cX12_sumOf 73 = .ok (.invokevirtual 233, 3)) ∧ (decode cX12_sumOf 76 = .ok (.lstore 5, 2)) ∧ (decode cX12_sumOf 78 = .ok (.aload_n 0, 1)) := by decide +kernel
theorem dX12_sumOf_62 : decode cX12_sumOf 62 = .ok (.dup, 1) := dX12_sumOf_62g.1
theorem dX12_sumOf_63 : decode cX12_sumOf 63 = .ok (.getfield 219, 3) := dX12_sumOf_62g.2.1
theorem dX12_sumOf_66 : decode cX12_sumOf 66 = .ok (.iconst 1, 1) := dX12_sumOf_62g.2.2.1
theorem dX12_sumOf_67 : decode cX12_sumOf 67 = .ok (.iadd, 1) := dX12_sumOf_62g.2.2.2.1
theorem dX12_sumOf_68 : decode cX12_sumOf 68 = .ok (.putfield 219, 3) := dX12_sumOf_62g.2.2.2.2.1
theorem dX12_sumOf_71 : decode cX12_sumOf 71 = .ok (.aload_n 0, 1) := dX12_sumOf_62g.2.2.2.2.2.1
theorem dX12_sumOf_72 : decode cX12_sumOf 72 = .ok (.iload_n 1, 1) := dX12_sumOf_62g.2.2.2.2.2.2.1
theorem dX12_sumOf_73 : decode cX12_sumOf 73 = .ok (.invokevirtual 233, 3) := dX12_sumOf_62g.2.2.2.2.2.2.2.1
theorem dX12_sumOf_76 : decode cX12_sumOf 76 = .ok (.lstore 5, 2) := dX12_sumOf_62g.2.2.2.2.2.2.2.2.1
theorem dX12_sumOf_78 : decode cX12_sumOf 78 = .ok (.aload_n 0, 1) := dX12_sumOf_62g.2.2.2.2.2.2.2.2.2
theorem dX12_sumOf_79g : (decode cX12_sumOf 79 = .ok (.iload 4, 2)) ∧ (decode cX12_sumOf 81 = .ok (.ifCond .eq 10, 3)) ∧ (decode cX12_sumOf 84 = .ok (.lload_n 2, 1)) ∧ (decode cX12_sumOf 85 = .ok (.lload 5, 2)) ∧ (decode cX12_sumOf 87 = .ok (.ladd, 1)) ∧ (decode cX12_sumOf 88 = .ok (.goto 7, 3)) ∧ (decode cX12_sumOf 91 = .ok (.lload_n 2, 1)) ∧ (decode cX12_sumOf 92 = .ok (.lload 5, 2)) ∧ (decode cX12_sumOf 94 = .ok (.lsub, 1)) ∧ (decode cX12_sumOf 95 = .ok (.iload_n 1, 1)) := by decide +kernel
theorem dX12_sumOf_79 : decode cX12_sumOf 79 = .ok (.iload 4, 2) := dX12_sumOf_79g.1
theorem dX12_sumOf_81 : decode cX12_sumOf 81 = .ok (.ifCond .eq 10, 3) := dX12_sumOf_79g.2.1
theorem dX12_sumOf_84 : decode cX12_sumOf 84 = .ok (.lload_n 2, 1) := dX12_sumOf_79g.2.2.1
theorem dX12_sumOf_85 : decode cX12_sumOf 85 = .ok (.lload 5, 2) := dX12_sumOf_79g.2.2.2.1
theorem dX12_sumOf_87 : decode cX12_sumOf 87 = .ok (.ladd, 1) := dX12_sumOf_79g.2.2.2.2.1
theorem dX12_sumOf_88 : decode cX12_sumOf 88 = .ok (.goto 7, 3) := dX12_sumOf_79g.2.2.2.2.2.1
theorem dX12_sumOf_91 : decode cX12_sumOf 91 = .ok (.lload_n 2, 1) := dX12_sumOf_79g.2.2.2.2.2.2.1
theorem dX12_sumOf_92 : decode cX12_sumOf 92 = .ok (.lload 5, 2) := dX12_sumOf_79g.2.2.2.2.2.2.2.1
theorem dX12_sumOf_94 : decode cX12_sumOf 94 = .ok (.lsub, 1) := dX12_sumOf_79g.2.2.2.2.2.2.2.2.1
theorem dX12_sumOf_95 : decode cX12_sumOf 95 = .ok (.iload_n 1, 1) := dX12_sumOf_79g.2.2.2.2.2.2.2.2.2
theorem dX12_sumOf_96g : (decode cX12_sumOf 96 = .ok (.invokevirtual 237, 3)) ∧ (decode cX12_sumOf 99 = .ok (.lstore_n 2, 1)) ∧ (decode cX12_sumOf 100 = .ok (.goto (-94), 3)) ∧ (decode cX12_sumOf 103 = .ok (.lload_n 2, 1)) ∧ (decode cX12_sumOf 104 = .ok (.lreturn, 1)) := by decide +kernel
theorem dX12_sumOf_96 : decode cX12_sumOf 96 = .ok (.invokevirtual 237, 3) := dX12_sumOf_96g.1
theorem dX12_sumOf_99 : decode cX12_sumOf 99 = .ok (.lstore_n 2, 1) := dX12_sumOf_96g.2.1
theorem dX12_sumOf_100 : decode cX12_sumOf 100 = .ok (.goto (-94), 3) := dX12_sumOf_96g.2.2.1
theorem dX12_sumOf_103 : decode cX12_sumOf 103 = .ok (.lload_n 2, 1) := dX12_sumOf_96g.2.2.2.1
theorem dX12_sumOf_104 : decode cX12_sumOf 104 = .ok (.lreturn, 1) := dX12_sumOf_96g.2.2.2.2
set_option maxHeartbeats 4000000 in
set_option maxRecDepth 100000 in
theorem c_X12_sumOf (l : Launch) (E : Nat → Nat) (D : va_G) (G : th_G) (k : Nat) (h0 : Nat) (hG0 : G h0 = some (10, 0)) (x1 : Int32) (hx1 : (0 : Int) ≤ x1.toInt ∧ x1.toInt ≤ 1) (ff : Nat → Int32) (tt dd pp qq : Nat) (hgr : Gr (kC ff tt) 2 dd pp qq) (hk : 8 ≤ dd + k) (hpart : ∀ (h0 : Nat) (hG0 : G h0 = some (10, 0)) (x1 : Int32) (hx1 : (0 : Int) ≤ x1.toInt ∧ x1.toInt ≤ 1) (ff : Nat → Int32) (tt dd pp qq : Nat) (hgr : Gr (kC ff tt) 0 dd pp qq) (hk : 8 ≤ dd + k), Met l yX12_partOf (tb (.code yX12_partOf cX12_partOf 4 (some .long))) (rm (2 + 3 * k)) (va_Pc [.ref h0, .int x1] (PX E D G (fun H => EV E D G h0 ff tt pp H))) (QXl E D G (fun r H => EV E D G h0 ff tt qq H)) 0 0 (th_A G)) : Met l yX12_sumOf (tb (.code yX12_sumOf cX12_sumOf 7 (some .long))) (rm (4 + 3 * k)) (va_Pc [.ref h0, .int x1] (PX E D G (fun H => EV E D G h0 ff tt pp H))) (QXl E D G (fun r H => EV E D G h0 ff tt qq H)) 0 0 (th_A G) := by
  refine Met.ofW (cc := cX12_sumOf) (maxL := 7) (ret := (some .long)) (by decide) rfl ?_
  intro p e s m args below meth c s₁ B hml hv
  obtain ⟨hav, ⟨hI, hN, hK⟩, hX⟩ := hv
  have hx := B.exec
  have hb := B.bytes
  have hr := B.returns
  have hts := atoms_spec (ws := tb (.code yX12_sumOf cX12_sumOf 7 (some .long))) B.pre
  have hown : s.vm.findClass RX12 = some m.cls := findClass_of_methodNamed B.named
  have hlocks := B.notSynchronized
  have hS : va_S (th_A G) s.heap s.heap [] := va_S.rf
  have hl := lv_entry ([.ref h0, .int x1]) (n := 7) (Nat.le_of_ble_eq_true rfl)
  rw [show entryFrame m args 7 = entryFrame m ([.ref h0, .int x1] : List Value).toArray 7 from by rw [hav], lg_entry_eq]
  generalize (lg_sl ([.ref h0, .int x1]) ++ List.replicate (7 - (lg_sl ([.ref h0, .int x1])).length) Slot.unset).toArray = ls at hl ⊢
  have hl : lv_has ls 7 [(0, .ref h0), (1, .int x1)] := hl
  generalize hR : (headSpec (tb (.code yX12_sumOf cX12_sumOf 7 (some .long))) (rm (4 + 3 * k))).room = R
  have hR := hR.symm
  generalize hQ : MQ below (QXl E D G (fun r H => EV E D G h0 ff tt qq H)) args s 0 0 (th_A G) = QF
  have hQ := hQ.symm
  obtain ⟨hkf, ht, hT, k9, ⟨qq1, hf2, hq3, hA4⟩, ⟨w5, hg6, k10⟩, ⟨w7, hg8, k11⟩⟩ := hX
  obtain ⟨m0, h00, h07⟩ := g2_o hgr
  have hlt0 := Gr.lt kC_end (by decide) h00
  have hle0 := Gr.le kC_end (by decide) hlt0.2 h07
  have J_6 : ∀ (nn : Nat) (H : Heap) (locs : List Loc) (ls : Array Slot) (l1656 : Int64) (mm : Nat), (Int.toNat (((qq : Nat) : Int) - ((mm : Nat) : Int)) = nn) → lv_has ls 7 [(2, .long l1656), (0, .ref h0), (1, .int x1)] → ((0 : Int) ≤ x1.toInt ∧ x1.toInt ≤ 1) → (mm ≤ kT ff tt) → (Gr (kC ff tt) 8 dd mm qq) → (EV E D G h0 ff tt mm H) → th_I (okM E) D G [] H → va_S (th_A G) s.heap H locs → W p l e R s m args below meth c H locs 0 0 QF (F0 m 6 ls []) := by
    intro nn
    induction nn using Nat.strongRecOn with
    | ind nn ih_6 =>
      intro H locs ls l1656 mm hm hl k1657 hmT hL hE hI hS
      obtain ⟨hkf, ht, hT, k1666, ⟨qq1658, hf1659, hq1660, hA1661⟩, ⟨w1662, hg1663, k1667⟩, ⟨w1664, hg1665, k1668⟩⟩ := hE
      have hleL := Gr.le kC_end (by decide) hmT hL
      refine lv_aload_n hx hb dX12_sumOf_6 rfl (lv_at hl 1 rfl) ?_
      refine lv_aload_n hx hb dX12_sumOf_7 rfl (lv_at hl 1 rfl) ?_
      refine gmI hx hb hts inT12 hown hK hI List.not_mem_nil hG0 19 (by decide) (hts _ (tb_c wd_1252)) rfl rfl dX12_sumOf_8 (fun w1669 hg1670 k1671 k1672 => ?_)
      obtain rfl := gf.uniq (by decide) hg1663 hg1670
      refine mr_i (As := [.int w1662]) (rest := []) (n := 1) (d := 0) ⟨hx, hb, hml, hown, hts⟩ (c_X12_codeAt l E D G H h0 hG0 w1662 ⟨by omega, by omega⟩ ff tt mm mm ⟨hkf, ht, hT, by omega, ⟨qq1658, hf1659, hq1660, hA1661⟩, ⟨w1662, hg1663, by omega⟩, ⟨w1664, hg1665, by omega⟩⟩ (by omega)) wd_1479 wd_1481 wp_49 wd_13 wd_1482 (by decide +kernel) ⟨by rw [hR]; show 0 + 1 ≤ 4 + 3 * k; omega, by rw [hR]; show 8 + (2 + 11) + 40 * (0) ≤ 40 * (4 + 3 * k); omega⟩ hI hN hK hS hG0 rfl hl.1 rfl (Nat.le_of_ble_eq_true rfl) dX12_sumOf_11 ⟨Nat.zero_le _, Nat.zero_le _⟩ (fun r1673 locs hp hS => ?_)
      have hc1674 := hp
      refine lv_bipush (v := 43) hx hb dX12_sumOf_14 (by decide) ?_
      refine th_cSs (As := [.int 43]) (rest := [.int r1673]) (n := 1) (d := 0) ⟨hx, hb, hml, hown, hts⟩ (c_X12_sign l H 43) wd_1495 wd_1496 wd_13 wd_1497 (by decide +kernel) ⟨by rw [hR]; show 0 + 1 ≤ 4 + 3 * k; omega, by rw [hR]; show 8 + (1 + 11) + 40 * (0) ≤ 40 * (4 + 3 * k); omega⟩ hN hS rfl hl.1 rfl (Nat.le_of_ble_eq_true rfl) dX12_sumOf_16 ⟨Nat.zero_le _, Nat.zero_le _⟩ (fun r1675 locs hp hS => ?_)
      obtain rfl : r1675 = 143 := hp.trans (by decide)
      have k1676 := iv_lo r1673
      have k1677 := iv_hi r1673
      refine lv_icmp_eq (tgt := 38) hx hb dX12_sumOf_19 (by decide) (fun c1678 => ?_) (fun c1678 => ?_)
      · skip
        have k1679 := iv_eq (X := r1673.toInt) (Y := (143)) rfl (by decide) c1678
        obtain ⟨m2, h1, hL2⟩ := g8_m hL (by omega)
        have hlt2 := Gr.lt kC_end (by decide) h1
        have hle2 := Gr.le kC_end (by decide) hlt2.2 hL2
        refine lv_aload_n hx hb dX12_sumOf_38 rfl (lv_at hl 1 rfl) ?_
        refine lv_aload_n hx hb dX12_sumOf_39 rfl (lv_at hl 1 rfl) ?_
        refine gmI hx hb hts inT12 hown hK hI List.not_mem_nil hG0 19 (by decide) (hts _ (tb_c wd_1252)) rfl rfl dX12_sumOf_40 (fun w1680 hg1681 k1682 k1683 => ?_)
        obtain rfl := gf.uniq (by decide) hg1663 hg1681
        refine mr_i (As := [.int w1662]) (rest := []) (n := 1) (d := 0) ⟨hx, hb, hml, hown, hts⟩ (c_X12_codeAt l E D G H h0 hG0 w1662 ⟨by omega, by omega⟩ ff tt mm mm ⟨hkf, ht, hT, by omega, ⟨qq1658, hf1659, hq1660, hA1661⟩, ⟨w1662, hg1663, by omega⟩, ⟨w1664, hg1665, by omega⟩⟩ (by omega)) wd_1479 wd_1481 wp_49 wd_13 wd_1482 (by decide +kernel) ⟨by rw [hR]; show 0 + 1 ≤ 4 + 3 * k; omega, by rw [hR]; show 8 + (2 + 11) + 40 * (0) ≤ 40 * (4 + 3 * k); omega⟩ hI hN hK hS hG0 rfl hl.1 rfl (Nat.le_of_ble_eq_true rfl) dX12_sumOf_43 ⟨Nat.zero_le _, Nat.zero_le _⟩ (fun r1684 locs hp hS => ?_)
        have hc1685 := hp
        refine lv_bipush (v := 43) hx hb dX12_sumOf_46 (by decide) ?_
        refine th_cSs (As := [.int 43]) (rest := [.int r1684]) (n := 1) (d := 0) ⟨hx, hb, hml, hown, hts⟩ (c_X12_sign l H 43) wd_1495 wd_1496 wd_13 wd_1497 (by decide +kernel) ⟨by rw [hR]; show 0 + 1 ≤ 4 + 3 * k; omega, by rw [hR]; show 8 + (1 + 11) + 40 * (0) ≤ 40 * (4 + 3 * k); omega⟩ hN hS rfl hl.1 rfl (Nat.le_of_ble_eq_true rfl) dX12_sumOf_48 ⟨Nat.zero_le _, Nat.zero_le _⟩ (fun r1686 locs hp hS => ?_)
        obtain rfl : r1686 = 143 := hp.trans (by decide)
        have k1687 := iv_lo r1684
        have k1688 := iv_hi r1684
        refine lv_icmp_ne (tgt := 58) hx hb dX12_sumOf_51 (by decide) (fun c1689 => ?_) (fun c1689 => ?_)
        · skip
          have k1690 := iv_ne (X := r1684.toInt) (Y := (143)) rfl (by decide) c1689
          refine lv_iconst (v := 0) hx hb dX12_sumOf_58 (by decide) ?_
          refine lv_istore (lv' := [(4, .int 0), (2, .long l1656), (0, .ref h0), (1, .int x1)]) hx hb dX12_sumOf_59 hl (by decide) rfl (fun ls hl => ?_)
          refine lv_aload_n hx hb dX12_sumOf_61 rfl (lv_at hl 2 rfl) ?_
          refine lv_dup hx hb dX12_sumOf_62 rfl ?_
          refine gmI hx hb hts inT12 hown hK hI List.not_mem_nil hG0 19 (by decide) (hts _ (tb_c wd_1252)) rfl rfl dX12_sumOf_63 (fun w1691 hg1692 k1693 k1694 => ?_)
          obtain rfl := gf.uniq (by decide) hg1663 hg1692
          refine lv_iconst (v := 1) hx hb dX12_sumOf_66 (by decide) ?_
          refine lv_iadd hx hb dX12_sumOf_67 ?_
          refine lv_topi (fun v1695 e1696 => ?_)
          have tv1695 : v1695.toInt = w1662.toInt + (1) := iv_add rfl (by decide) e1696 (by omega) (by omega)
          refine pmI (ty := .int) hx hb hts inT12 hown hK hI List.not_mem_nil hG0 hS ⟨_, hG0⟩ 19 (by decide) (hts _ (tb_c wd_1252)) rfl rfl (by decide +kernel) rfl rfl rfl (by omega) (by omega) dX12_sumOf_68 (fun H locs hI hgP hS => ?_)
          have hg1665 := hgP.2.2.1 20 _ (by decide) (by decide) hg1665
          have hg1697 := hgP.2.1
          have hf1659 := hgP.2.2.2 3 _ (by decide) (by decide) hf1659
          have hA1661 := va_at.kept hA1661 (hgP.1 _ (m_ne hq1660 hG0 (by first | decide | (dsimp only; decide))))
          refine lv_aload_n hx hb dX12_sumOf_71 rfl (lv_at hl 2 rfl) ?_
          refine lv_iload_n hx hb dX12_sumOf_72 rfl (lv_at hl 3 rfl) ?_
          refine mx_l (As := [.int x1]) (rest := []) (n := 1) (d := (3 + 3 * k)) ⟨hx, hb, hml, hown, hts⟩ (c_X12_termOf l E D G k h0 hG0 x1 ⟨by omega, by omega⟩ ff tt dd (mm + 1) m2 h1 (by omega) hpart) wd_1487 wd_1489 wp_51 wd_13 wd_1490 (by decide +kernel) ⟨by rw [hR]; show (3 + 3 * k) + 1 ≤ 4 + 3 * k; omega, by rw [hR]; show 8 + (7 + 11) + 40 * ((3 + 3 * k)) ≤ 40 * (4 + 3 * k); omega⟩ hI hN hK hS hG0 (⟨hkf, ht, hT, by omega, ⟨qq1658, hf1659, hq1660, hA1661⟩, ⟨v1695, hg1697, by omega⟩, ⟨w1664, hg1665, by omega⟩⟩) rfl hl.1 rfl (Nat.le_of_ble_eq_true rfl) dX12_sumOf_73 ⟨Nat.zero_le _, Nat.zero_le _⟩ (fun r1698 H locs hI hp hS => ?_)
          have hp0 := hp
          obtain ⟨hkf, ht, hT, k1707, ⟨qq1699, hf1700, hq1701, hA1702⟩, ⟨w1703, hg1704, k1708⟩, ⟨w1705, hg1706, k1709⟩⟩ := hp0
          refine lv_lstore (lv' := [(5, .long r1698), (4, .int 0), (2, .long l1656), (0, .ref h0), (1, .int x1)]) hx hb dX12_sumOf_76 hl (by decide) rfl (fun ls hl => ?_)
          refine lv_aload_n hx hb dX12_sumOf_78 rfl (lv_at hl 3 rfl) ?_
          refine lv_iload hx hb dX12_sumOf_79 (lv_at hl 1 rfl) ?_
          refine lv_if_eq (tgt := 91) hx hb dX12_sumOf_81 (by decide) (fun _ => ?_) (fun c => absurd c (by decide))
          refine lv_lload_n hx hb dX12_sumOf_91 rfl (lv_at hl 2 rfl) ?_
          refine lv_lload hx hb dX12_sumOf_92 (lv_at hl 0 rfl) ?_
          refine lv_lsub hx hb dX12_sumOf_94 ?_
          refine lv_topl (fun l1710 e1711 => ?_)
          refine lv_iload_n hx hb dX12_sumOf_95 rfl (lv_at hl 4 rfl) ?_
          refine mx_l (As := [.long l1710, .int x1]) (rest := []) (n := 2) (d := 0) ⟨hx, hb, hml, hown, hts⟩ (c_X12_bounded l E D G h0 hG0 l1710 x1 ⟨by omega, by omega⟩ ff tt m2) wd_1502 wd_1504 wp_54 wd_13 wd_1505 (by decide +kernel) ⟨by rw [hR]; show 0 + 1 ≤ 4 + 3 * k; omega, by rw [hR]; show 8 + (4 + 11) + 40 * (0) ≤ 40 * (4 + 3 * k); omega⟩ hI hN hK hS hG0 (⟨hkf, ht, hT, by omega, ⟨qq1699, hf1700, hq1701, hA1702⟩, ⟨w1703, hg1704, by omega⟩, ⟨w1705, hg1706, by omega⟩⟩) rfl hl.1 rfl (Nat.le_of_ble_eq_true rfl) dX12_sumOf_96 ⟨Nat.zero_le _, Nat.zero_le _⟩ (fun r1712 H locs hI hp hS => ?_)
          have hp0 := hp
          obtain ⟨hkf, ht, hT, k1721, ⟨qq1713, hf1714, hq1715, hA1716⟩, ⟨w1717, hg1718, k1722⟩, ⟨w1719, hg1720, k1723⟩⟩ := hp0
          refine lv_lstore_n (lv' := [(2, .long r1712), (5, .long r1698), (4, .int 0), (0, .ref h0), (1, .int x1)]) hx hb dX12_sumOf_99 rfl hl (by decide) rfl (fun ls hl => ?_)
          refine lv_goto (tgt := 6) hx hb dX12_sumOf_100 (by decide) ?_
          exact ih_6 _ (by omega) H locs ls r1712 m2 rfl (lv_sub hl [0, 3, 4] rfl) ⟨by omega, by omega⟩ (by omega) (hL2) (⟨hkf, ht, hT, by omega, ⟨qq1713, hf1714, hq1715, hA1716⟩, ⟨w1717, hg1718, by omega⟩, ⟨w1719, hg1720, by omega⟩⟩) hI hS
        · skip
          have k1724 := iv_eq (X := r1684.toInt) (Y := (143)) rfl (by decide) c1689
          refine lv_iconst (v := 1) hx hb dX12_sumOf_54 (by decide) ?_
          refine lv_goto (tgt := 59) hx hb dX12_sumOf_55 (by decide) ?_
          refine lv_istore (lv' := [(4, .int 1), (2, .long l1656), (0, .ref h0), (1, .int x1)]) hx hb dX12_sumOf_59 hl (by decide) rfl (fun ls hl => ?_)
          refine lv_aload_n hx hb dX12_sumOf_61 rfl (lv_at hl 2 rfl) ?_
          refine lv_dup hx hb dX12_sumOf_62 rfl ?_
          refine gmI hx hb hts inT12 hown hK hI List.not_mem_nil hG0 19 (by decide) (hts _ (tb_c wd_1252)) rfl rfl dX12_sumOf_63 (fun w1725 hg1726 k1727 k1728 => ?_)
          obtain rfl := gf.uniq (by decide) hg1663 hg1726
          refine lv_iconst (v := 1) hx hb dX12_sumOf_66 (by decide) ?_
          refine lv_iadd hx hb dX12_sumOf_67 ?_
          refine lv_topi (fun v1729 e1730 => ?_)
          have tv1729 : v1729.toInt = w1662.toInt + (1) := iv_add rfl (by decide) e1730 (by omega) (by omega)
          refine pmI (ty := .int) hx hb hts inT12 hown hK hI List.not_mem_nil hG0 hS ⟨_, hG0⟩ 19 (by decide) (hts _ (tb_c wd_1252)) rfl rfl (by decide +kernel) rfl rfl rfl (by omega) (by omega) dX12_sumOf_68 (fun H locs hI hgP hS => ?_)
          have hg1665 := hgP.2.2.1 20 _ (by decide) (by decide) hg1665
          have hg1731 := hgP.2.1
          have hf1659 := hgP.2.2.2 3 _ (by decide) (by decide) hf1659
          have hA1661 := va_at.kept hA1661 (hgP.1 _ (m_ne hq1660 hG0 (by first | decide | (dsimp only; decide))))
          refine lv_aload_n hx hb dX12_sumOf_71 rfl (lv_at hl 2 rfl) ?_
          refine lv_iload_n hx hb dX12_sumOf_72 rfl (lv_at hl 3 rfl) ?_
          refine mx_l (As := [.int x1]) (rest := []) (n := 1) (d := (3 + 3 * k)) ⟨hx, hb, hml, hown, hts⟩ (c_X12_termOf l E D G k h0 hG0 x1 ⟨by omega, by omega⟩ ff tt dd (mm + 1) m2 h1 (by omega) hpart) wd_1487 wd_1489 wp_51 wd_13 wd_1490 (by decide +kernel) ⟨by rw [hR]; show (3 + 3 * k) + 1 ≤ 4 + 3 * k; omega, by rw [hR]; show 8 + (7 + 11) + 40 * ((3 + 3 * k)) ≤ 40 * (4 + 3 * k); omega⟩ hI hN hK hS hG0 (⟨hkf, ht, hT, by omega, ⟨qq1658, hf1659, hq1660, hA1661⟩, ⟨v1729, hg1731, by omega⟩, ⟨w1664, hg1665, by omega⟩⟩) rfl hl.1 rfl (Nat.le_of_ble_eq_true rfl) dX12_sumOf_73 ⟨Nat.zero_le _, Nat.zero_le _⟩ (fun r1732 H locs hI hp hS => ?_)
          have hp0 := hp
          obtain ⟨hkf, ht, hT, k1741, ⟨qq1733, hf1734, hq1735, hA1736⟩, ⟨w1737, hg1738, k1742⟩, ⟨w1739, hg1740, k1743⟩⟩ := hp0
          refine lv_lstore (lv' := [(5, .long r1732), (4, .int 1), (2, .long l1656), (0, .ref h0), (1, .int x1)]) hx hb dX12_sumOf_76 hl (by decide) rfl (fun ls hl => ?_)
          refine lv_aload_n hx hb dX12_sumOf_78 rfl (lv_at hl 3 rfl) ?_
          refine lv_iload hx hb dX12_sumOf_79 (lv_at hl 1 rfl) ?_
          refine lv_if_eq (tgt := 91) hx hb dX12_sumOf_81 (by decide) (fun c => absurd c (by decide)) (fun _ => ?_)
          refine lv_lload_n hx hb dX12_sumOf_84 rfl (lv_at hl 2 rfl) ?_
          refine lv_lload hx hb dX12_sumOf_85 (lv_at hl 0 rfl) ?_
          refine lv_ladd hx hb dX12_sumOf_87 ?_
          refine lv_topl (fun l1744 e1745 => ?_)
          refine lv_goto (tgt := 95) hx hb dX12_sumOf_88 (by decide) ?_
          refine lv_iload_n hx hb dX12_sumOf_95 rfl (lv_at hl 4 rfl) ?_
          refine mx_l (As := [.long l1744, .int x1]) (rest := []) (n := 2) (d := 0) ⟨hx, hb, hml, hown, hts⟩ (c_X12_bounded l E D G h0 hG0 l1744 x1 ⟨by omega, by omega⟩ ff tt m2) wd_1502 wd_1504 wp_54 wd_13 wd_1505 (by decide +kernel) ⟨by rw [hR]; show 0 + 1 ≤ 4 + 3 * k; omega, by rw [hR]; show 8 + (4 + 11) + 40 * (0) ≤ 40 * (4 + 3 * k); omega⟩ hI hN hK hS hG0 (⟨hkf, ht, hT, by omega, ⟨qq1733, hf1734, hq1735, hA1736⟩, ⟨w1737, hg1738, by omega⟩, ⟨w1739, hg1740, by omega⟩⟩) rfl hl.1 rfl (Nat.le_of_ble_eq_true rfl) dX12_sumOf_96 ⟨Nat.zero_le _, Nat.zero_le _⟩ (fun r1746 H locs hI hp hS => ?_)
          have hp0 := hp
          obtain ⟨hkf, ht, hT, k1755, ⟨qq1747, hf1748, hq1749, hA1750⟩, ⟨w1751, hg1752, k1756⟩, ⟨w1753, hg1754, k1757⟩⟩ := hp0
          refine lv_lstore_n (lv' := [(2, .long r1746), (5, .long r1732), (4, .int 1), (0, .ref h0), (1, .int x1)]) hx hb dX12_sumOf_99 rfl hl (by decide) rfl (fun ls hl => ?_)
          refine lv_goto (tgt := 6) hx hb dX12_sumOf_100 (by decide) ?_
          exact ih_6 _ (by omega) H locs ls r1746 m2 rfl (lv_sub hl [0, 3, 4] rfl) ⟨by omega, by omega⟩ (by omega) (hL2) (⟨hkf, ht, hT, by omega, ⟨qq1747, hf1748, hq1749, hA1750⟩, ⟨w1751, hg1752, by omega⟩, ⟨w1753, hg1754, by omega⟩⟩) hI hS
      · skip
        have k1758 := iv_ne (X := r1673.toInt) (Y := (143)) rfl (by decide) c1678
        refine lv_aload_n hx hb dX12_sumOf_22 rfl (lv_at hl 1 rfl) ?_
        refine lv_aload_n hx hb dX12_sumOf_23 rfl (lv_at hl 1 rfl) ?_
        refine gmI hx hb hts inT12 hown hK hI List.not_mem_nil hG0 19 (by decide) (hts _ (tb_c wd_1252)) rfl rfl dX12_sumOf_24 (fun w1759 hg1760 k1761 k1762 => ?_)
        obtain rfl := gf.uniq (by decide) hg1663 hg1760
        refine mr_i (As := [.int w1662]) (rest := []) (n := 1) (d := 0) ⟨hx, hb, hml, hown, hts⟩ (c_X12_codeAt l E D G H h0 hG0 w1662 ⟨by omega, by omega⟩ ff tt mm mm ⟨hkf, ht, hT, by omega, ⟨qq1658, hf1659, hq1660, hA1661⟩, ⟨w1662, hg1663, by omega⟩, ⟨w1664, hg1665, by omega⟩⟩ (by omega)) wd_1479 wd_1481 wp_49 wd_13 wd_1482 (by decide +kernel) ⟨by rw [hR]; show 0 + 1 ≤ 4 + 3 * k; omega, by rw [hR]; show 8 + (2 + 11) + 40 * (0) ≤ 40 * (4 + 3 * k); omega⟩ hI hN hK hS hG0 rfl hl.1 rfl (Nat.le_of_ble_eq_true rfl) dX12_sumOf_27 ⟨Nat.zero_le _, Nat.zero_le _⟩ (fun r1763 locs hp hS => ?_)
        have hc1764 := hp
        refine lv_bipush (v := 45) hx hb dX12_sumOf_30 (by decide) ?_
        refine th_cSs (As := [.int 45]) (rest := [.int r1763]) (n := 1) (d := 0) ⟨hx, hb, hml, hown, hts⟩ (c_X12_sign l H 45) wd_1495 wd_1496 wd_13 wd_1497 (by decide +kernel) ⟨by rw [hR]; show 0 + 1 ≤ 4 + 3 * k; omega, by rw [hR]; show 8 + (1 + 11) + 40 * (0) ≤ 40 * (4 + 3 * k); omega⟩ hN hS rfl hl.1 rfl (Nat.le_of_ble_eq_true rfl) dX12_sumOf_32 ⟨Nat.zero_le _, Nat.zero_le _⟩ (fun r1765 locs hp hS => ?_)
        obtain rfl : r1765 = 145 := hp.trans (by decide)
        have k1766 := iv_lo r1763
        have k1767 := iv_hi r1763
        refine lv_icmp_ne (tgt := 103) hx hb dX12_sumOf_35 (by decide) (fun c1768 => ?_) (fun c1768 => ?_)
        · skip
          have k1769 := iv_ne (X := r1763.toInt) (Y := (145)) rfl (by decide) c1768
          have hqm : qq = mm := g8_x hL (by omega) (by omega)
          refine lv_lload_n hx hb dX12_sumOf_103 rfl (lv_at hl 0 rfl) ?_
          have hpost : EV E D G h0 ff tt qq H := ⟨hkf, ht, hT, by omega, ⟨qq1658, hf1659, hq1660, hA1661⟩, ⟨w1662, hg1663, by omega⟩, ⟨w1664, hg1665, by omega⟩⟩
          rw [hQ]
          exact W.lret (v := l1656) hx hb hr (fun t ht hW => ⟨⟨l1656, l1656, rfl, rfl, ⟨by rw [ht]; exact hI, hN.warm hW, va_K.moved hW.alike hK⟩, by first | (rw [ht]; exact hpost) | exact hpost⟩, hS.F ht⟩) hS.2.2 dX12_sumOf_104
        · skip
          have k1770 := iv_eq (X := r1763.toInt) (Y := (145)) rfl (by decide) c1768
          obtain ⟨m2, h1, hL2⟩ := g8_m hL (by omega)
          have hlt2 := Gr.lt kC_end (by decide) h1
          have hle2 := Gr.le kC_end (by decide) hlt2.2 hL2
          refine lv_aload_n hx hb dX12_sumOf_38 rfl (lv_at hl 1 rfl) ?_
          refine lv_aload_n hx hb dX12_sumOf_39 rfl (lv_at hl 1 rfl) ?_
          refine gmI hx hb hts inT12 hown hK hI List.not_mem_nil hG0 19 (by decide) (hts _ (tb_c wd_1252)) rfl rfl dX12_sumOf_40 (fun w1771 hg1772 k1773 k1774 => ?_)
          obtain rfl := gf.uniq (by decide) hg1663 hg1772
          refine mr_i (As := [.int w1662]) (rest := []) (n := 1) (d := 0) ⟨hx, hb, hml, hown, hts⟩ (c_X12_codeAt l E D G H h0 hG0 w1662 ⟨by omega, by omega⟩ ff tt mm mm ⟨hkf, ht, hT, by omega, ⟨qq1658, hf1659, hq1660, hA1661⟩, ⟨w1662, hg1663, by omega⟩, ⟨w1664, hg1665, by omega⟩⟩ (by omega)) wd_1479 wd_1481 wp_49 wd_13 wd_1482 (by decide +kernel) ⟨by rw [hR]; show 0 + 1 ≤ 4 + 3 * k; omega, by rw [hR]; show 8 + (2 + 11) + 40 * (0) ≤ 40 * (4 + 3 * k); omega⟩ hI hN hK hS hG0 rfl hl.1 rfl (Nat.le_of_ble_eq_true rfl) dX12_sumOf_43 ⟨Nat.zero_le _, Nat.zero_le _⟩ (fun r1775 locs hp hS => ?_)
          have hc1776 := hp
          refine lv_bipush (v := 43) hx hb dX12_sumOf_46 (by decide) ?_
          refine th_cSs (As := [.int 43]) (rest := [.int r1775]) (n := 1) (d := 0) ⟨hx, hb, hml, hown, hts⟩ (c_X12_sign l H 43) wd_1495 wd_1496 wd_13 wd_1497 (by decide +kernel) ⟨by rw [hR]; show 0 + 1 ≤ 4 + 3 * k; omega, by rw [hR]; show 8 + (1 + 11) + 40 * (0) ≤ 40 * (4 + 3 * k); omega⟩ hN hS rfl hl.1 rfl (Nat.le_of_ble_eq_true rfl) dX12_sumOf_48 ⟨Nat.zero_le _, Nat.zero_le _⟩ (fun r1777 locs hp hS => ?_)
          obtain rfl : r1777 = 143 := hp.trans (by decide)
          have k1778 := iv_lo r1775
          have k1779 := iv_hi r1775
          refine lv_icmp_ne (tgt := 58) hx hb dX12_sumOf_51 (by decide) (fun c1780 => ?_) (fun c1780 => ?_)
          · skip
            have k1781 := iv_ne (X := r1775.toInt) (Y := (143)) rfl (by decide) c1780
            refine lv_iconst (v := 0) hx hb dX12_sumOf_58 (by decide) ?_
            refine lv_istore (lv' := [(4, .int 0), (2, .long l1656), (0, .ref h0), (1, .int x1)]) hx hb dX12_sumOf_59 hl (by decide) rfl (fun ls hl => ?_)
            refine lv_aload_n hx hb dX12_sumOf_61 rfl (lv_at hl 2 rfl) ?_
            refine lv_dup hx hb dX12_sumOf_62 rfl ?_
            refine gmI hx hb hts inT12 hown hK hI List.not_mem_nil hG0 19 (by decide) (hts _ (tb_c wd_1252)) rfl rfl dX12_sumOf_63 (fun w1782 hg1783 k1784 k1785 => ?_)
            obtain rfl := gf.uniq (by decide) hg1663 hg1783
            refine lv_iconst (v := 1) hx hb dX12_sumOf_66 (by decide) ?_
            refine lv_iadd hx hb dX12_sumOf_67 ?_
            refine lv_topi (fun v1786 e1787 => ?_)
            have tv1786 : v1786.toInt = w1662.toInt + (1) := iv_add rfl (by decide) e1787 (by omega) (by omega)
            refine pmI (ty := .int) hx hb hts inT12 hown hK hI List.not_mem_nil hG0 hS ⟨_, hG0⟩ 19 (by decide) (hts _ (tb_c wd_1252)) rfl rfl (by decide +kernel) rfl rfl rfl (by omega) (by omega) dX12_sumOf_68 (fun H locs hI hgP hS => ?_)
            have hg1665 := hgP.2.2.1 20 _ (by decide) (by decide) hg1665
            have hg1788 := hgP.2.1
            have hf1659 := hgP.2.2.2 3 _ (by decide) (by decide) hf1659
            have hA1661 := va_at.kept hA1661 (hgP.1 _ (m_ne hq1660 hG0 (by first | decide | (dsimp only; decide))))
            refine lv_aload_n hx hb dX12_sumOf_71 rfl (lv_at hl 2 rfl) ?_
            refine lv_iload_n hx hb dX12_sumOf_72 rfl (lv_at hl 3 rfl) ?_
            refine mx_l (As := [.int x1]) (rest := []) (n := 1) (d := (3 + 3 * k)) ⟨hx, hb, hml, hown, hts⟩ (c_X12_termOf l E D G k h0 hG0 x1 ⟨by omega, by omega⟩ ff tt dd (mm + 1) m2 h1 (by omega) hpart) wd_1487 wd_1489 wp_51 wd_13 wd_1490 (by decide +kernel) ⟨by rw [hR]; show (3 + 3 * k) + 1 ≤ 4 + 3 * k; omega, by rw [hR]; show 8 + (7 + 11) + 40 * ((3 + 3 * k)) ≤ 40 * (4 + 3 * k); omega⟩ hI hN hK hS hG0 (⟨hkf, ht, hT, by omega, ⟨qq1658, hf1659, hq1660, hA1661⟩, ⟨v1786, hg1788, by omega⟩, ⟨w1664, hg1665, by omega⟩⟩) rfl hl.1 rfl (Nat.le_of_ble_eq_true rfl) dX12_sumOf_73 ⟨Nat.zero_le _, Nat.zero_le _⟩ (fun r1789 H locs hI hp hS => ?_)
            have hp0 := hp
            obtain ⟨hkf, ht, hT, k1798, ⟨qq1790, hf1791, hq1792, hA1793⟩, ⟨w1794, hg1795, k1799⟩, ⟨w1796, hg1797, k1800⟩⟩ := hp0
            refine lv_lstore (lv' := [(5, .long r1789), (4, .int 0), (2, .long l1656), (0, .ref h0), (1, .int x1)]) hx hb dX12_sumOf_76 hl (by decide) rfl (fun ls hl => ?_)
            refine lv_aload_n hx hb dX12_sumOf_78 rfl (lv_at hl 3 rfl) ?_
            refine lv_iload hx hb dX12_sumOf_79 (lv_at hl 1 rfl) ?_
            refine lv_if_eq (tgt := 91) hx hb dX12_sumOf_81 (by decide) (fun _ => ?_) (fun c => absurd c (by decide))
            refine lv_lload_n hx hb dX12_sumOf_91 rfl (lv_at hl 2 rfl) ?_
            refine lv_lload hx hb dX12_sumOf_92 (lv_at hl 0 rfl) ?_
            refine lv_lsub hx hb dX12_sumOf_94 ?_
            refine lv_topl (fun l1801 e1802 => ?_)
            refine lv_iload_n hx hb dX12_sumOf_95 rfl (lv_at hl 4 rfl) ?_
            refine mx_l (As := [.long l1801, .int x1]) (rest := []) (n := 2) (d := 0) ⟨hx, hb, hml, hown, hts⟩ (c_X12_bounded l E D G h0 hG0 l1801 x1 ⟨by omega, by omega⟩ ff tt m2) wd_1502 wd_1504 wp_54 wd_13 wd_1505 (by decide +kernel) ⟨by rw [hR]; show 0 + 1 ≤ 4 + 3 * k; omega, by rw [hR]; show 8 + (4 + 11) + 40 * (0) ≤ 40 * (4 + 3 * k); omega⟩ hI hN hK hS hG0 (⟨hkf, ht, hT, by omega, ⟨qq1790, hf1791, hq1792, hA1793⟩, ⟨w1794, hg1795, by omega⟩, ⟨w1796, hg1797, by omega⟩⟩) rfl hl.1 rfl (Nat.le_of_ble_eq_true rfl) dX12_sumOf_96 ⟨Nat.zero_le _, Nat.zero_le _⟩ (fun r1803 H locs hI hp hS => ?_)
            have hp0 := hp
            obtain ⟨hkf, ht, hT, k1812, ⟨qq1804, hf1805, hq1806, hA1807⟩, ⟨w1808, hg1809, k1813⟩, ⟨w1810, hg1811, k1814⟩⟩ := hp0
            refine lv_lstore_n (lv' := [(2, .long r1803), (5, .long r1789), (4, .int 0), (0, .ref h0), (1, .int x1)]) hx hb dX12_sumOf_99 rfl hl (by decide) rfl (fun ls hl => ?_)
            refine lv_goto (tgt := 6) hx hb dX12_sumOf_100 (by decide) ?_
            exact ih_6 _ (by omega) H locs ls r1803 m2 rfl (lv_sub hl [0, 3, 4] rfl) ⟨by omega, by omega⟩ (by omega) (hL2) (⟨hkf, ht, hT, by omega, ⟨qq1804, hf1805, hq1806, hA1807⟩, ⟨w1808, hg1809, by omega⟩, ⟨w1810, hg1811, by omega⟩⟩) hI hS
          · skip
            have k1815 := iv_eq (X := r1775.toInt) (Y := (143)) rfl (by decide) c1780
            refine lv_iconst (v := 1) hx hb dX12_sumOf_54 (by decide) ?_
            refine lv_goto (tgt := 59) hx hb dX12_sumOf_55 (by decide) ?_
            refine lv_istore (lv' := [(4, .int 1), (2, .long l1656), (0, .ref h0), (1, .int x1)]) hx hb dX12_sumOf_59 hl (by decide) rfl (fun ls hl => ?_)
            refine lv_aload_n hx hb dX12_sumOf_61 rfl (lv_at hl 2 rfl) ?_
            refine lv_dup hx hb dX12_sumOf_62 rfl ?_
            refine gmI hx hb hts inT12 hown hK hI List.not_mem_nil hG0 19 (by decide) (hts _ (tb_c wd_1252)) rfl rfl dX12_sumOf_63 (fun w1816 hg1817 k1818 k1819 => ?_)
            obtain rfl := gf.uniq (by decide) hg1663 hg1817
            refine lv_iconst (v := 1) hx hb dX12_sumOf_66 (by decide) ?_
            refine lv_iadd hx hb dX12_sumOf_67 ?_
            refine lv_topi (fun v1820 e1821 => ?_)
            have tv1820 : v1820.toInt = w1662.toInt + (1) := iv_add rfl (by decide) e1821 (by omega) (by omega)
            refine pmI (ty := .int) hx hb hts inT12 hown hK hI List.not_mem_nil hG0 hS ⟨_, hG0⟩ 19 (by decide) (hts _ (tb_c wd_1252)) rfl rfl (by decide +kernel) rfl rfl rfl (by omega) (by omega) dX12_sumOf_68 (fun H locs hI hgP hS => ?_)
            have hg1665 := hgP.2.2.1 20 _ (by decide) (by decide) hg1665
            have hg1822 := hgP.2.1
            have hf1659 := hgP.2.2.2 3 _ (by decide) (by decide) hf1659
            have hA1661 := va_at.kept hA1661 (hgP.1 _ (m_ne hq1660 hG0 (by first | decide | (dsimp only; decide))))
            refine lv_aload_n hx hb dX12_sumOf_71 rfl (lv_at hl 2 rfl) ?_
            refine lv_iload_n hx hb dX12_sumOf_72 rfl (lv_at hl 3 rfl) ?_
            refine mx_l (As := [.int x1]) (rest := []) (n := 1) (d := (3 + 3 * k)) ⟨hx, hb, hml, hown, hts⟩ (c_X12_termOf l E D G k h0 hG0 x1 ⟨by omega, by omega⟩ ff tt dd (mm + 1) m2 h1 (by omega) hpart) wd_1487 wd_1489 wp_51 wd_13 wd_1490 (by decide +kernel) ⟨by rw [hR]; show (3 + 3 * k) + 1 ≤ 4 + 3 * k; omega, by rw [hR]; show 8 + (7 + 11) + 40 * ((3 + 3 * k)) ≤ 40 * (4 + 3 * k); omega⟩ hI hN hK hS hG0 (⟨hkf, ht, hT, by omega, ⟨qq1658, hf1659, hq1660, hA1661⟩, ⟨v1820, hg1822, by omega⟩, ⟨w1664, hg1665, by omega⟩⟩) rfl hl.1 rfl (Nat.le_of_ble_eq_true rfl) dX12_sumOf_73 ⟨Nat.zero_le _, Nat.zero_le _⟩ (fun r1823 H locs hI hp hS => ?_)
            have hp0 := hp
            obtain ⟨hkf, ht, hT, k1832, ⟨qq1824, hf1825, hq1826, hA1827⟩, ⟨w1828, hg1829, k1833⟩, ⟨w1830, hg1831, k1834⟩⟩ := hp0
            refine lv_lstore (lv' := [(5, .long r1823), (4, .int 1), (2, .long l1656), (0, .ref h0), (1, .int x1)]) hx hb dX12_sumOf_76 hl (by decide) rfl (fun ls hl => ?_)
            refine lv_aload_n hx hb dX12_sumOf_78 rfl (lv_at hl 3 rfl) ?_
            refine lv_iload hx hb dX12_sumOf_79 (lv_at hl 1 rfl) ?_
            refine lv_if_eq (tgt := 91) hx hb dX12_sumOf_81 (by decide) (fun c => absurd c (by decide)) (fun _ => ?_)
            refine lv_lload_n hx hb dX12_sumOf_84 rfl (lv_at hl 2 rfl) ?_
            refine lv_lload hx hb dX12_sumOf_85 (lv_at hl 0 rfl) ?_
            refine lv_ladd hx hb dX12_sumOf_87 ?_
            refine lv_topl (fun l1835 e1836 => ?_)
            refine lv_goto (tgt := 95) hx hb dX12_sumOf_88 (by decide) ?_
            refine lv_iload_n hx hb dX12_sumOf_95 rfl (lv_at hl 4 rfl) ?_
            refine mx_l (As := [.long l1835, .int x1]) (rest := []) (n := 2) (d := 0) ⟨hx, hb, hml, hown, hts⟩ (c_X12_bounded l E D G h0 hG0 l1835 x1 ⟨by omega, by omega⟩ ff tt m2) wd_1502 wd_1504 wp_54 wd_13 wd_1505 (by decide +kernel) ⟨by rw [hR]; show 0 + 1 ≤ 4 + 3 * k; omega, by rw [hR]; show 8 + (4 + 11) + 40 * (0) ≤ 40 * (4 + 3 * k); omega⟩ hI hN hK hS hG0 (⟨hkf, ht, hT, by omega, ⟨qq1824, hf1825, hq1826, hA1827⟩, ⟨w1828, hg1829, by omega⟩, ⟨w1830, hg1831, by omega⟩⟩) rfl hl.1 rfl (Nat.le_of_ble_eq_true rfl) dX12_sumOf_96 ⟨Nat.zero_le _, Nat.zero_le _⟩ (fun r1837 H locs hI hp hS => ?_)
            have hp0 := hp
            obtain ⟨hkf, ht, hT, k1846, ⟨qq1838, hf1839, hq1840, hA1841⟩, ⟨w1842, hg1843, k1847⟩, ⟨w1844, hg1845, k1848⟩⟩ := hp0
            refine lv_lstore_n (lv' := [(2, .long r1837), (5, .long r1823), (4, .int 1), (0, .ref h0), (1, .int x1)]) hx hb dX12_sumOf_99 rfl hl (by decide) rfl (fun ls hl => ?_)
            refine lv_goto (tgt := 6) hx hb dX12_sumOf_100 (by decide) ?_
            exact ih_6 _ (by omega) H locs ls r1837 m2 rfl (lv_sub hl [0, 3, 4] rfl) ⟨by omega, by omega⟩ (by omega) (hL2) (⟨hkf, ht, hT, by omega, ⟨qq1838, hf1839, hq1840, hA1841⟩, ⟨w1842, hg1843, by omega⟩, ⟨w1844, hg1845, by omega⟩⟩) hI hS
  refine lv_aload_n hx hb dX12_sumOf_0 rfl (lv_at hl 0 rfl) ?_
  refine lv_iload_n hx hb dX12_sumOf_1 rfl (lv_at hl 1 rfl) ?_
  refine mx_l (As := [.int x1]) (rest := []) (n := 1) (d := (3 + 3 * k)) ⟨hx, hb, hml, hown, hts⟩ (c_X12_termOf l E D G k h0 hG0 x1 ⟨by omega, by omega⟩ ff tt dd pp m0 h00 (by omega) hpart) wd_1487 wd_1489 wp_51 wd_13 wd_1490 (by decide +kernel) ⟨by rw [hR]; show (3 + 3 * k) + 1 ≤ 4 + 3 * k; omega, by rw [hR]; show 8 + (7 + 11) + 40 * ((3 + 3 * k)) ≤ 40 * (4 + 3 * k); omega⟩ hI hN hK hS hG0 (⟨hkf, ht, hT, by omega, ⟨qq1, hf2, hq3, hA4⟩, ⟨w5, hg6, by omega⟩, ⟨w7, hg8, by omega⟩⟩) rfl hl.1 rfl (Nat.le_of_ble_eq_true rfl) dX12_sumOf_2 ⟨Nat.zero_le _, Nat.zero_le _⟩ (fun r1849 H locs hI hp hS => ?_)
  have hp0 := hp
  obtain ⟨hkf, ht, hT, k1858, ⟨qq1850, hf1851, hq1852, hA1853⟩, ⟨w1854, hg1855, k1859⟩, ⟨w1856, hg1857, k1860⟩⟩ := hp0
  refine lv_lstore_n (lv' := [(2, .long r1849), (0, .ref h0), (1, .int x1)]) hx hb dX12_sumOf_5 rfl hl (by decide) rfl (fun ls hl => ?_)
  exact J_6 _ H locs ls r1849 m0 rfl (lv_sub hl [0, 1, 2] rfl) ⟨by omega, by omega⟩ (by omega) (h07) (⟨hkf, ht, hT, by omega, ⟨qq1850, hf1851, hq1852, hA1853⟩, ⟨w1854, hg1855, by omega⟩, ⟨w1856, hg1857, by omega⟩⟩) hI hS
theorem dX12_partOf_0g : (decode cX12_partOf 0 = .ok (.aload_n 0, 1)) ∧ (decode cX12_partOf 1 = .ok (.bipush 91, 2)) ∧ (decode cX12_partOf 3 = .ok (.invokestatic 194, 3)) ∧ (decode cX12_partOf 6 = .ok (.invokevirtual 244, 3)) ∧ (decode cX12_partOf 9 = .ok (.ifCond .eq 21, 3)) ∧ (decode cX12_partOf 12 = .ok (.aload_n 0, 1)) ∧ (decode cX12_partOf 13 = .ok (.iload_n 1, 1)) ∧ (decode cX12_partOf 14 = .ok (.invokevirtual 247, 3)) ∧ (decode cX12_partOf 17 = .ok (.lstore_n 2, 1)) ∧ (decode cX12_partOf 18 = .ok (.aload_n 0, 1)) := by decide +kernel
theorem dX12_partOf_0 : decode cX12_partOf 0 = .ok (.aload_n 0, 1) := dX12_partOf_0g.1
theorem dX12_partOf_1 : decode cX12_partOf 1 = .ok (.bipush 91, 2) := dX12_partOf_0g.2.1
theorem dX12_partOf_3 : decode cX12_partOf 3 = .ok (.invokestatic 194, 3) := dX12_partOf_0g.2.2.1
theorem dX12_partOf_6 : decode cX12_partOf 6 = .ok (.invokevirtual 244, 3) := dX12_partOf_0g.2.2.2.1
theorem dX12_partOf_9 : decode cX12_partOf 9 = .ok (.ifCond .eq 21, 3) := dX12_partOf_0g.2.2.2.2.1
theorem dX12_partOf_12 : decode cX12_partOf 12 = .ok (.aload_n 0, 1) := dX12_partOf_0g.2.2.2.2.2.1
theorem dX12_partOf_13 : decode cX12_partOf 13 = .ok (.iload_n 1, 1) := dX12_partOf_0g.2.2.2.2.2.2.1
theorem dX12_partOf_14 : decode cX12_partOf 14 = .ok (.invokevirtual 247, 3) := dX12_partOf_0g.2.2.2.2.2.2.2.1
theorem dX12_partOf_17 : decode cX12_partOf 17 = .ok (.lstore_n 2, 1) := dX12_partOf_0g.2.2.2.2.2.2.2.2.1
theorem dX12_partOf_18 : decode cX12_partOf 18 = .ok (.aload_n 0, 1) := dX12_partOf_0g.2.2.2.2.2.2.2.2.2
theorem dX12_partOf_19g : (decode cX12_partOf 19 = .ok (.dup, 1)) ∧ (decode cX12_partOf 20 = .ok (.getfield 219, 3)) ∧ (decode cX12_partOf 23 = .ok (.iconst 1, 1)) ∧ (decode cX12_partOf 24 = .ok (.iadd, 1)) ∧ (decode cX12_partOf 25 = .ok (.putfield 219, 3)) ∧ (decode cX12_partOf 28 = .ok (.lload_n 2, 1)) ∧ (decode cX12_partOf 29 = .ok (.lreturn, 1)) ∧ (decode cX12_partOf 30 = .ok (.aload_n 0, 1)) ∧ (decode cX12_partOf 31 = .ok (.aload_n 0, 1)) ∧ (decode cX12_partOf 32 = .ok (.getfield 219, 3)) := by decide +kernel
theorem dX12_partOf_19 : decode cX12_partOf 19 = .ok (.dup, 1) := dX12_partOf_19g.1
theorem dX12_partOf_20 : decode cX12_partOf 20 = .ok (.getfield 219, 3) := dX12_partOf_19g.2.1
theorem dX12_partOf_23 : decode cX12_partOf 23 = .ok (.iconst 1, 1) := dX12_partOf_19g.2.2.1
theorem dX12_partOf_24 : decode cX12_partOf 24 = .ok (.iadd, 1) := dX12_partOf_19g.2.2.2.1
theorem dX12_partOf_25 : decode cX12_partOf 25 = .ok (.putfield 219, 3) := dX12_partOf_19g.2.2.2.2.1
theorem dX12_partOf_28 : decode cX12_partOf 28 = .ok (.lload_n 2, 1) := dX12_partOf_19g.2.2.2.2.2.1
theorem dX12_partOf_29 : decode cX12_partOf 29 = .ok (.lreturn, 1) := dX12_partOf_19g.2.2.2.2.2.2.1
theorem dX12_partOf_30 : decode cX12_partOf 30 = .ok (.aload_n 0, 1) := dX12_partOf_19g.2.2.2.2.2.2.2.1
theorem dX12_partOf_31 : decode cX12_partOf 31 = .ok (.aload_n 0, 1) := dX12_partOf_19g.2.2.2.2.2.2.2.2.1
theorem dX12_partOf_32 : decode cX12_partOf 32 = .ok (.getfield 219, 3) := dX12_partOf_19g.2.2.2.2.2.2.2.2.2
theorem dX12_partOf_35g : (decode cX12_partOf 35 = .ok (.invokevirtual 222, 3)) ∧ (decode cX12_partOf 38 = .ok (.istore_n 2, 1)) ∧ (decode cX12_partOf 39 = .ok (.aload_n 0, 1)) ∧ (decode cX12_partOf 40 = .ok (.dup, 1)) ∧ (decode cX12_partOf 41 = .ok (.getfield 219, 3)) ∧ (decode cX12_partOf 44 = .ok (.iconst 1, 1)) ∧ (decode cX12_partOf 45 = .ok (.iadd, 1)) ∧ (decode cX12_partOf 46 = .ok (.putfield 219, 3)) ∧ (decode cX12_partOf 49 = .ok (.iload_n 1, 1)) ∧ (decode cX12_partOf 50 = .ok (.ifCond .eq 10, 3)) := by decide +kernel
theorem dX12_partOf_35 : decode cX12_partOf 35 = .ok (.invokevirtual 222, 3) := dX12_partOf_35g.1
theorem dX12_partOf_38 : decode cX12_partOf 38 = .ok (.istore_n 2, 1) := dX12_partOf_35g.2.1
theorem dX12_partOf_39 : decode cX12_partOf 39 = .ok (.aload_n 0, 1) := dX12_partOf_35g.2.2.1
theorem dX12_partOf_40 : decode cX12_partOf 40 = .ok (.dup, 1) := dX12_partOf_35g.2.2.2.1
theorem dX12_partOf_41 : decode cX12_partOf 41 = .ok (.getfield 219, 3) := dX12_partOf_35g.2.2.2.2.1
theorem dX12_partOf_44 : decode cX12_partOf 44 = .ok (.iconst 1, 1) := dX12_partOf_35g.2.2.2.2.2.1
theorem dX12_partOf_45 : decode cX12_partOf 45 = .ok (.iadd, 1) := dX12_partOf_35g.2.2.2.2.2.2.1
theorem dX12_partOf_46 : decode cX12_partOf 46 = .ok (.putfield 219, 3) := dX12_partOf_35g.2.2.2.2.2.2.2.1
theorem dX12_partOf_49 : decode cX12_partOf 49 = .ok (.iload_n 1, 1) := dX12_partOf_35g.2.2.2.2.2.2.2.2.1
theorem dX12_partOf_50 : decode cX12_partOf 50 = .ok (.ifCond .eq 10, 3) := dX12_partOf_35g.2.2.2.2.2.2.2.2.2
theorem dX12_partOf_53g : (decode cX12_partOf 53 = .ok (.aload_n 0, 1)) ∧ (decode cX12_partOf 54 = .ok (.getfield 229, 3)) ∧ (decode cX12_partOf 57 = .ok (.ifCond .eq 5, 3)) ∧ (decode cX12_partOf 60 = .ok (.lconst 0, 1)) ∧ (decode cX12_partOf 61 = .ok (.lreturn, 1)) ∧ (decode cX12_partOf 62 = .ok (.iload_n 2, 1)) ∧ (decode cX12_partOf 63 = .ok (.bipush 50, 2)) ∧ (decode cX12_partOf 65 = .ok (.if_icmp .ne 22, 3)) ∧ (decode cX12_partOf 68 = .ok (.aload_n 0, 1)) ∧ (decode cX12_partOf 69 = .ok (.getfield 20, 3)) := by decide +kernel
theorem dX12_partOf_53 : decode cX12_partOf 53 = .ok (.aload_n 0, 1) := dX12_partOf_53g.1
theorem dX12_partOf_54 : decode cX12_partOf 54 = .ok (.getfield 229, 3) := dX12_partOf_53g.2.1
theorem dX12_partOf_57 : decode cX12_partOf 57 = .ok (.ifCond .eq 5, 3) := dX12_partOf_53g.2.2.1
theorem dX12_partOf_60 : decode cX12_partOf 60 = .ok (.lconst 0, 1) := dX12_partOf_53g.2.2.2.1
theorem dX12_partOf_61 : decode cX12_partOf 61 = .ok (.lreturn, 1) := dX12_partOf_53g.2.2.2.2.1
theorem dX12_partOf_62 : decode cX12_partOf 62 = .ok (.iload_n 2, 1) := dX12_partOf_53g.2.2.2.2.2.1
theorem dX12_partOf_63 : decode cX12_partOf 63 = .ok (.bipush 50, 2) := dX12_partOf_53g.2.2.2.2.2.2.1
theorem dX12_partOf_65 : decode cX12_partOf 65 = .ok (.if_icmp .ne 22, 3) := dX12_partOf_53g.2.2.2.2.2.2.2.1
theorem dX12_partOf_68 : decode cX12_partOf 68 = .ok (.aload_n 0, 1) := dX12_partOf_53g.2.2.2.2.2.2.2.2.1
theorem dX12_partOf_69 : decode cX12_partOf 69 = .ok (.getfield 20, 3) := dX12_partOf_53g.2.2.2.2.2.2.2.2.2
theorem dX12_partOf_72g : (decode cX12_partOf 72 = .ok (.sipush 2723, 3)) ∧ (decode cX12_partOf 75 = .ok (.aload_n 0, 1)) ∧ (decode cX12_partOf 76 = .ok (.getfield 219, 3)) ∧ (decode cX12_partOf 79 = .ok (.iadd, 1)) ∧ (decode cX12_partOf 80 = .ok (.iconst 1, 1)) ∧ (decode cX12_partOf 81 = .ok (.isub, 1)) ∧ (decode cX12_partOf 82 = .ok (.iaload, 1)) ∧ (decode cX12_partOf 83 = .ok (.i2l, 1)) ∧ (decode cX12_partOf 84 = .ok (.goto 13, 3)) ∧ (decode cX12_partOf 87 = .ok (.aload_n 0, 1)) := by decide +kernel
theorem dX12_partOf_72 : decode cX12_partOf 72 = .ok (.sipush 2723, 3) := dX12_partOf_72g.1
theorem dX12_partOf_75 : decode cX12_partOf 75 = .ok (.aload_n 0, 1) := dX12_partOf_72g.2.1
theorem dX12_partOf_76 : decode cX12_partOf 76 = .ok (.getfield 219, 3) := dX12_partOf_72g.2.2.1
theorem dX12_partOf_79 : decode cX12_partOf 79 = .ok (.iadd, 1) := dX12_partOf_72g.2.2.2.1
theorem dX12_partOf_80 : decode cX12_partOf 80 = .ok (.iconst 1, 1) := dX12_partOf_72g.2.2.2.2.1
theorem dX12_partOf_81 : decode cX12_partOf 81 = .ok (.isub, 1) := dX12_partOf_72g.2.2.2.2.2.1
theorem dX12_partOf_82 : decode cX12_partOf 82 = .ok (.iaload, 1) := dX12_partOf_72g.2.2.2.2.2.2.1
theorem dX12_partOf_83 : decode cX12_partOf 83 = .ok (.i2l, 1) := dX12_partOf_72g.2.2.2.2.2.2.2.1
theorem dX12_partOf_84 : decode cX12_partOf 84 = .ok (.goto 13, 3) := dX12_partOf_72g.2.2.2.2.2.2.2.2.1
theorem dX12_partOf_87 : decode cX12_partOf 87 = .ok (.aload_n 0, 1) := dX12_partOf_72g.2.2.2.2.2.2.2.2.2
theorem dX12_partOf_88g : (decode cX12_partOf 88 = .ok (.getfield 52, 3)) ∧ (decode cX12_partOf 91 = .ok (.iload_n 2, 1)) ∧ (decode cX12_partOf 92 = .ok (.bipush 9, 2)) ∧ (decode cX12_partOf 94 = .ok (.isub, 1)) ∧ (decode cX12_partOf 95 = .ok (.iaload, 1)) ∧ (decode cX12_partOf 96 = .ok (.i2l, 1)) ∧ (decode cX12_partOf 97 = .ok (.lreturn, 1)) := by decide +kernel
theorem dX12_partOf_88 : decode cX12_partOf 88 = .ok (.getfield 52, 3) := dX12_partOf_88g.1
theorem dX12_partOf_91 : decode cX12_partOf 91 = .ok (.iload_n 2, 1) := dX12_partOf_88g.2.1
theorem dX12_partOf_92 : decode cX12_partOf 92 = .ok (.bipush 9, 2) := dX12_partOf_88g.2.2.1
theorem dX12_partOf_94 : decode cX12_partOf 94 = .ok (.isub, 1) := dX12_partOf_88g.2.2.2.1
theorem dX12_partOf_95 : decode cX12_partOf 95 = .ok (.iaload, 1) := dX12_partOf_88g.2.2.2.2.1
theorem dX12_partOf_96 : decode cX12_partOf 96 = .ok (.i2l, 1) := dX12_partOf_88g.2.2.2.2.2.1
theorem dX12_partOf_97 : decode cX12_partOf 97 = .ok (.lreturn, 1) := dX12_partOf_88g.2.2.2.2.2.2
set_option maxHeartbeats 4000000 in
set_option maxRecDepth 100000 in
theorem c_X12_partOf (l : Launch) (E : Nat → Nat) (D : va_G) (G : th_G) (k : Nat) : ∀ (h0 : Nat) (hG0 : G h0 = some (10, 0)) (x1 : Int32) (hx1 : (0 : Int) ≤ x1.toInt ∧ x1.toInt ≤ 1) (ff : Nat → Int32) (tt dd pp qq : Nat) (hgr : Gr (kC ff tt) 0 dd pp qq) (hk : 8 ≤ dd + k), Met l yX12_partOf (tb (.code yX12_partOf cX12_partOf 4 (some .long))) (rm (2 + 3 * k)) (va_Pc [.ref h0, .int x1] (PX E D G (fun H => EV E D G h0 ff tt pp H))) (QXl E D G (fun r H => EV E D G h0 ff tt qq H)) 0 0 (th_A G) := by
  induction k using Nat.strongRecOn with
  | ind k ih =>
  intro h0 hG0 x1 hx1 ff tt dd pp qq hgr hk
  refine Met.ofW (cc := cX12_partOf) (maxL := 4) (ret := (some .long)) (by decide) rfl ?_
  intro p e s m args below meth c s₁ B hml hv
  obtain ⟨hav, ⟨hI, hN, hK⟩, hX⟩ := hv
  have hx := B.exec
  have hb := B.bytes
  have hr := B.returns
  have hts := atoms_spec (ws := tb (.code yX12_partOf cX12_partOf 4 (some .long))) B.pre
  have hown : s.vm.findClass RX12 = some m.cls := findClass_of_methodNamed B.named
  have hlocks := B.notSynchronized
  have hS : va_S (th_A G) s.heap s.heap [] := va_S.rf
  have hl := lv_entry ([.ref h0, .int x1]) (n := 4) (Nat.le_of_ble_eq_true rfl)
  rw [show entryFrame m args 4 = entryFrame m ([.ref h0, .int x1] : List Value).toArray 4 from by rw [hav], lg_entry_eq]
  generalize (lg_sl ([.ref h0, .int x1]) ++ List.replicate (4 - (lg_sl ([.ref h0, .int x1])).length) Slot.unset).toArray = ls at hl ⊢
  have hl : lv_has ls 4 [(0, .ref h0), (1, .int x1)] := hl
  generalize hR : (headSpec (tb (.code yX12_partOf cX12_partOf 4 (some .long))) (rm (2 + 3 * k))).room = R
  have hR := hR.symm
  generalize hQ : MQ below (QXl E D G (fun r H => EV E D G h0 ff tt qq H)) args s 0 0 (th_A G) = QF
  have hQ := hQ.symm
  obtain ⟨hkf, ht, hT, k9, ⟨qq1, hf2, hq3, hA4⟩, ⟨w5, hg6, k10⟩, ⟨w7, hg8, k11⟩⟩ := hX
  have hlt := Gr.lt kC_end (by decide) hgr
  refine lv_aload_n hx hb dX12_partOf_0 rfl (lv_at hl 0 rfl) ?_
  refine lv_bipush (v := 91) hx hb dX12_partOf_1 (by decide) ?_
  refine th_cSs (As := [.int 91]) (rest := [.ref h0]) (n := 1) (d := 0) ⟨hx, hb, hml, hown, hts⟩ (c_X12_sign l s.heap 91) wd_1495 wd_1496 wd_13 wd_1497 (by decide +kernel) ⟨by rw [hR]; show 0 + 1 ≤ 2 + 3 * k; omega, by rw [hR]; show 8 + (1 + 11) + 40 * (0) ≤ 40 * (2 + 3 * k); omega⟩ hN hS rfl hl.1 rfl (Nat.le_of_ble_eq_true rfl) dX12_partOf_3 ⟨Nat.zero_le _, Nat.zero_le _⟩ (fun r12 locs hp hS => ?_)
  obtain rfl : r12 = 191 := hp.trans (by decide)
  refine mx_i (As := [.int 191]) (rest := []) (n := 1) (d := 1) ⟨hx, hb, hml, hown, hts⟩ (c_X12_passes0 l E D G h0 hG0 191 ff tt pp (by omega)) wd_1498 wd_1500 wp_53 wd_13 wd_1501 (by decide +kernel) ⟨by rw [hR]; show 1 + 1 ≤ 2 + 3 * k; omega, by rw [hR]; show 8 + (3 + 11) + 40 * (1) ≤ 40 * (2 + 3 * k); omega⟩ hI hN hK hS hG0 (⟨hkf, ht, hT, by omega, ⟨qq1, hf2, hq3, hA4⟩, ⟨w5, hg6, by omega⟩, ⟨w7, hg8, by omega⟩⟩) rfl hl.1 rfl (Nat.le_of_ble_eq_true rfl) dX12_partOf_6 ⟨Nat.zero_le _, Nat.zero_le _⟩ (fun r13 H locs hI hp hS => ?_)
  rcases hp with ⟨rfl, hp⟩ | ⟨rfl, hp⟩
  · skip
    try simp only [rg, not_and, Int.not_le] at hp
    have hp14 := hp
    obtain ⟨hc15, hE⟩ := hp14
    have hp14 : True := trivial
    rw [show (191 : Int32).toInt = 191 from by decide] at hc15
    obtain ⟨hkf, ht, hT, k24, ⟨qq16, hf17, hq18, hA19⟩, ⟨w20, hg21, k25⟩, ⟨w22, hg23, k26⟩⟩ := hE
    obtain ⟨hd8, mm, h2, hm, hqm⟩ := g0_br hgr hc15
    have hl2 := Gr.lt kC_end (by decide) h2
    try rw [show (191 : Int32).toInt = 191 from by decide] at hp14
    refine lv_if_eq (tgt := 30) hx hb dX12_partOf_9 (by decide) (fun c => absurd c (by decide)) (fun _ => ?_)
    refine lv_aload_n hx hb dX12_partOf_12 rfl (lv_at hl 0 rfl) ?_
    refine lv_iload_n hx hb dX12_partOf_13 rfl (lv_at hl 1 rfl) ?_
    refine mx_l (As := [.int x1]) (rest := []) (n := 1) (d := (4 + 3 * (k - 1))) ⟨hx, hb, hml, hown, hts⟩ (c_X12_sumOf l E D G (k - 1) h0 hG0 x1 ⟨by omega, by omega⟩ ff tt (dd + 1) (pp + 1) mm h2 (by omega) (ih (k - 1) (by omega))) wd_1483 wd_1485 wp_50 wd_13 wd_1486 (by decide +kernel) ⟨by rw [hR]; show (4 + 3 * (k - 1)) + 1 ≤ 2 + 3 * k; omega, by rw [hR]; show 8 + (7 + 11) + 40 * ((4 + 3 * (k - 1))) ≤ 40 * (2 + 3 * k); omega⟩ hI hN hK hS hG0 (⟨hkf, ht, hT, by omega, ⟨qq16, hf17, hq18, hA19⟩, ⟨w20, hg21, by omega⟩, ⟨w22, hg23, by omega⟩⟩) rfl hl.1 rfl (Nat.le_of_ble_eq_true rfl) dX12_partOf_14 ⟨Nat.zero_le _, Nat.zero_le _⟩ (fun r27 H locs hI hp hS => ?_)
    have hp0 := hp
    obtain ⟨hkf, ht, hT, k36, ⟨qq28, hf29, hq30, hA31⟩, ⟨w32, hg33, k37⟩, ⟨w34, hg35, k38⟩⟩ := hp0
    refine lv_lstore_n (lv' := [(2, .long r27), (0, .ref h0), (1, .int x1)]) hx hb dX12_partOf_17 rfl hl (by decide) rfl (fun ls hl => ?_)
    refine lv_aload_n hx hb dX12_partOf_18 rfl (lv_at hl 1 rfl) ?_
    refine lv_dup hx hb dX12_partOf_19 rfl ?_
    refine gmI hx hb hts inT12 hown hK hI List.not_mem_nil hG0 19 (by decide) (hts _ (tb_c wd_1252)) rfl rfl dX12_partOf_20 (fun w39 hg40 k41 k42 => ?_)
    obtain rfl := gf.uniq (by decide) hg33 hg40
    refine lv_iconst (v := 1) hx hb dX12_partOf_23 (by decide) ?_
    refine lv_iadd hx hb dX12_partOf_24 ?_
    refine lv_topi (fun v43 e44 => ?_)
    have tv43 : v43.toInt = w32.toInt + (1) := iv_add rfl (by decide) e44 (by omega) (by omega)
    refine pmI (ty := .int) hx hb hts inT12 hown hK hI List.not_mem_nil hG0 hS ⟨_, hG0⟩ 19 (by decide) (hts _ (tb_c wd_1252)) rfl rfl (by decide +kernel) rfl rfl rfl (by omega) (by omega) dX12_partOf_25 (fun H locs hI hgP hS => ?_)
    have hg35 := hgP.2.2.1 20 _ (by decide) (by decide) hg35
    have hg45 := hgP.2.1
    have hf29 := hgP.2.2.2 3 _ (by decide) (by decide) hf29
    have hA31 := va_at.kept hA31 (hgP.1 _ (m_ne hq30 hG0 (by first | decide | (dsimp only; decide))))
    refine lv_lload_n hx hb dX12_partOf_28 rfl (lv_at hl 0 rfl) ?_
    have hpost : EV E D G h0 ff tt qq H := ⟨hkf, ht, hT, by omega, ⟨qq28, hf29, hq30, hA31⟩, ⟨v43, hg45, by omega⟩, ⟨w34, hg35, by omega⟩⟩
    rw [hQ]
    exact W.lret (v := r27) hx hb hr (fun t ht hW => ⟨⟨r27, r27, rfl, rfl, ⟨by rw [ht]; exact hI, hN.warm hW, va_K.moved hW.alike hK⟩, by first | (rw [ht]; exact hpost) | exact hpost⟩, hS.F ht⟩) hS.2.2 dX12_partOf_29
  · skip
    try simp only [rg, not_and, Int.not_le] at hp
    have hp46 := hp
    obtain ⟨hc47, hE⟩ := hp46
    have hp46 : True := trivial
    rw [show (191 : Int32).toInt = 191 from by decide] at hc47
    obtain ⟨hkf, ht, hT, k56, ⟨qq48, hf49, hq50, hA51⟩, ⟨w52, hg53, k57⟩, ⟨w54, hg55, k58⟩⟩ := hE
    obtain ⟨hlf, hqm⟩ := g0_lf hgr hc47
    try rw [show (191 : Int32).toInt = 191 from by decide] at hp46
    refine lv_if_eq (tgt := 30) hx hb dX12_partOf_9 (by decide) (fun _ => ?_) (fun c => absurd c (by decide))
    refine lv_aload_n hx hb dX12_partOf_30 rfl (lv_at hl 0 rfl) ?_
    refine lv_aload_n hx hb dX12_partOf_31 rfl (lv_at hl 0 rfl) ?_
    refine gmI hx hb hts inT12 hown hK hI List.not_mem_nil hG0 19 (by decide) (hts _ (tb_c wd_1252)) rfl rfl dX12_partOf_32 (fun w59 hg60 k61 k62 => ?_)
    obtain rfl := gf.uniq (by decide) hg53 hg60
    refine mr_i (As := [.int w52]) (rest := []) (n := 1) (d := 0) ⟨hx, hb, hml, hown, hts⟩ (c_X12_codeAt l E D G H h0 hG0 w52 ⟨by omega, by omega⟩ ff tt pp pp ⟨hkf, ht, hT, by omega, ⟨qq48, hf49, hq50, hA51⟩, ⟨w52, hg53, by omega⟩, ⟨w54, hg55, by omega⟩⟩ (by omega)) wd_1479 wd_1481 wp_49 wd_13 wd_1482 (by decide +kernel) ⟨by rw [hR]; show 0 + 1 ≤ 2 + 3 * k; omega, by rw [hR]; show 8 + (2 + 11) + 40 * (0) ≤ 40 * (2 + 3 * k); omega⟩ hI hN hK hS hG0 rfl hl.1 rfl (Nat.le_of_ble_eq_true rfl) dX12_partOf_35 ⟨Nat.zero_le _, Nat.zero_le _⟩ (fun r63 locs hp hS => ?_)
    have hc64 := hp
    refine lv_istore_n (lv' := [(2, .int r63), (0, .ref h0), (1, .int x1)]) hx hb dX12_partOf_38 rfl hl (by decide) rfl (fun ls hl => ?_)
    refine lv_aload_n hx hb dX12_partOf_39 rfl (lv_at hl 1 rfl) ?_
    refine lv_dup hx hb dX12_partOf_40 rfl ?_
    refine gmI hx hb hts inT12 hown hK hI List.not_mem_nil hG0 19 (by decide) (hts _ (tb_c wd_1252)) rfl rfl dX12_partOf_41 (fun w65 hg66 k67 k68 => ?_)
    obtain rfl := gf.uniq (by decide) hg53 hg66
    refine lv_iconst (v := 1) hx hb dX12_partOf_44 (by decide) ?_
    refine lv_iadd hx hb dX12_partOf_45 ?_
    refine lv_topi (fun v69 e70 => ?_)
    have tv69 : v69.toInt = w52.toInt + (1) := iv_add rfl (by decide) e70 (by omega) (by omega)
    refine pmI (ty := .int) hx hb hts inT12 hown hK hI List.not_mem_nil hG0 hS ⟨_, hG0⟩ 19 (by decide) (hts _ (tb_c wd_1252)) rfl rfl (by decide +kernel) rfl rfl rfl (by omega) (by omega) dX12_partOf_46 (fun H locs hI hgP hS => ?_)
    have hg55 := hgP.2.2.1 20 _ (by decide) (by decide) hg55
    have hg71 := hgP.2.1
    have hf49 := hgP.2.2.2 3 _ (by decide) (by decide) hf49
    have hA51 := va_at.kept hA51 (hgP.1 _ (m_ne hq50 hG0 (by first | decide | (dsimp only; decide))))
    refine lv_iload_n hx hb dX12_partOf_49 rfl (lv_at hl 2 rfl) ?_
    refine lv_if_eq (tgt := 60) hx hb dX12_partOf_50 (by decide) (fun c72 => ?_) (fun c72 => ?_)
    · skip
      have k73 := iv_eq (X := x1.toInt) (Y := (0)) rfl (by decide) c72
      refine lv_lconst hx hb dX12_partOf_60 rfl ?_
      refine lv_topl (fun l74 e75 => ?_)
      have hpost : EV E D G h0 ff tt qq H := ⟨hkf, ht, hT, by omega, ⟨qq48, hf49, hq50, hA51⟩, ⟨v69, hg71, by omega⟩, ⟨w54, hg55, by omega⟩⟩
      rw [hQ]
      exact W.lret (v := l74) hx hb hr (fun t ht hW => ⟨⟨l74, l74, rfl, rfl, ⟨by rw [ht]; exact hI, hN.warm hW, va_K.moved hW.alike hK⟩, by first | (rw [ht]; exact hpost) | exact hpost⟩, hS.F ht⟩) hS.2.2 dX12_partOf_61
    · skip
      have k76 := iv_ne (X := x1.toInt) (Y := (0)) rfl (by decide) c72
      refine lv_aload_n hx hb dX12_partOf_53 rfl (lv_at hl 1 rfl) ?_
      refine gmI hx hb hts inT12 hown hK hI List.not_mem_nil hG0 21 (by decide) (hts _ (tb_c wd_1254)) rfl rfl dX12_partOf_54 (fun w77 hg78 k79 k80 => ?_)
      refine lv_if_eq (tgt := 62) hx hb dX12_partOf_57 (by decide) (fun c81 => ?_) (fun c81 => ?_)
      · skip
        have k82 := iv_eq (X := w77.toInt) (Y := (0)) rfl (by decide) c81
        refine lv_iload_n hx hb dX12_partOf_62 rfl (lv_at hl 0 rfl) ?_
        refine lv_bipush (v := 50) hx hb dX12_partOf_63 (by decide) ?_
        have k83 := iv_lo r63
        have k84 := iv_hi r63
        refine lv_icmp_ne (tgt := 87) hx hb dX12_partOf_65 (by decide) (fun c85 => ?_) (fun c85 => ?_)
        · skip
          have k86 := iv_ne (X := r63.toInt) (Y := (50)) rfl (by decide) c85
          refine lv_aload_n hx hb dX12_partOf_87 rfl (lv_at hl 1 rfl) ?_
          refine gmA hx hb hts inT12 hown hK hI List.not_mem_nil hG0 22 (by decide) (hts _ (tb_c wd_1255)) rfl rfl dX12_partOf_88 (fun a87 hq88 hf89 => ?_)
          refine lv_iload_n hx hb dX12_partOf_91 rfl (lv_at hl 0 rfl) ?_
          refine lv_bipush (v := 9) hx hb dX12_partOf_92 (by decide) ?_
          refine lv_isub hx hb dX12_partOf_94 ?_
          refine lv_topi (fun v90 e91 => ?_)
          try have tv90 : v90.toInt = r63.toInt - (9) := iv_sub rfl (by decide) e91 (by omega) (by omega)
          obtain ⟨F92, hA93⟩ := om_0 hI hq88 List.not_mem_nil
          refine th_iald hx hb hK hA93 0 rfl (iv_in (X := v90.toInt) rfl (by omega) (by omega)) dX12_partOf_95 (fun v94 e95 => ?_)
          refine lv_i2l hx hb dX12_partOf_96 rfl ?_
          refine lv_topl (fun l96 e97 => ?_)
          have hpost : EV E D G h0 ff tt qq H := ⟨hkf, ht, hT, by omega, ⟨qq48, hf49, hq50, hA51⟩, ⟨v69, hg71, by omega⟩, ⟨w54, hg55, by omega⟩⟩
          rw [hQ]
          exact W.lret (v := l96) hx hb hr (fun t ht hW => ⟨⟨l96, l96, rfl, rfl, ⟨by rw [ht]; exact hI, hN.warm hW, va_K.moved hW.alike hK⟩, by first | (rw [ht]; exact hpost) | exact hpost⟩, hS.F ht⟩) hS.2.2 dX12_partOf_97
        · skip
          have k98 := iv_eq (X := r63.toInt) (Y := (50)) rfl (by decide) c85
          refine lv_aload_n hx hb dX12_partOf_68 rfl (lv_at hl 1 rfl) ?_
          refine gmA hx hb hts inT12 hown hK hI List.not_mem_nil hG0 3 (by decide) (hts _ (tb_c wd_1236)) rfl rfl dX12_partOf_69 (fun a99 hq100 hf101 => ?_)
          obtain rfl := fr.uniq (by decide) hf49 hf101
          refine lv_sipush (v := 2723) hx hb dX12_partOf_72 (by decide) ?_
          refine lv_aload_n hx hb dX12_partOf_75 rfl (lv_at hl 1 rfl) ?_
          refine gmI hx hb hts inT12 hown hK hI List.not_mem_nil hG0 19 (by decide) (hts _ (tb_c wd_1252)) rfl rfl dX12_partOf_76 (fun w102 hg103 k104 k105 => ?_)
          obtain rfl := gf.uniq (by decide) hg71 hg103
          refine lv_iadd hx hb dX12_partOf_79 ?_
          refine lv_topi (fun v106 e107 => ?_)
          have tv106 : v106.toInt = (2723) + v69.toInt := iv_add (by decide) rfl e107 (by omega) (by omega)
          refine lv_iconst (v := 1) hx hb dX12_partOf_80 (by decide) ?_
          refine lv_isub hx hb dX12_partOf_81 ?_
          refine lv_topi (fun v108 e109 => ?_)
          have tv108 : v108.toInt = v106.toInt - (1) := iv_sub rfl (by decide) e109 (by omega) (by omega)
          refine th_iald hx hb hK hA51 0 rfl (iv_in (X := v108.toInt) rfl (by omega) (by omega)) dX12_partOf_82 (fun v110 e111 => ?_)
          refine lv_i2l hx hb dX12_partOf_83 rfl ?_
          refine lv_topl (fun l112 e113 => ?_)
          refine lv_goto (tgt := 97) hx hb dX12_partOf_84 (by decide) ?_
          have hpost : EV E D G h0 ff tt qq H := ⟨hkf, ht, hT, by omega, ⟨qq48, hf49, hq50, hA51⟩, ⟨v69, hg71, by omega⟩, ⟨w54, hg55, by omega⟩⟩
          rw [hQ]
          exact W.lret (v := l112) hx hb hr (fun t ht hW => ⟨⟨l112, l112, rfl, rfl, ⟨by rw [ht]; exact hI, hN.warm hW, va_K.moved hW.alike hK⟩, by first | (rw [ht]; exact hpost) | exact hpost⟩, hS.F ht⟩) hS.2.2 dX12_partOf_97
      · skip
        have k114 := iv_ne (X := w77.toInt) (Y := (0)) rfl (by decide) c81
        refine lv_lconst hx hb dX12_partOf_60 rfl ?_
        refine lv_topl (fun l115 e116 => ?_)
        have hpost : EV E D G h0 ff tt qq H := ⟨hkf, ht, hT, by omega, ⟨qq48, hf49, hq50, hA51⟩, ⟨v69, hg71, by omega⟩, ⟨w54, hg55, by omega⟩⟩
        rw [hQ]
        exact W.lret (v := l115) hx hb hr (fun t ht hW => ⟨⟨l115, l115, rfl, rfl, ⟨by rw [ht]; exact hI, hN.warm hW, va_K.moved hW.alike hK⟩, by first | (rw [ht]; exact hpost) | exact hpost⟩, hS.F ht⟩) hS.2.2 dX12_partOf_61
theorem dX12_plainOf_0g : (decode cX12_plainOf 0 = .ok (.iconst 0, 1)) ∧ (decode cX12_plainOf 1 = .ok (.istore_n 2, 1)) ∧ (decode cX12_plainOf 2 = .ok (.aload_n 0, 1)) ∧ (decode cX12_plainOf 3 = .ok (.bipush 8, 2)) ∧ (decode cX12_plainOf 5 = .ok (.invokevirtual 244, 3)) ∧ (decode cX12_plainOf 8 = .ok (.ifCond .eq 16, 3)) ∧ (decode cX12_plainOf 11 = .ok (.iload_n 2, 1)) ∧ (decode cX12_plainOf 12 = .ok (.ifCond .ne 7, 3)) ∧ (decode cX12_plainOf 15 = .ok (.iconst 1, 1)) ∧ (decode cX12_plainOf 16 = .ok (.goto 4, 3)) := by decide +kernel
theorem dX12_plainOf_0 : decode cX12_plainOf 0 = .ok (.iconst 0, 1) := dX12_plainOf_0g.1
theorem dX12_plainOf_1 : decode cX12_plainOf 1 = .ok (.istore_n 2, 1) := dX12_plainOf_0g.2.1
theorem dX12_plainOf_2 : decode cX12_plainOf 2 = .ok (.aload_n 0, 1) := dX12_plainOf_0g.2.2.1
theorem dX12_plainOf_3 : decode cX12_plainOf 3 = .ok (.bipush 8, 2) := dX12_plainOf_0g.2.2.2.1
theorem dX12_plainOf_5 : decode cX12_plainOf 5 = .ok (.invokevirtual 244, 3) := dX12_plainOf_0g.2.2.2.2.1
theorem dX12_plainOf_8 : decode cX12_plainOf 8 = .ok (.ifCond .eq 16, 3) := dX12_plainOf_0g.2.2.2.2.2.1
theorem dX12_plainOf_11 : decode cX12_plainOf 11 = .ok (.iload_n 2, 1) := dX12_plainOf_0g.2.2.2.2.2.2.1
theorem dX12_plainOf_12 : decode cX12_plainOf 12 = .ok (.ifCond .ne 7, 3) := dX12_plainOf_0g.2.2.2.2.2.2.2.1
theorem dX12_plainOf_15 : decode cX12_plainOf 15 = .ok (.iconst 1, 1) := dX12_plainOf_0g.2.2.2.2.2.2.2.2.1
theorem dX12_plainOf_16 : decode cX12_plainOf 16 = .ok (.goto 4, 3) := dX12_plainOf_0g.2.2.2.2.2.2.2.2.2
theorem dX12_plainOf_19g : (decode cX12_plainOf 19 = .ok (.iconst 0, 1)) ∧ (decode cX12_plainOf 20 = .ok (.istore_n 2, 1)) ∧ (decode cX12_plainOf 21 = .ok (.goto (-19), 3)) ∧ (decode cX12_plainOf 24 = .ok (.aload_n 0, 1)) ∧ (decode cX12_plainOf 25 = .ok (.iload_n 1, 1)) ∧ (decode cX12_plainOf 26 = .ok (.invokevirtual 257, 3)) ∧ (decode cX12_plainOf 29 = .ok (.iload_n 2, 1)) ∧ (decode cX12_plainOf 30 = .ok (.if_icmp .eq 7, 3)) ∧ (decode cX12_plainOf 33 = .ok (.iconst 1, 1)) ∧ (decode cX12_plainOf 34 = .ok (.goto 4, 3)) := by decide +kernel
theorem dX12_plainOf_19 : decode cX12_plainOf 19 = .ok (.iconst 0, 1) := dX12_plainOf_19g.1
theorem dX12_plainOf_20 : decode cX12_plainOf 20 = .ok (.istore_n 2, 1) := dX12_plainOf_19g.2.1
theorem dX12_plainOf_21 : decode cX12_plainOf 21 = .ok (.goto (-19), 3) := dX12_plainOf_19g.2.2.1
theorem dX12_plainOf_24 : decode cX12_plainOf 24 = .ok (.aload_n 0, 1) := dX12_plainOf_19g.2.2.2.1
theorem dX12_plainOf_25 : decode cX12_plainOf 25 = .ok (.iload_n 1, 1) := dX12_plainOf_19g.2.2.2.2.1
theorem dX12_plainOf_26 : decode cX12_plainOf 26 = .ok (.invokevirtual 257, 3) := dX12_plainOf_19g.2.2.2.2.2.1
theorem dX12_plainOf_29 : decode cX12_plainOf 29 = .ok (.iload_n 2, 1) := dX12_plainOf_19g.2.2.2.2.2.2.1
theorem dX12_plainOf_30 : decode cX12_plainOf 30 = .ok (.if_icmp .eq 7, 3) := dX12_plainOf_19g.2.2.2.2.2.2.2.1
theorem dX12_plainOf_33 : decode cX12_plainOf 33 = .ok (.iconst 1, 1) := dX12_plainOf_19g.2.2.2.2.2.2.2.2.1
theorem dX12_plainOf_34 : decode cX12_plainOf 34 = .ok (.goto 4, 3) := dX12_plainOf_19g.2.2.2.2.2.2.2.2.2
theorem dX12_plainOf_37g : (decode cX12_plainOf 37 = .ok (.iconst 0, 1)) ∧ (decode cX12_plainOf 38 = .ok (.ireturn, 1)) := by decide +kernel
theorem dX12_plainOf_37 : decode cX12_plainOf 37 = .ok (.iconst 0, 1) := dX12_plainOf_37g.1
theorem dX12_plainOf_38 : decode cX12_plainOf 38 = .ok (.ireturn, 1) := dX12_plainOf_37g.2
set_option maxHeartbeats 4000000 in
set_option maxRecDepth 100000 in
theorem c_X12_plainOf (l : Launch) (E : Nat → Nat) (D : va_G) (G : th_G) (k : Nat) (h0 : Nat) (hG0 : G h0 = some (10, 0)) (x1 : Int32) (hx1 : (0 : Int) ≤ x1.toInt ∧ x1.toInt ≤ 1) (ff : Nat → Int32) (tt dd pp qq : Nat) (hgr : Gr (kC ff tt) 3 dd pp qq) (hk : 8 ≤ dd + k) (hpos : ∀ (h0 : Nat) (hG0 : G h0 = some (10, 0)) (x1 : Int32) (hx1 : (0 : Int) ≤ x1.toInt ∧ x1.toInt ≤ 1) (ff : Nat → Int32) (tt dd pp qq : Nat) (hgr : Gr (kC ff tt) 6 dd pp qq) (hk : 8 ≤ dd + k), Met l yX12_positiveOf (tb (.code yX12_positiveOf cX12_positiveOf 7 (some .boolean))) (rm (29 + 4 * k)) (va_Pc [.ref h0, .int x1] (PX E D G (fun H => EV E D G h0 ff tt pp H))) (QXi E D G (fun r H => (0 ≤ (r : Int32).toInt ∧ (r : Int32).toInt ≤ 1) ∧ EV E D G h0 ff tt qq H)) 0 0 (th_A G)) : Met l yX12_plainOf (tb (.code yX12_plainOf cX12_plainOf 3 (some .boolean))) (rm (30 + 4 * k)) (va_Pc [.ref h0, .int x1] (PX E D G (fun H => EV E D G h0 ff tt pp H))) (QXi E D G (fun r H => (0 ≤ (r : Int32).toInt ∧ (r : Int32).toInt ≤ 1) ∧ EV E D G h0 ff tt qq H)) 0 0 (th_A G) := by
  refine Met.ofW (cc := cX12_plainOf) (maxL := 3) (ret := (some .boolean)) (by decide) rfl ?_
  intro p e s m args below meth c s₁ B hml hv
  obtain ⟨hav, ⟨hI, hN, hK⟩, hX⟩ := hv
  have hx := B.exec
  have hb := B.bytes
  have hr := B.returns
  have hts := atoms_spec (ws := tb (.code yX12_plainOf cX12_plainOf 3 (some .boolean))) B.pre
  have hown : s.vm.findClass RX12 = some m.cls := findClass_of_methodNamed B.named
  have hlocks := B.notSynchronized
  have hS : va_S (th_A G) s.heap s.heap [] := va_S.rf
  have hl := lv_entry ([.ref h0, .int x1]) (n := 3) (Nat.le_of_ble_eq_true rfl)
  rw [show entryFrame m args 3 = entryFrame m ([.ref h0, .int x1] : List Value).toArray 3 from by rw [hav], lg_entry_eq]
  generalize (lg_sl ([.ref h0, .int x1]) ++ List.replicate (3 - (lg_sl ([.ref h0, .int x1])).length) Slot.unset).toArray = ls at hl ⊢
  have hl : lv_has ls 3 [(0, .ref h0), (1, .int x1)] := hl
  generalize hR : (headSpec (tb (.code yX12_plainOf cX12_plainOf 3 (some .boolean))) (rm (30 + 4 * k))).room = R
  have hR := hR.symm
  generalize hQ : MQ below (QXi E D G (fun r H => (0 ≤ (r : Int32).toInt ∧ (r : Int32).toInt ≤ 1) ∧ EV E D G h0 ff tt qq H)) args s 0 0 (th_A G) = QF
  have hQ := hQ.symm
  obtain ⟨hkf, ht, hT, k9, ⟨qq1, hf2, hq3, hA4⟩, ⟨w5, hg6, k10⟩, ⟨w7, hg8, k11⟩⟩ := hX
  have hlt := Gr.lt kC_end (by decide) hgr
  have J_2 : ∀ (nn : Nat) (H : Heap) (locs : List Loc) (ls : Array Slot) (v488 : Int32) (mm : Nat), (Int.toNat (((qq : Nat) : Int) - ((mm : Nat) : Int)) = nn) → lv_has ls 3 [(2, .int v488), (0, .ref h0), (1, .int x1)] → ((0 : Int) ≤ v488.toInt ∧ v488.toInt ≤ 1) → ((0 : Int) ≤ x1.toInt ∧ x1.toInt ≤ 1) → (Gr (kC ff tt) 3 dd mm qq) → (EV E D G h0 ff tt mm H) → th_I (okM E) D G [] H → va_S (th_A G) s.heap H locs → W p l e R s m args below meth c H locs 0 0 QF (F0 m 2 ls []) := by
    intro nn
    induction nn using Nat.strongRecOn with
    | ind nn ih_2 =>
      intro H locs ls v488 mm hm hl k489 k490 hL hE hI hS
      obtain ⟨hkf, ht, hT, k499, ⟨qq491, hf492, hq493, hA494⟩, ⟨w495, hg496, k500⟩, ⟨w497, hg498, k501⟩⟩ := hE
      have hlt := Gr.lt kC_end (by decide) hL
      refine lv_aload_n hx hb dX12_plainOf_2 rfl (lv_at hl 1 rfl) ?_
      refine lv_bipush (v := 8) hx hb dX12_plainOf_3 (by decide) ?_
      refine mx_i (As := [.int 8]) (rest := []) (n := 1) (d := 1) ⟨hx, hb, hml, hown, hts⟩ (c_X12_passes0 l E D G h0 hG0 8 ff tt mm (by omega)) wd_1498 wd_1500 wp_53 wd_13 wd_1501 (by decide +kernel) ⟨by rw [hR]; show 1 + 1 ≤ 30 + 4 * k; omega, by rw [hR]; show 8 + (3 + 11) + 40 * (1) ≤ 40 * (30 + 4 * k); omega⟩ hI hN hK hS hG0 (⟨hkf, ht, hT, by omega, ⟨qq491, hf492, hq493, hA494⟩, ⟨w495, hg496, by omega⟩, ⟨w497, hg498, by omega⟩⟩) rfl hl.1 rfl (Nat.le_of_ble_eq_true rfl) dX12_plainOf_5 ⟨Nat.zero_le _, Nat.zero_le _⟩ (fun r502 H locs hI hp hS => ?_)
      rcases hp with ⟨rfl, hp⟩ | ⟨rfl, hp⟩
      · skip
        try simp only [rg, not_and, Int.not_le] at hp
        have hp503 := hp
        obtain ⟨hc504, hE⟩ := hp503
        have hp503 : True := trivial
        rw [show (8 : Int32).toInt = 8 from by decide] at hc504
        obtain ⟨hkf, ht, hT, k513, ⟨qq505, hf506, hq507, hA508⟩, ⟨w509, hg510, k514⟩, ⟨w511, hg512, k515⟩⟩ := hE
        have hL2 := g3_m hL hc504
        have hlt2 := Gr.lt kC_end (by decide) hL2
        try rw [show (8 : Int32).toInt = 8 from by decide] at hp503
        refine lv_if_eq (tgt := 24) hx hb dX12_plainOf_8 (by decide) (fun c => absurd c (by decide)) (fun _ => ?_)
        refine lv_iload_n hx hb dX12_plainOf_11 rfl (lv_at hl 0 rfl) ?_
        refine lv_if_ne (tgt := 19) hx hb dX12_plainOf_12 (by decide) (fun c516 => ?_) (fun c516 => ?_)
        · skip
          have k517 := iv_ne (X := v488.toInt) (Y := (0)) rfl (by decide) c516
          refine lv_iconst (v := 0) hx hb dX12_plainOf_19 (by decide) ?_
          refine lv_istore_n (lv' := [(2, .int 0), (0, .ref h0), (1, .int x1)]) hx hb dX12_plainOf_20 rfl hl (by decide) rfl (fun ls hl => ?_)
          refine lv_goto (tgt := 2) hx hb dX12_plainOf_21 (by decide) ?_
          exact ih_2 _ (by omega) H locs ls 0 (mm + 1) rfl (lv_sub hl [0, 1, 2] rfl) ⟨by decide, by decide⟩ ⟨by omega, by omega⟩ (hL2) (⟨hkf, ht, hT, by omega, ⟨qq505, hf506, hq507, hA508⟩, ⟨w509, hg510, by omega⟩, ⟨w511, hg512, by omega⟩⟩) hI hS
        · skip
          have k518 := iv_eq (X := v488.toInt) (Y := (0)) rfl (by decide) c516
          refine lv_iconst (v := 1) hx hb dX12_plainOf_15 (by decide) ?_
          refine lv_goto (tgt := 20) hx hb dX12_plainOf_16 (by decide) ?_
          refine lv_istore_n (lv' := [(2, .int 1), (0, .ref h0), (1, .int x1)]) hx hb dX12_plainOf_20 rfl hl (by decide) rfl (fun ls hl => ?_)
          refine lv_goto (tgt := 2) hx hb dX12_plainOf_21 (by decide) ?_
          exact ih_2 _ (by omega) H locs ls 1 (mm + 1) rfl (lv_sub hl [0, 1, 2] rfl) ⟨by decide, by decide⟩ ⟨by omega, by omega⟩ (hL2) (⟨hkf, ht, hT, by omega, ⟨qq505, hf506, hq507, hA508⟩, ⟨w509, hg510, by omega⟩, ⟨w511, hg512, by omega⟩⟩) hI hS
      · skip
        try simp only [rg, not_and, Int.not_le] at hp
        have hp519 := hp
        obtain ⟨hc520, hE⟩ := hp519
        have hp519 : True := trivial
        rw [show (8 : Int32).toInt = 8 from by decide] at hc520
        obtain ⟨hkf, ht, hT, k529, ⟨qq521, hf522, hq523, hA524⟩, ⟨w525, hg526, k530⟩, ⟨w527, hg528, k531⟩⟩ := hE
        have h6 := g3_x hL hc520
        try rw [show (8 : Int32).toInt = 8 from by decide] at hp519
        refine lv_if_eq (tgt := 24) hx hb dX12_plainOf_8 (by decide) (fun _ => ?_) (fun c => absurd c (by decide))
        refine lv_aload_n hx hb dX12_plainOf_24 rfl (lv_at hl 1 rfl) ?_
        refine lv_iload_n hx hb dX12_plainOf_25 rfl (lv_at hl 2 rfl) ?_
        refine mx_i (As := [.int x1]) (rest := []) (n := 1) (d := (29 + 4 * k)) ⟨hx, hb, hml, hown, hts⟩ (hpos h0 hG0 x1 ⟨by omega, by omega⟩ ff tt dd mm qq h6 (by omega)) wd_1520 wd_1522 wp_58 wd_13 wd_1523 (by decide +kernel) ⟨by rw [hR]; show (29 + 4 * k) + 1 ≤ 30 + 4 * k; omega, by rw [hR]; show 8 + (7 + 11) + 40 * ((29 + 4 * k)) ≤ 40 * (30 + 4 * k); omega⟩ hI hN hK hS hG0 (⟨hkf, ht, hT, by omega, ⟨qq521, hf522, hq523, hA524⟩, ⟨w525, hg526, by omega⟩, ⟨w527, hg528, by omega⟩⟩) rfl hl.1 rfl (Nat.le_of_ble_eq_true rfl) dX12_plainOf_26 ⟨Nat.zero_le _, Nat.zero_le _⟩ (fun r532 H locs hI hp hS => ?_)
        obtain ⟨⟨k533, k534⟩, hp0⟩ := hp
        have hp : True := trivial
        obtain ⟨hkf, ht, hT, k543, ⟨qq535, hf536, hq537, hA538⟩, ⟨w539, hg540, k544⟩, ⟨w541, hg542, k545⟩⟩ := hp0
        have hp546 := hp
        refine lv_iload_n hx hb dX12_plainOf_29 rfl (lv_at hl 0 rfl) ?_
        refine lv_icmp_eq (tgt := 37) hx hb dX12_plainOf_30 (by decide) (fun c547 => ?_) (fun c547 => ?_)
        · skip
          have k548 := iv_eq (X := r532.toInt) (Y := v488.toInt) rfl rfl c547
          refine lv_iconst (v := 0) hx hb dX12_plainOf_37 (by decide) ?_
          have hpost : (0 ≤ (0 : Int32).toInt ∧ (0 : Int32).toInt ≤ 1) ∧ EV E D G h0 ff tt qq H := ⟨by first | decide | omega, ⟨hkf, ht, hT, by omega, ⟨qq535, hf536, hq537, hA538⟩, ⟨w539, hg540, by omega⟩, ⟨w541, hg542, by omega⟩⟩⟩
          rw [hQ]
          exact W.zret (v := 0) hx hb hr (by decide) (fun t ht hW => ⟨⟨0, 0, rfl, rfl, ⟨by rw [ht]; exact hI, hN.warm hW, va_K.moved hW.alike hK⟩, by first | (rw [ht]; exact hpost) | exact hpost⟩, hS.F ht⟩) hS.2.2 dX12_plainOf_38
        · skip
          have k549 := iv_ne (X := r532.toInt) (Y := v488.toInt) rfl rfl c547
          refine lv_iconst (v := 1) hx hb dX12_plainOf_33 (by decide) ?_
          refine lv_goto (tgt := 38) hx hb dX12_plainOf_34 (by decide) ?_
          have hpost : (0 ≤ (1 : Int32).toInt ∧ (1 : Int32).toInt ≤ 1) ∧ EV E D G h0 ff tt qq H := ⟨by first | decide | omega, ⟨hkf, ht, hT, by omega, ⟨qq535, hf536, hq537, hA538⟩, ⟨w539, hg540, by omega⟩, ⟨w541, hg542, by omega⟩⟩⟩
          rw [hQ]
          exact W.zret (v := 1) hx hb hr (by decide) (fun t ht hW => ⟨⟨1, 1, rfl, rfl, ⟨by rw [ht]; exact hI, hN.warm hW, va_K.moved hW.alike hK⟩, by first | (rw [ht]; exact hpost) | exact hpost⟩, hS.F ht⟩) hS.2.2 dX12_plainOf_38
  refine lv_iconst (v := 0) hx hb dX12_plainOf_0 (by decide) ?_
  refine lv_istore_n (lv' := [(2, .int 0), (0, .ref h0), (1, .int x1)]) hx hb dX12_plainOf_1 rfl hl (by decide) rfl (fun ls hl => ?_)
  exact J_2 _ s.heap [] ls 0 pp rfl (lv_sub hl [0, 1, 2] rfl) ⟨by decide, by decide⟩ ⟨by omega, by omega⟩ (hgr) (⟨hkf, ht, hT, by omega, ⟨qq1, hf2, hq3, hA4⟩, ⟨w5, hg6, by omega⟩, ⟨w7, hg8, by omega⟩⟩) hI hS
theorem dX12_bothOf_0g : (decode cX12_bothOf 0 = .ok (.aload_n 0, 1)) ∧ (decode cX12_bothOf 1 = .ok (.iload_n 1, 1)) ∧ (decode cX12_bothOf 2 = .ok (.invokevirtual 254, 3)) ∧ (decode cX12_bothOf 5 = .ok (.istore_n 2, 1)) ∧ (decode cX12_bothOf 6 = .ok (.aload_n 0, 1)) ∧ (decode cX12_bothOf 7 = .ok (.bipush 7, 2)) ∧ (decode cX12_bothOf 9 = .ok (.invokevirtual 244, 3)) ∧ (decode cX12_bothOf 12 = .ok (.ifCond .eq 38, 3)) ∧ (decode cX12_bothOf 15 = .ok (.aload_n 0, 1)) ∧ (decode cX12_bothOf 16 = .ok (.iload_n 1, 1)) := by decide +kernel
theorem dX12_bothOf_0 : decode cX12_bothOf 0 = .ok (.aload_n 0, 1) := dX12_bothOf_0g.1
theorem dX12_bothOf_1 : decode cX12_bothOf 1 = .ok (.iload_n 1, 1) := dX12_bothOf_0g.2.1
theorem dX12_bothOf_2 : decode cX12_bothOf 2 = .ok (.invokevirtual 254, 3) := dX12_bothOf_0g.2.2.1
theorem dX12_bothOf_5 : decode cX12_bothOf 5 = .ok (.istore_n 2, 1) := dX12_bothOf_0g.2.2.2.1
theorem dX12_bothOf_6 : decode cX12_bothOf 6 = .ok (.aload_n 0, 1) := dX12_bothOf_0g.2.2.2.2.1
theorem dX12_bothOf_7 : decode cX12_bothOf 7 = .ok (.bipush 7, 2) := dX12_bothOf_0g.2.2.2.2.2.1
theorem dX12_bothOf_9 : decode cX12_bothOf 9 = .ok (.invokevirtual 244, 3) := dX12_bothOf_0g.2.2.2.2.2.2.1
theorem dX12_bothOf_12 : decode cX12_bothOf 12 = .ok (.ifCond .eq 38, 3) := dX12_bothOf_0g.2.2.2.2.2.2.2.1
theorem dX12_bothOf_15 : decode cX12_bothOf 15 = .ok (.aload_n 0, 1) := dX12_bothOf_0g.2.2.2.2.2.2.2.2.1
theorem dX12_bothOf_16 : decode cX12_bothOf 16 = .ok (.iload_n 1, 1) := dX12_bothOf_0g.2.2.2.2.2.2.2.2.2
theorem dX12_bothOf_17g : (decode cX12_bothOf 17 = .ok (.ifCond .eq 11, 3)) ∧ (decode cX12_bothOf 20 = .ok (.iload_n 2, 1)) ∧ (decode cX12_bothOf 21 = .ok (.ifCond .eq 7, 3)) ∧ (decode cX12_bothOf 24 = .ok (.iconst 1, 1)) ∧ (decode cX12_bothOf 25 = .ok (.goto 4, 3)) ∧ (decode cX12_bothOf 28 = .ok (.iconst 0, 1)) ∧ (decode cX12_bothOf 29 = .ok (.invokevirtual 254, 3)) ∧ (decode cX12_bothOf 32 = .ok (.istore_n 3, 1)) ∧ (decode cX12_bothOf 33 = .ok (.iload_n 2, 1)) ∧ (decode cX12_bothOf 34 = .ok (.ifCond .eq 11, 3)) := by decide +kernel
theorem dX12_bothOf_17 : decode cX12_bothOf 17 = .ok (.ifCond .eq 11, 3) := dX12_bothOf_17g.1
theorem dX12_bothOf_20 : decode cX12_bothOf 20 = .ok (.iload_n 2, 1) := dX12_bothOf_17g.2.1
theorem dX12_bothOf_21 : decode cX12_bothOf 21 = .ok (.ifCond .eq 7, 3) := dX12_bothOf_17g.2.2.1
theorem dX12_bothOf_24 : decode cX12_bothOf 24 = .ok (.iconst 1, 1) := dX12_bothOf_17g.2.2.2.1
theorem dX12_bothOf_25 : decode cX12_bothOf 25 = .ok (.goto 4, 3) := dX12_bothOf_17g.2.2.2.2.1
theorem dX12_bothOf_28 : decode cX12_bothOf 28 = .ok (.iconst 0, 1) := dX12_bothOf_17g.2.2.2.2.2.1
theorem dX12_bothOf_29 : decode cX12_bothOf 29 = .ok (.invokevirtual 254, 3) := dX12_bothOf_17g.2.2.2.2.2.2.1
theorem dX12_bothOf_32 : decode cX12_bothOf 32 = .ok (.istore_n 3, 1) := dX12_bothOf_17g.2.2.2.2.2.2.2.1
theorem dX12_bothOf_33 : decode cX12_bothOf 33 = .ok (.iload_n 2, 1) := dX12_bothOf_17g.2.2.2.2.2.2.2.2.1
theorem dX12_bothOf_34 : decode cX12_bothOf 34 = .ok (.ifCond .eq 11, 3) := dX12_bothOf_17g.2.2.2.2.2.2.2.2.2
theorem dX12_bothOf_37g : (decode cX12_bothOf 37 = .ok (.iload_n 3, 1)) ∧ (decode cX12_bothOf 38 = .ok (.ifCond .eq 7, 3)) ∧ (decode cX12_bothOf 41 = .ok (.iconst 1, 1)) ∧ (decode cX12_bothOf 42 = .ok (.goto 4, 3)) ∧ (decode cX12_bothOf 45 = .ok (.iconst 0, 1)) ∧ (decode cX12_bothOf 46 = .ok (.istore_n 2, 1)) ∧ (decode cX12_bothOf 47 = .ok (.goto (-41), 3)) ∧ (decode cX12_bothOf 50 = .ok (.iload_n 2, 1)) ∧ (decode cX12_bothOf 51 = .ok (.ireturn, 1)) := by decide +kernel
theorem dX12_bothOf_37 : decode cX12_bothOf 37 = .ok (.iload_n 3, 1) := dX12_bothOf_37g.1
theorem dX12_bothOf_38 : decode cX12_bothOf 38 = .ok (.ifCond .eq 7, 3) := dX12_bothOf_37g.2.1
theorem dX12_bothOf_41 : decode cX12_bothOf 41 = .ok (.iconst 1, 1) := dX12_bothOf_37g.2.2.1
theorem dX12_bothOf_42 : decode cX12_bothOf 42 = .ok (.goto 4, 3) := dX12_bothOf_37g.2.2.2.1
theorem dX12_bothOf_45 : decode cX12_bothOf 45 = .ok (.iconst 0, 1) := dX12_bothOf_37g.2.2.2.2.1
theorem dX12_bothOf_46 : decode cX12_bothOf 46 = .ok (.istore_n 2, 1) := dX12_bothOf_37g.2.2.2.2.2.1
theorem dX12_bothOf_47 : decode cX12_bothOf 47 = .ok (.goto (-41), 3) := dX12_bothOf_37g.2.2.2.2.2.2.1
theorem dX12_bothOf_50 : decode cX12_bothOf 50 = .ok (.iload_n 2, 1) := dX12_bothOf_37g.2.2.2.2.2.2.2.1
theorem dX12_bothOf_51 : decode cX12_bothOf 51 = .ok (.ireturn, 1) := dX12_bothOf_37g.2.2.2.2.2.2.2.2
set_option maxHeartbeats 4000000 in
set_option maxRecDepth 100000 in
theorem c_X12_bothOf (l : Launch) (E : Nat → Nat) (D : va_G) (G : th_G) (k : Nat) (h0 : Nat) (hG0 : G h0 = some (10, 0)) (x1 : Int32) (hx1 : (0 : Int) ≤ x1.toInt ∧ x1.toInt ≤ 1) (ff : Nat → Int32) (tt dd pp qq : Nat) (hgr : Gr (kC ff tt) 4 dd pp qq) (hk : 8 ≤ dd + k) (hpos : ∀ (h0 : Nat) (hG0 : G h0 = some (10, 0)) (x1 : Int32) (hx1 : (0 : Int) ≤ x1.toInt ∧ x1.toInt ≤ 1) (ff : Nat → Int32) (tt dd pp qq : Nat) (hgr : Gr (kC ff tt) 6 dd pp qq) (hk : 8 ≤ dd + k), Met l yX12_positiveOf (tb (.code yX12_positiveOf cX12_positiveOf 7 (some .boolean))) (rm (29 + 4 * k)) (va_Pc [.ref h0, .int x1] (PX E D G (fun H => EV E D G h0 ff tt pp H))) (QXi E D G (fun r H => (0 ≤ (r : Int32).toInt ∧ (r : Int32).toInt ≤ 1) ∧ EV E D G h0 ff tt qq H)) 0 0 (th_A G)) : Met l yX12_bothOf (tb (.code yX12_bothOf cX12_bothOf 4 (some .boolean))) (rm (31 + 4 * k)) (va_Pc [.ref h0, .int x1] (PX E D G (fun H => EV E D G h0 ff tt pp H))) (QXi E D G (fun r H => (0 ≤ (r : Int32).toInt ∧ (r : Int32).toInt ≤ 1) ∧ EV E D G h0 ff tt qq H)) 0 0 (th_A G) := by
  refine Met.ofW (cc := cX12_bothOf) (maxL := 4) (ret := (some .boolean)) (by decide) rfl ?_
  intro p e s m args below meth c s₁ B hml hv
  obtain ⟨hav, ⟨hI, hN, hK⟩, hX⟩ := hv
  have hx := B.exec
  have hb := B.bytes
  have hr := B.returns
  have hts := atoms_spec (ws := tb (.code yX12_bothOf cX12_bothOf 4 (some .boolean))) B.pre
  have hown : s.vm.findClass RX12 = some m.cls := findClass_of_methodNamed B.named
  have hlocks := B.notSynchronized
  have hS : va_S (th_A G) s.heap s.heap [] := va_S.rf
  have hl := lv_entry ([.ref h0, .int x1]) (n := 4) (Nat.le_of_ble_eq_true rfl)
  rw [show entryFrame m args 4 = entryFrame m ([.ref h0, .int x1] : List Value).toArray 4 from by rw [hav], lg_entry_eq]
  generalize (lg_sl ([.ref h0, .int x1]) ++ List.replicate (4 - (lg_sl ([.ref h0, .int x1])).length) Slot.unset).toArray = ls at hl ⊢
  have hl : lv_has ls 4 [(0, .ref h0), (1, .int x1)] := hl
  generalize hR : (headSpec (tb (.code yX12_bothOf cX12_bothOf 4 (some .boolean))) (rm (31 + 4 * k))).room = R
  have hR := hR.symm
  generalize hQ : MQ below (QXi E D G (fun r H => (0 ≤ (r : Int32).toInt ∧ (r : Int32).toInt ≤ 1) ∧ EV E D G h0 ff tt qq H)) args s 0 0 (th_A G) = QF
  have hQ := hQ.symm
  obtain ⟨hkf, ht, hT, k9, ⟨qq1, hf2, hq3, hA4⟩, ⟨w5, hg6, k10⟩, ⟨w7, hg8, k11⟩⟩ := hX
  obtain ⟨m0, h00, h07⟩ := g4_o hgr
  have hlt0 := Gr.lt kC_end (by decide) h00
  have hle0 := Gr.le kC_end (by decide) hlt0.2 h07
  have J_6 : ∀ (nn : Nat) (H : Heap) (locs : List Loc) (ls : Array Slot) (v867 : Int32) (mm : Nat), (Int.toNat (((qq : Nat) : Int) - ((mm : Nat) : Int)) = nn) → lv_has ls 4 [(2, .int v867), (0, .ref h0), (1, .int x1)] → ((0 : Int) ≤ v867.toInt ∧ v867.toInt ≤ 1) → ((0 : Int) ≤ x1.toInt ∧ x1.toInt ≤ 1) → (mm ≤ kT ff tt) → (Gr (kC ff tt) 9 dd mm qq) → (EV E D G h0 ff tt mm H) → th_I (okM E) D G [] H → va_S (th_A G) s.heap H locs → W p l e R s m args below meth c H locs 0 0 QF (F0 m 6 ls []) := by
    intro nn
    induction nn using Nat.strongRecOn with
    | ind nn ih_6 =>
      intro H locs ls v867 mm hm hl k868 k869 hmT hL hE hI hS
      obtain ⟨hkf, ht, hT, k878, ⟨qq870, hf871, hq872, hA873⟩, ⟨w874, hg875, k879⟩, ⟨w876, hg877, k880⟩⟩ := hE
      have hleL := Gr.le kC_end (by decide) hmT hL
      refine lv_aload_n hx hb dX12_bothOf_6 rfl (lv_at hl 1 rfl) ?_
      refine lv_bipush (v := 7) hx hb dX12_bothOf_7 (by decide) ?_
      refine mx_i (As := [.int 7]) (rest := []) (n := 1) (d := 1) ⟨hx, hb, hml, hown, hts⟩ (c_X12_passes0 l E D G h0 hG0 7 ff tt mm (by omega)) wd_1498 wd_1500 wp_53 wd_13 wd_1501 (by decide +kernel) ⟨by rw [hR]; show 1 + 1 ≤ 31 + 4 * k; omega, by rw [hR]; show 8 + (3 + 11) + 40 * (1) ≤ 40 * (31 + 4 * k); omega⟩ hI hN hK hS hG0 (⟨hkf, ht, hT, by omega, ⟨qq870, hf871, hq872, hA873⟩, ⟨w874, hg875, by omega⟩, ⟨w876, hg877, by omega⟩⟩) rfl hl.1 rfl (Nat.le_of_ble_eq_true rfl) dX12_bothOf_9 ⟨Nat.zero_le _, Nat.zero_le _⟩ (fun r881 H locs hI hp hS => ?_)
      rcases hp with ⟨rfl, hp⟩ | ⟨rfl, hp⟩
      · skip
        try simp only [rg, not_and, Int.not_le] at hp
        have hp882 := hp
        obtain ⟨hc883, hE⟩ := hp882
        have hp882 : True := trivial
        rw [show (7 : Int32).toInt = 7 from by decide] at hc883
        obtain ⟨hkf, ht, hT, k892, ⟨qq884, hf885, hq886, hA887⟩, ⟨w888, hg889, k893⟩, ⟨w890, hg891, k894⟩⟩ := hE
        obtain ⟨m2, h1, hL2⟩ := g9_m hL hc883
        have hlt2 := Gr.lt kC_end (by decide) h1
        have hle2 := Gr.le kC_end (by decide) hlt2.2 hL2
        try rw [show (7 : Int32).toInt = 7 from by decide] at hp882
        refine lv_if_eq (tgt := 50) hx hb dX12_bothOf_12 (by decide) (fun c => absurd c (by decide)) (fun _ => ?_)
        refine lv_aload_n hx hb dX12_bothOf_15 rfl (lv_at hl 1 rfl) ?_
        refine lv_iload_n hx hb dX12_bothOf_16 rfl (lv_at hl 2 rfl) ?_
        refine lv_if_eq (tgt := 28) hx hb dX12_bothOf_17 (by decide) (fun c895 => ?_) (fun c895 => ?_)
        · skip
          have k896 := iv_eq (X := x1.toInt) (Y := (0)) rfl (by decide) c895
          refine lv_iconst (v := 0) hx hb dX12_bothOf_28 (by decide) ?_
          refine mx_i (As := [.int 0]) (rest := []) (n := 1) (d := (30 + 4 * k)) ⟨hx, hb, hml, hown, hts⟩ (c_X12_plainOf l E D G k h0 hG0 0 ⟨by decide, by decide⟩ ff tt dd (mm + 1) m2 h1 (by omega) hpos) wd_1516 wd_1518 wp_57 wd_13 wd_1519 (by decide +kernel) ⟨by rw [hR]; show (30 + 4 * k) + 1 ≤ 31 + 4 * k; omega, by rw [hR]; show 8 + (3 + 11) + 40 * ((30 + 4 * k)) ≤ 40 * (31 + 4 * k); omega⟩ hI hN hK hS hG0 (⟨hkf, ht, hT, by omega, ⟨qq884, hf885, hq886, hA887⟩, ⟨w888, hg889, by omega⟩, ⟨w890, hg891, by omega⟩⟩) rfl hl.1 rfl (Nat.le_of_ble_eq_true rfl) dX12_bothOf_29 ⟨Nat.zero_le _, Nat.zero_le _⟩ (fun r897 H locs hI hp hS => ?_)
          obtain ⟨⟨k898, k899⟩, hp0⟩ := hp
          have hp : True := trivial
          obtain ⟨hkf, ht, hT, k908, ⟨qq900, hf901, hq902, hA903⟩, ⟨w904, hg905, k909⟩, ⟨w906, hg907, k910⟩⟩ := hp0
          have hp911 := hp
          refine lv_istore_n (lv' := [(3, .int r897), (2, .int v867), (0, .ref h0), (1, .int x1)]) hx hb dX12_bothOf_32 rfl hl (by decide) rfl (fun ls hl => ?_)
          refine lv_iload_n hx hb dX12_bothOf_33 rfl (lv_at hl 1 rfl) ?_
          refine lv_if_eq (tgt := 45) hx hb dX12_bothOf_34 (by decide) (fun c912 => ?_) (fun c912 => ?_)
          · skip
            have k913 := iv_eq (X := v867.toInt) (Y := (0)) rfl (by decide) c912
            refine lv_iconst (v := 0) hx hb dX12_bothOf_45 (by decide) ?_
            refine lv_istore_n (lv' := [(2, .int 0), (3, .int r897), (0, .ref h0), (1, .int x1)]) hx hb dX12_bothOf_46 rfl hl (by decide) rfl (fun ls hl => ?_)
            refine lv_goto (tgt := 6) hx hb dX12_bothOf_47 (by decide) ?_
            exact ih_6 _ (by omega) H locs ls 0 m2 rfl (lv_sub hl [0, 2, 3] rfl) ⟨by decide, by decide⟩ ⟨by omega, by omega⟩ (by omega) (hL2) (⟨hkf, ht, hT, by omega, ⟨qq900, hf901, hq902, hA903⟩, ⟨w904, hg905, by omega⟩, ⟨w906, hg907, by omega⟩⟩) hI hS
          · skip
            have k914 := iv_ne (X := v867.toInt) (Y := (0)) rfl (by decide) c912
            refine lv_iload_n hx hb dX12_bothOf_37 rfl (lv_at hl 0 rfl) ?_
            refine lv_if_eq (tgt := 45) hx hb dX12_bothOf_38 (by decide) (fun c915 => ?_) (fun c915 => ?_)
            · skip
              have k916 := iv_eq (X := r897.toInt) (Y := (0)) rfl (by decide) c915
              refine lv_iconst (v := 0) hx hb dX12_bothOf_45 (by decide) ?_
              refine lv_istore_n (lv' := [(2, .int 0), (3, .int r897), (0, .ref h0), (1, .int x1)]) hx hb dX12_bothOf_46 rfl hl (by decide) rfl (fun ls hl => ?_)
              refine lv_goto (tgt := 6) hx hb dX12_bothOf_47 (by decide) ?_
              exact ih_6 _ (by omega) H locs ls 0 m2 rfl (lv_sub hl [0, 2, 3] rfl) ⟨by decide, by decide⟩ ⟨by omega, by omega⟩ (by omega) (hL2) (⟨hkf, ht, hT, by omega, ⟨qq900, hf901, hq902, hA903⟩, ⟨w904, hg905, by omega⟩, ⟨w906, hg907, by omega⟩⟩) hI hS
            · skip
              have k917 := iv_ne (X := r897.toInt) (Y := (0)) rfl (by decide) c915
              refine lv_iconst (v := 1) hx hb dX12_bothOf_41 (by decide) ?_
              refine lv_goto (tgt := 46) hx hb dX12_bothOf_42 (by decide) ?_
              refine lv_istore_n (lv' := [(2, .int 1), (3, .int r897), (0, .ref h0), (1, .int x1)]) hx hb dX12_bothOf_46 rfl hl (by decide) rfl (fun ls hl => ?_)
              refine lv_goto (tgt := 6) hx hb dX12_bothOf_47 (by decide) ?_
              exact ih_6 _ (by omega) H locs ls 1 m2 rfl (lv_sub hl [0, 2, 3] rfl) ⟨by decide, by decide⟩ ⟨by omega, by omega⟩ (by omega) (hL2) (⟨hkf, ht, hT, by omega, ⟨qq900, hf901, hq902, hA903⟩, ⟨w904, hg905, by omega⟩, ⟨w906, hg907, by omega⟩⟩) hI hS
        · skip
          have k918 := iv_ne (X := x1.toInt) (Y := (0)) rfl (by decide) c895
          refine lv_iload_n hx hb dX12_bothOf_20 rfl (lv_at hl 0 rfl) ?_
          refine lv_if_eq (tgt := 28) hx hb dX12_bothOf_21 (by decide) (fun c919 => ?_) (fun c919 => ?_)
          · skip
            have k920 := iv_eq (X := v867.toInt) (Y := (0)) rfl (by decide) c919
            refine lv_iconst (v := 0) hx hb dX12_bothOf_28 (by decide) ?_
            refine mx_i (As := [.int 0]) (rest := []) (n := 1) (d := (30 + 4 * k)) ⟨hx, hb, hml, hown, hts⟩ (c_X12_plainOf l E D G k h0 hG0 0 ⟨by decide, by decide⟩ ff tt dd (mm + 1) m2 h1 (by omega) hpos) wd_1516 wd_1518 wp_57 wd_13 wd_1519 (by decide +kernel) ⟨by rw [hR]; show (30 + 4 * k) + 1 ≤ 31 + 4 * k; omega, by rw [hR]; show 8 + (3 + 11) + 40 * ((30 + 4 * k)) ≤ 40 * (31 + 4 * k); omega⟩ hI hN hK hS hG0 (⟨hkf, ht, hT, by omega, ⟨qq884, hf885, hq886, hA887⟩, ⟨w888, hg889, by omega⟩, ⟨w890, hg891, by omega⟩⟩) rfl hl.1 rfl (Nat.le_of_ble_eq_true rfl) dX12_bothOf_29 ⟨Nat.zero_le _, Nat.zero_le _⟩ (fun r921 H locs hI hp hS => ?_)
            obtain ⟨⟨k922, k923⟩, hp0⟩ := hp
            have hp : True := trivial
            obtain ⟨hkf, ht, hT, k932, ⟨qq924, hf925, hq926, hA927⟩, ⟨w928, hg929, k933⟩, ⟨w930, hg931, k934⟩⟩ := hp0
            have hp935 := hp
            refine lv_istore_n (lv' := [(3, .int r921), (2, .int v867), (0, .ref h0), (1, .int x1)]) hx hb dX12_bothOf_32 rfl hl (by decide) rfl (fun ls hl => ?_)
            refine lv_iload_n hx hb dX12_bothOf_33 rfl (lv_at hl 1 rfl) ?_
            refine lv_if_eq (tgt := 45) hx hb dX12_bothOf_34 (by decide) (fun c936 => ?_) (fun c936 => ?_)
            · skip
              have k937 := iv_eq (X := v867.toInt) (Y := (0)) rfl (by decide) c936
              refine lv_iconst (v := 0) hx hb dX12_bothOf_45 (by decide) ?_
              refine lv_istore_n (lv' := [(2, .int 0), (3, .int r921), (0, .ref h0), (1, .int x1)]) hx hb dX12_bothOf_46 rfl hl (by decide) rfl (fun ls hl => ?_)
              refine lv_goto (tgt := 6) hx hb dX12_bothOf_47 (by decide) ?_
              exact ih_6 _ (by omega) H locs ls 0 m2 rfl (lv_sub hl [0, 2, 3] rfl) ⟨by decide, by decide⟩ ⟨by omega, by omega⟩ (by omega) (hL2) (⟨hkf, ht, hT, by omega, ⟨qq924, hf925, hq926, hA927⟩, ⟨w928, hg929, by omega⟩, ⟨w930, hg931, by omega⟩⟩) hI hS
            · skip
              have k938 := iv_ne (X := v867.toInt) (Y := (0)) rfl (by decide) c936
              exfalso; omega
          · skip
            have k939 := iv_ne (X := v867.toInt) (Y := (0)) rfl (by decide) c919
            refine lv_iconst (v := 1) hx hb dX12_bothOf_24 (by decide) ?_
            refine lv_goto (tgt := 29) hx hb dX12_bothOf_25 (by decide) ?_
            refine mx_i (As := [.int 1]) (rest := []) (n := 1) (d := (30 + 4 * k)) ⟨hx, hb, hml, hown, hts⟩ (c_X12_plainOf l E D G k h0 hG0 1 ⟨by decide, by decide⟩ ff tt dd (mm + 1) m2 h1 (by omega) hpos) wd_1516 wd_1518 wp_57 wd_13 wd_1519 (by decide +kernel) ⟨by rw [hR]; show (30 + 4 * k) + 1 ≤ 31 + 4 * k; omega, by rw [hR]; show 8 + (3 + 11) + 40 * ((30 + 4 * k)) ≤ 40 * (31 + 4 * k); omega⟩ hI hN hK hS hG0 (⟨hkf, ht, hT, by omega, ⟨qq884, hf885, hq886, hA887⟩, ⟨w888, hg889, by omega⟩, ⟨w890, hg891, by omega⟩⟩) rfl hl.1 rfl (Nat.le_of_ble_eq_true rfl) dX12_bothOf_29 ⟨Nat.zero_le _, Nat.zero_le _⟩ (fun r940 H locs hI hp hS => ?_)
            obtain ⟨⟨k941, k942⟩, hp0⟩ := hp
            have hp : True := trivial
            obtain ⟨hkf, ht, hT, k951, ⟨qq943, hf944, hq945, hA946⟩, ⟨w947, hg948, k952⟩, ⟨w949, hg950, k953⟩⟩ := hp0
            have hp954 := hp
            refine lv_istore_n (lv' := [(3, .int r940), (2, .int v867), (0, .ref h0), (1, .int x1)]) hx hb dX12_bothOf_32 rfl hl (by decide) rfl (fun ls hl => ?_)
            refine lv_iload_n hx hb dX12_bothOf_33 rfl (lv_at hl 1 rfl) ?_
            refine lv_if_eq (tgt := 45) hx hb dX12_bothOf_34 (by decide) (fun c955 => ?_) (fun c955 => ?_)
            · skip
              have k956 := iv_eq (X := v867.toInt) (Y := (0)) rfl (by decide) c955
              exfalso; omega
            · skip
              have k957 := iv_ne (X := v867.toInt) (Y := (0)) rfl (by decide) c955
              refine lv_iload_n hx hb dX12_bothOf_37 rfl (lv_at hl 0 rfl) ?_
              refine lv_if_eq (tgt := 45) hx hb dX12_bothOf_38 (by decide) (fun c958 => ?_) (fun c958 => ?_)
              · skip
                have k959 := iv_eq (X := r940.toInt) (Y := (0)) rfl (by decide) c958
                refine lv_iconst (v := 0) hx hb dX12_bothOf_45 (by decide) ?_
                refine lv_istore_n (lv' := [(2, .int 0), (3, .int r940), (0, .ref h0), (1, .int x1)]) hx hb dX12_bothOf_46 rfl hl (by decide) rfl (fun ls hl => ?_)
                refine lv_goto (tgt := 6) hx hb dX12_bothOf_47 (by decide) ?_
                exact ih_6 _ (by omega) H locs ls 0 m2 rfl (lv_sub hl [0, 2, 3] rfl) ⟨by decide, by decide⟩ ⟨by omega, by omega⟩ (by omega) (hL2) (⟨hkf, ht, hT, by omega, ⟨qq943, hf944, hq945, hA946⟩, ⟨w947, hg948, by omega⟩, ⟨w949, hg950, by omega⟩⟩) hI hS
              · skip
                have k960 := iv_ne (X := r940.toInt) (Y := (0)) rfl (by decide) c958
                refine lv_iconst (v := 1) hx hb dX12_bothOf_41 (by decide) ?_
                refine lv_goto (tgt := 46) hx hb dX12_bothOf_42 (by decide) ?_
                refine lv_istore_n (lv' := [(2, .int 1), (3, .int r940), (0, .ref h0), (1, .int x1)]) hx hb dX12_bothOf_46 rfl hl (by decide) rfl (fun ls hl => ?_)
                refine lv_goto (tgt := 6) hx hb dX12_bothOf_47 (by decide) ?_
                exact ih_6 _ (by omega) H locs ls 1 m2 rfl (lv_sub hl [0, 2, 3] rfl) ⟨by decide, by decide⟩ ⟨by omega, by omega⟩ (by omega) (hL2) (⟨hkf, ht, hT, by omega, ⟨qq943, hf944, hq945, hA946⟩, ⟨w947, hg948, by omega⟩, ⟨w949, hg950, by omega⟩⟩) hI hS
      · skip
        try simp only [rg, not_and, Int.not_le] at hp
        have hp961 := hp
        obtain ⟨hc962, hE⟩ := hp961
        have hp961 : True := trivial
        rw [show (7 : Int32).toInt = 7 from by decide] at hc962
        obtain ⟨hkf, ht, hT, k971, ⟨qq963, hf964, hq965, hA966⟩, ⟨w967, hg968, k972⟩, ⟨w969, hg970, k973⟩⟩ := hE
        have hqm : qq = mm := g9_x hL hc962
        try rw [show (7 : Int32).toInt = 7 from by decide] at hp961
        refine lv_if_eq (tgt := 50) hx hb dX12_bothOf_12 (by decide) (fun _ => ?_) (fun c => absurd c (by decide))
        refine lv_iload_n hx hb dX12_bothOf_50 rfl (lv_at hl 0 rfl) ?_
        have hpost : (0 ≤ (v867 : Int32).toInt ∧ (v867 : Int32).toInt ≤ 1) ∧ EV E D G h0 ff tt qq H := ⟨by first | decide | omega, ⟨hkf, ht, hT, by omega, ⟨qq963, hf964, hq965, hA966⟩, ⟨w967, hg968, by omega⟩, ⟨w969, hg970, by omega⟩⟩⟩
        rw [hQ]
        exact W.zret (v := v867) hx hb hr (th_zn (by omega)) (fun t ht hW => ⟨⟨v867, v867, rfl, rfl, ⟨by rw [ht]; exact hI, hN.warm hW, va_K.moved hW.alike hK⟩, by first | (rw [ht]; exact hpost) | exact hpost⟩, hS.F ht⟩) hS.2.2 dX12_bothOf_51
  refine lv_aload_n hx hb dX12_bothOf_0 rfl (lv_at hl 0 rfl) ?_
  refine lv_iload_n hx hb dX12_bothOf_1 rfl (lv_at hl 1 rfl) ?_
  refine mx_i (As := [.int x1]) (rest := []) (n := 1) (d := (30 + 4 * k)) ⟨hx, hb, hml, hown, hts⟩ (c_X12_plainOf l E D G k h0 hG0 x1 ⟨by omega, by omega⟩ ff tt dd pp m0 h00 (by omega) hpos) wd_1516 wd_1518 wp_57 wd_13 wd_1519 (by decide +kernel) ⟨by rw [hR]; show (30 + 4 * k) + 1 ≤ 31 + 4 * k; omega, by rw [hR]; show 8 + (3 + 11) + 40 * ((30 + 4 * k)) ≤ 40 * (31 + 4 * k); omega⟩ hI hN hK hS hG0 (⟨hkf, ht, hT, by omega, ⟨qq1, hf2, hq3, hA4⟩, ⟨w5, hg6, by omega⟩, ⟨w7, hg8, by omega⟩⟩) rfl hl.1 rfl (Nat.le_of_ble_eq_true rfl) dX12_bothOf_2 ⟨Nat.zero_le _, Nat.zero_le _⟩ (fun r974 H locs hI hp hS => ?_)
  obtain ⟨⟨k975, k976⟩, hp0⟩ := hp
  have hp : True := trivial
  obtain ⟨hkf, ht, hT, k985, ⟨qq977, hf978, hq979, hA980⟩, ⟨w981, hg982, k986⟩, ⟨w983, hg984, k987⟩⟩ := hp0
  have hp988 := hp
  refine lv_istore_n (lv' := [(2, .int r974), (0, .ref h0), (1, .int x1)]) hx hb dX12_bothOf_5 rfl hl (by decide) rfl (fun ls hl => ?_)
  exact J_6 _ H locs ls r974 m0 rfl (lv_sub hl [0, 1, 2] rfl) ⟨by omega, by omega⟩ ⟨by omega, by omega⟩ (by omega) (h07) (⟨hkf, ht, hT, by omega, ⟨qq977, hf978, hq979, hA980⟩, ⟨w981, hg982, by omega⟩, ⟨w983, hg984, by omega⟩⟩) hI hS
theorem dX12_testOf_0g : (decode cX12_testOf 0 = .ok (.aload_n 0, 1)) ∧ (decode cX12_testOf 1 = .ok (.iload_n 1, 1)) ∧ (decode cX12_testOf 2 = .ok (.invokevirtual 250, 3)) ∧ (decode cX12_testOf 5 = .ok (.istore_n 2, 1)) ∧ (decode cX12_testOf 6 = .ok (.aload_n 0, 1)) ∧ (decode cX12_testOf 7 = .ok (.bipush 6, 2)) ∧ (decode cX12_testOf 9 = .ok (.invokevirtual 244, 3)) ∧ (decode cX12_testOf 12 = .ok (.ifCond .eq 38, 3)) ∧ (decode cX12_testOf 15 = .ok (.aload_n 0, 1)) ∧ (decode cX12_testOf 16 = .ok (.iload_n 1, 1)) := by decide +kernel
theorem dX12_testOf_0 : decode cX12_testOf 0 = .ok (.aload_n 0, 1) := dX12_testOf_0g.1
theorem dX12_testOf_1 : decode cX12_testOf 1 = .ok (.iload_n 1, 1) := dX12_testOf_0g.2.1
theorem dX12_testOf_2 : decode cX12_testOf 2 = .ok (.invokevirtual 250, 3) := dX12_testOf_0g.2.2.1
theorem dX12_testOf_5 : decode cX12_testOf 5 = .ok (.istore_n 2, 1) := dX12_testOf_0g.2.2.2.1
theorem dX12_testOf_6 : decode cX12_testOf 6 = .ok (.aload_n 0, 1) := dX12_testOf_0g.2.2.2.2.1
theorem dX12_testOf_7 : decode cX12_testOf 7 = .ok (.bipush 6, 2) := dX12_testOf_0g.2.2.2.2.2.1
theorem dX12_testOf_9 : decode cX12_testOf 9 = .ok (.invokevirtual 244, 3) := dX12_testOf_0g.2.2.2.2.2.2.1
theorem dX12_testOf_12 : decode cX12_testOf 12 = .ok (.ifCond .eq 38, 3) := dX12_testOf_0g.2.2.2.2.2.2.2.1
theorem dX12_testOf_15 : decode cX12_testOf 15 = .ok (.aload_n 0, 1) := dX12_testOf_0g.2.2.2.2.2.2.2.2.1
theorem dX12_testOf_16 : decode cX12_testOf 16 = .ok (.iload_n 1, 1) := dX12_testOf_0g.2.2.2.2.2.2.2.2.2
theorem dX12_testOf_17g : (decode cX12_testOf 17 = .ok (.ifCond .eq 11, 3)) ∧ (decode cX12_testOf 20 = .ok (.iload_n 2, 1)) ∧ (decode cX12_testOf 21 = .ok (.ifCond .ne 7, 3)) ∧ (decode cX12_testOf 24 = .ok (.iconst 1, 1)) ∧ (decode cX12_testOf 25 = .ok (.goto 4, 3)) ∧ (decode cX12_testOf 28 = .ok (.iconst 0, 1)) ∧ (decode cX12_testOf 29 = .ok (.invokevirtual 250, 3)) ∧ (decode cX12_testOf 32 = .ok (.istore_n 3, 1)) ∧ (decode cX12_testOf 33 = .ok (.iload_n 2, 1)) ∧ (decode cX12_testOf 34 = .ok (.ifCond .ne 7, 3)) := by decide +kernel
theorem dX12_testOf_17 : decode cX12_testOf 17 = .ok (.ifCond .eq 11, 3) := dX12_testOf_17g.1
theorem dX12_testOf_20 : decode cX12_testOf 20 = .ok (.iload_n 2, 1) := dX12_testOf_17g.2.1
theorem dX12_testOf_21 : decode cX12_testOf 21 = .ok (.ifCond .ne 7, 3) := dX12_testOf_17g.2.2.1
theorem dX12_testOf_24 : decode cX12_testOf 24 = .ok (.iconst 1, 1) := dX12_testOf_17g.2.2.2.1
theorem dX12_testOf_25 : decode cX12_testOf 25 = .ok (.goto 4, 3) := dX12_testOf_17g.2.2.2.2.1
theorem dX12_testOf_28 : decode cX12_testOf 28 = .ok (.iconst 0, 1) := dX12_testOf_17g.2.2.2.2.2.1
theorem dX12_testOf_29 : decode cX12_testOf 29 = .ok (.invokevirtual 250, 3) := dX12_testOf_17g.2.2.2.2.2.2.1
theorem dX12_testOf_32 : decode cX12_testOf 32 = .ok (.istore_n 3, 1) := dX12_testOf_17g.2.2.2.2.2.2.2.1
theorem dX12_testOf_33 : decode cX12_testOf 33 = .ok (.iload_n 2, 1) := dX12_testOf_17g.2.2.2.2.2.2.2.2.1
theorem dX12_testOf_34 : decode cX12_testOf 34 = .ok (.ifCond .ne 7, 3) := dX12_testOf_17g.2.2.2.2.2.2.2.2.2
theorem dX12_testOf_37g : (decode cX12_testOf 37 = .ok (.iload_n 3, 1)) ∧ (decode cX12_testOf 38 = .ok (.ifCond .eq 7, 3)) ∧ (decode cX12_testOf 41 = .ok (.iconst 1, 1)) ∧ (decode cX12_testOf 42 = .ok (.goto 4, 3)) ∧ (decode cX12_testOf 45 = .ok (.iconst 0, 1)) ∧ (decode cX12_testOf 46 = .ok (.istore_n 2, 1)) ∧ (decode cX12_testOf 47 = .ok (.goto (-41), 3)) ∧ (decode cX12_testOf 50 = .ok (.iload_n 2, 1)) ∧ (decode cX12_testOf 51 = .ok (.ireturn, 1)) := by decide +kernel
theorem dX12_testOf_37 : decode cX12_testOf 37 = .ok (.iload_n 3, 1) := dX12_testOf_37g.1
theorem dX12_testOf_38 : decode cX12_testOf 38 = .ok (.ifCond .eq 7, 3) := dX12_testOf_37g.2.1
theorem dX12_testOf_41 : decode cX12_testOf 41 = .ok (.iconst 1, 1) := dX12_testOf_37g.2.2.1
theorem dX12_testOf_42 : decode cX12_testOf 42 = .ok (.goto 4, 3) := dX12_testOf_37g.2.2.2.1
theorem dX12_testOf_45 : decode cX12_testOf 45 = .ok (.iconst 0, 1) := dX12_testOf_37g.2.2.2.2.1
theorem dX12_testOf_46 : decode cX12_testOf 46 = .ok (.istore_n 2, 1) := dX12_testOf_37g.2.2.2.2.2.1
theorem dX12_testOf_47 : decode cX12_testOf 47 = .ok (.goto (-41), 3) := dX12_testOf_37g.2.2.2.2.2.2.1
theorem dX12_testOf_50 : decode cX12_testOf 50 = .ok (.iload_n 2, 1) := dX12_testOf_37g.2.2.2.2.2.2.2.1
theorem dX12_testOf_51 : decode cX12_testOf 51 = .ok (.ireturn, 1) := dX12_testOf_37g.2.2.2.2.2.2.2.2
set_option maxHeartbeats 4000000 in
set_option maxRecDepth 100000 in
theorem c_X12_testOf (l : Launch) (E : Nat → Nat) (D : va_G) (G : th_G) (k : Nat) (h0 : Nat) (hG0 : G h0 = some (10, 0)) (x1 : Int32) (hx1 : (0 : Int) ≤ x1.toInt ∧ x1.toInt ≤ 1) (ff : Nat → Int32) (tt dd pp qq : Nat) (hgr : Gr (kC ff tt) 5 dd pp qq) (hk : 8 ≤ dd + k) (hpos : ∀ (h0 : Nat) (hG0 : G h0 = some (10, 0)) (x1 : Int32) (hx1 : (0 : Int) ≤ x1.toInt ∧ x1.toInt ≤ 1) (ff : Nat → Int32) (tt dd pp qq : Nat) (hgr : Gr (kC ff tt) 6 dd pp qq) (hk : 8 ≤ dd + k), Met l yX12_positiveOf (tb (.code yX12_positiveOf cX12_positiveOf 7 (some .boolean))) (rm (29 + 4 * k)) (va_Pc [.ref h0, .int x1] (PX E D G (fun H => EV E D G h0 ff tt pp H))) (QXi E D G (fun r H => (0 ≤ (r : Int32).toInt ∧ (r : Int32).toInt ≤ 1) ∧ EV E D G h0 ff tt qq H)) 0 0 (th_A G)) : Met l yX12_testOf (tb (.code yX12_testOf cX12_testOf 4 (some .boolean))) (rm (32 + 4 * k)) (va_Pc [.ref h0, .int x1] (PX E D G (fun H => EV E D G h0 ff tt pp H))) (QXi E D G (fun r H => (0 ≤ (r : Int32).toInt ∧ (r : Int32).toInt ≤ 1) ∧ EV E D G h0 ff tt qq H)) 0 0 (th_A G) := by
  refine Met.ofW (cc := cX12_testOf) (maxL := 4) (ret := (some .boolean)) (by decide) rfl ?_
  intro p e s m args below meth c s₁ B hml hv
  obtain ⟨hav, ⟨hI, hN, hK⟩, hX⟩ := hv
  have hx := B.exec
  have hb := B.bytes
  have hr := B.returns
  have hts := atoms_spec (ws := tb (.code yX12_testOf cX12_testOf 4 (some .boolean))) B.pre
  have hown : s.vm.findClass RX12 = some m.cls := findClass_of_methodNamed B.named
  have hlocks := B.notSynchronized
  have hS : va_S (th_A G) s.heap s.heap [] := va_S.rf
  have hl := lv_entry ([.ref h0, .int x1]) (n := 4) (Nat.le_of_ble_eq_true rfl)
  rw [show entryFrame m args 4 = entryFrame m ([.ref h0, .int x1] : List Value).toArray 4 from by rw [hav], lg_entry_eq]
  generalize (lg_sl ([.ref h0, .int x1]) ++ List.replicate (4 - (lg_sl ([.ref h0, .int x1])).length) Slot.unset).toArray = ls at hl ⊢
  have hl : lv_has ls 4 [(0, .ref h0), (1, .int x1)] := hl
  generalize hR : (headSpec (tb (.code yX12_testOf cX12_testOf 4 (some .boolean))) (rm (32 + 4 * k))).room = R
  have hR := hR.symm
  generalize hQ : MQ below (QXi E D G (fun r H => (0 ≤ (r : Int32).toInt ∧ (r : Int32).toInt ≤ 1) ∧ EV E D G h0 ff tt qq H)) args s 0 0 (th_A G) = QF
  have hQ := hQ.symm
  obtain ⟨hkf, ht, hT, k9, ⟨qq1, hf2, hq3, hA4⟩, ⟨w5, hg6, k10⟩, ⟨w7, hg8, k11⟩⟩ := hX
  obtain ⟨m0, h00, h07⟩ := g5_o hgr
  have hlt0 := Gr.lt kC_end (by decide) h00
  have hle0 := Gr.le kC_end (by decide) hlt0.2 h07
  have J_6 : ∀ (nn : Nat) (H : Heap) (locs : List Loc) (ls : Array Slot) (v867 : Int32) (mm : Nat), (Int.toNat (((qq : Nat) : Int) - ((mm : Nat) : Int)) = nn) → lv_has ls 4 [(2, .int v867), (0, .ref h0), (1, .int x1)] → ((0 : Int) ≤ v867.toInt ∧ v867.toInt ≤ 1) → ((0 : Int) ≤ x1.toInt ∧ x1.toInt ≤ 1) → (mm ≤ kT ff tt) → (Gr (kC ff tt) 10 dd mm qq) → (EV E D G h0 ff tt mm H) → th_I (okM E) D G [] H → va_S (th_A G) s.heap H locs → W p l e R s m args below meth c H locs 0 0 QF (F0 m 6 ls []) := by
    intro nn
    induction nn using Nat.strongRecOn with
    | ind nn ih_6 =>
      intro H locs ls v867 mm hm hl k868 k869 hmT hL hE hI hS
      obtain ⟨hkf, ht, hT, k878, ⟨qq870, hf871, hq872, hA873⟩, ⟨w874, hg875, k879⟩, ⟨w876, hg877, k880⟩⟩ := hE
      have hleL := Gr.le kC_end (by decide) hmT hL
      refine lv_aload_n hx hb dX12_testOf_6 rfl (lv_at hl 1 rfl) ?_
      refine lv_bipush (v := 6) hx hb dX12_testOf_7 (by decide) ?_
      refine mx_i (As := [.int 6]) (rest := []) (n := 1) (d := 1) ⟨hx, hb, hml, hown, hts⟩ (c_X12_passes0 l E D G h0 hG0 6 ff tt mm (by omega)) wd_1498 wd_1500 wp_53 wd_13 wd_1501 (by decide +kernel) ⟨by rw [hR]; show 1 + 1 ≤ 32 + 4 * k; omega, by rw [hR]; show 8 + (3 + 11) + 40 * (1) ≤ 40 * (32 + 4 * k); omega⟩ hI hN hK hS hG0 (⟨hkf, ht, hT, by omega, ⟨qq870, hf871, hq872, hA873⟩, ⟨w874, hg875, by omega⟩, ⟨w876, hg877, by omega⟩⟩) rfl hl.1 rfl (Nat.le_of_ble_eq_true rfl) dX12_testOf_9 ⟨Nat.zero_le _, Nat.zero_le _⟩ (fun r881 H locs hI hp hS => ?_)
      rcases hp with ⟨rfl, hp⟩ | ⟨rfl, hp⟩
      · skip
        try simp only [rg, not_and, Int.not_le] at hp
        have hp882 := hp
        obtain ⟨hc883, hE⟩ := hp882
        have hp882 : True := trivial
        rw [show (6 : Int32).toInt = 6 from by decide] at hc883
        obtain ⟨hkf, ht, hT, k892, ⟨qq884, hf885, hq886, hA887⟩, ⟨w888, hg889, k893⟩, ⟨w890, hg891, k894⟩⟩ := hE
        obtain ⟨m2, h1, hL2⟩ := g10_m hL hc883
        have hlt2 := Gr.lt kC_end (by decide) h1
        have hle2 := Gr.le kC_end (by decide) hlt2.2 hL2
        try rw [show (6 : Int32).toInt = 6 from by decide] at hp882
        refine lv_if_eq (tgt := 50) hx hb dX12_testOf_12 (by decide) (fun c => absurd c (by decide)) (fun _ => ?_)
        refine lv_aload_n hx hb dX12_testOf_15 rfl (lv_at hl 1 rfl) ?_
        refine lv_iload_n hx hb dX12_testOf_16 rfl (lv_at hl 2 rfl) ?_
        refine lv_if_eq (tgt := 28) hx hb dX12_testOf_17 (by decide) (fun c895 => ?_) (fun c895 => ?_)
        · skip
          have k896 := iv_eq (X := x1.toInt) (Y := (0)) rfl (by decide) c895
          refine lv_iconst (v := 0) hx hb dX12_testOf_28 (by decide) ?_
          refine mx_i (As := [.int 0]) (rest := []) (n := 1) (d := (31 + 4 * k)) ⟨hx, hb, hml, hown, hts⟩ (c_X12_bothOf l E D G k h0 hG0 0 ⟨by decide, by decide⟩ ff tt dd (mm + 1) m2 h1 (by omega) hpos) wd_1512 wd_1514 wp_56 wd_13 wd_1515 (by decide +kernel) ⟨by rw [hR]; show (31 + 4 * k) + 1 ≤ 32 + 4 * k; omega, by rw [hR]; show 8 + (4 + 11) + 40 * ((31 + 4 * k)) ≤ 40 * (32 + 4 * k); omega⟩ hI hN hK hS hG0 (⟨hkf, ht, hT, by omega, ⟨qq884, hf885, hq886, hA887⟩, ⟨w888, hg889, by omega⟩, ⟨w890, hg891, by omega⟩⟩) rfl hl.1 rfl (Nat.le_of_ble_eq_true rfl) dX12_testOf_29 ⟨Nat.zero_le _, Nat.zero_le _⟩ (fun r897 H locs hI hp hS => ?_)
          obtain ⟨⟨k898, k899⟩, hp0⟩ := hp
          have hp : True := trivial
          obtain ⟨hkf, ht, hT, k908, ⟨qq900, hf901, hq902, hA903⟩, ⟨w904, hg905, k909⟩, ⟨w906, hg907, k910⟩⟩ := hp0
          have hp911 := hp
          refine lv_istore_n (lv' := [(3, .int r897), (2, .int v867), (0, .ref h0), (1, .int x1)]) hx hb dX12_testOf_32 rfl hl (by decide) rfl (fun ls hl => ?_)
          refine lv_iload_n hx hb dX12_testOf_33 rfl (lv_at hl 1 rfl) ?_
          refine lv_if_ne (tgt := 41) hx hb dX12_testOf_34 (by decide) (fun c912 => ?_) (fun c912 => ?_)
          · skip
            have k913 := iv_ne (X := v867.toInt) (Y := (0)) rfl (by decide) c912
            refine lv_iconst (v := 1) hx hb dX12_testOf_41 (by decide) ?_
            refine lv_goto (tgt := 46) hx hb dX12_testOf_42 (by decide) ?_
            refine lv_istore_n (lv' := [(2, .int 1), (3, .int r897), (0, .ref h0), (1, .int x1)]) hx hb dX12_testOf_46 rfl hl (by decide) rfl (fun ls hl => ?_)
            refine lv_goto (tgt := 6) hx hb dX12_testOf_47 (by decide) ?_
            exact ih_6 _ (by omega) H locs ls 1 m2 rfl (lv_sub hl [0, 2, 3] rfl) ⟨by decide, by decide⟩ ⟨by omega, by omega⟩ (by omega) (hL2) (⟨hkf, ht, hT, by omega, ⟨qq900, hf901, hq902, hA903⟩, ⟨w904, hg905, by omega⟩, ⟨w906, hg907, by omega⟩⟩) hI hS
          · skip
            have k914 := iv_eq (X := v867.toInt) (Y := (0)) rfl (by decide) c912
            refine lv_iload_n hx hb dX12_testOf_37 rfl (lv_at hl 0 rfl) ?_
            refine lv_if_eq (tgt := 45) hx hb dX12_testOf_38 (by decide) (fun c915 => ?_) (fun c915 => ?_)
            · skip
              have k916 := iv_eq (X := r897.toInt) (Y := (0)) rfl (by decide) c915
              refine lv_iconst (v := 0) hx hb dX12_testOf_45 (by decide) ?_
              refine lv_istore_n (lv' := [(2, .int 0), (3, .int r897), (0, .ref h0), (1, .int x1)]) hx hb dX12_testOf_46 rfl hl (by decide) rfl (fun ls hl => ?_)
              refine lv_goto (tgt := 6) hx hb dX12_testOf_47 (by decide) ?_
              exact ih_6 _ (by omega) H locs ls 0 m2 rfl (lv_sub hl [0, 2, 3] rfl) ⟨by decide, by decide⟩ ⟨by omega, by omega⟩ (by omega) (hL2) (⟨hkf, ht, hT, by omega, ⟨qq900, hf901, hq902, hA903⟩, ⟨w904, hg905, by omega⟩, ⟨w906, hg907, by omega⟩⟩) hI hS
            · skip
              have k917 := iv_ne (X := r897.toInt) (Y := (0)) rfl (by decide) c915
              refine lv_iconst (v := 1) hx hb dX12_testOf_41 (by decide) ?_
              refine lv_goto (tgt := 46) hx hb dX12_testOf_42 (by decide) ?_
              refine lv_istore_n (lv' := [(2, .int 1), (3, .int r897), (0, .ref h0), (1, .int x1)]) hx hb dX12_testOf_46 rfl hl (by decide) rfl (fun ls hl => ?_)
              refine lv_goto (tgt := 6) hx hb dX12_testOf_47 (by decide) ?_
              exact ih_6 _ (by omega) H locs ls 1 m2 rfl (lv_sub hl [0, 2, 3] rfl) ⟨by decide, by decide⟩ ⟨by omega, by omega⟩ (by omega) (hL2) (⟨hkf, ht, hT, by omega, ⟨qq900, hf901, hq902, hA903⟩, ⟨w904, hg905, by omega⟩, ⟨w906, hg907, by omega⟩⟩) hI hS
        · skip
          have k918 := iv_ne (X := x1.toInt) (Y := (0)) rfl (by decide) c895
          refine lv_iload_n hx hb dX12_testOf_20 rfl (lv_at hl 0 rfl) ?_
          refine lv_if_ne (tgt := 28) hx hb dX12_testOf_21 (by decide) (fun c919 => ?_) (fun c919 => ?_)
          · skip
            have k920 := iv_ne (X := v867.toInt) (Y := (0)) rfl (by decide) c919
            refine lv_iconst (v := 0) hx hb dX12_testOf_28 (by decide) ?_
            refine mx_i (As := [.int 0]) (rest := []) (n := 1) (d := (31 + 4 * k)) ⟨hx, hb, hml, hown, hts⟩ (c_X12_bothOf l E D G k h0 hG0 0 ⟨by decide, by decide⟩ ff tt dd (mm + 1) m2 h1 (by omega) hpos) wd_1512 wd_1514 wp_56 wd_13 wd_1515 (by decide +kernel) ⟨by rw [hR]; show (31 + 4 * k) + 1 ≤ 32 + 4 * k; omega, by rw [hR]; show 8 + (4 + 11) + 40 * ((31 + 4 * k)) ≤ 40 * (32 + 4 * k); omega⟩ hI hN hK hS hG0 (⟨hkf, ht, hT, by omega, ⟨qq884, hf885, hq886, hA887⟩, ⟨w888, hg889, by omega⟩, ⟨w890, hg891, by omega⟩⟩) rfl hl.1 rfl (Nat.le_of_ble_eq_true rfl) dX12_testOf_29 ⟨Nat.zero_le _, Nat.zero_le _⟩ (fun r921 H locs hI hp hS => ?_)
            obtain ⟨⟨k922, k923⟩, hp0⟩ := hp
            have hp : True := trivial
            obtain ⟨hkf, ht, hT, k932, ⟨qq924, hf925, hq926, hA927⟩, ⟨w928, hg929, k933⟩, ⟨w930, hg931, k934⟩⟩ := hp0
            have hp935 := hp
            refine lv_istore_n (lv' := [(3, .int r921), (2, .int v867), (0, .ref h0), (1, .int x1)]) hx hb dX12_testOf_32 rfl hl (by decide) rfl (fun ls hl => ?_)
            refine lv_iload_n hx hb dX12_testOf_33 rfl (lv_at hl 1 rfl) ?_
            refine lv_if_ne (tgt := 41) hx hb dX12_testOf_34 (by decide) (fun c936 => ?_) (fun c936 => ?_)
            · skip
              have k937 := iv_ne (X := v867.toInt) (Y := (0)) rfl (by decide) c936
              refine lv_iconst (v := 1) hx hb dX12_testOf_41 (by decide) ?_
              refine lv_goto (tgt := 46) hx hb dX12_testOf_42 (by decide) ?_
              refine lv_istore_n (lv' := [(2, .int 1), (3, .int r921), (0, .ref h0), (1, .int x1)]) hx hb dX12_testOf_46 rfl hl (by decide) rfl (fun ls hl => ?_)
              refine lv_goto (tgt := 6) hx hb dX12_testOf_47 (by decide) ?_
              exact ih_6 _ (by omega) H locs ls 1 m2 rfl (lv_sub hl [0, 2, 3] rfl) ⟨by decide, by decide⟩ ⟨by omega, by omega⟩ (by omega) (hL2) (⟨hkf, ht, hT, by omega, ⟨qq924, hf925, hq926, hA927⟩, ⟨w928, hg929, by omega⟩, ⟨w930, hg931, by omega⟩⟩) hI hS
            · skip
              have k938 := iv_eq (X := v867.toInt) (Y := (0)) rfl (by decide) c936
              exfalso; omega
          · skip
            have k939 := iv_eq (X := v867.toInt) (Y := (0)) rfl (by decide) c919
            refine lv_iconst (v := 1) hx hb dX12_testOf_24 (by decide) ?_
            refine lv_goto (tgt := 29) hx hb dX12_testOf_25 (by decide) ?_
            refine mx_i (As := [.int 1]) (rest := []) (n := 1) (d := (31 + 4 * k)) ⟨hx, hb, hml, hown, hts⟩ (c_X12_bothOf l E D G k h0 hG0 1 ⟨by decide, by decide⟩ ff tt dd (mm + 1) m2 h1 (by omega) hpos) wd_1512 wd_1514 wp_56 wd_13 wd_1515 (by decide +kernel) ⟨by rw [hR]; show (31 + 4 * k) + 1 ≤ 32 + 4 * k; omega, by rw [hR]; show 8 + (4 + 11) + 40 * ((31 + 4 * k)) ≤ 40 * (32 + 4 * k); omega⟩ hI hN hK hS hG0 (⟨hkf, ht, hT, by omega, ⟨qq884, hf885, hq886, hA887⟩, ⟨w888, hg889, by omega⟩, ⟨w890, hg891, by omega⟩⟩) rfl hl.1 rfl (Nat.le_of_ble_eq_true rfl) dX12_testOf_29 ⟨Nat.zero_le _, Nat.zero_le _⟩ (fun r940 H locs hI hp hS => ?_)
            obtain ⟨⟨k941, k942⟩, hp0⟩ := hp
            have hp : True := trivial
            obtain ⟨hkf, ht, hT, k951, ⟨qq943, hf944, hq945, hA946⟩, ⟨w947, hg948, k952⟩, ⟨w949, hg950, k953⟩⟩ := hp0
            have hp954 := hp
            refine lv_istore_n (lv' := [(3, .int r940), (2, .int v867), (0, .ref h0), (1, .int x1)]) hx hb dX12_testOf_32 rfl hl (by decide) rfl (fun ls hl => ?_)
            refine lv_iload_n hx hb dX12_testOf_33 rfl (lv_at hl 1 rfl) ?_
            refine lv_if_ne (tgt := 41) hx hb dX12_testOf_34 (by decide) (fun c955 => ?_) (fun c955 => ?_)
            · skip
              have k956 := iv_ne (X := v867.toInt) (Y := (0)) rfl (by decide) c955
              exfalso; omega
            · skip
              have k957 := iv_eq (X := v867.toInt) (Y := (0)) rfl (by decide) c955
              refine lv_iload_n hx hb dX12_testOf_37 rfl (lv_at hl 0 rfl) ?_
              refine lv_if_eq (tgt := 45) hx hb dX12_testOf_38 (by decide) (fun c958 => ?_) (fun c958 => ?_)
              · skip
                have k959 := iv_eq (X := r940.toInt) (Y := (0)) rfl (by decide) c958
                refine lv_iconst (v := 0) hx hb dX12_testOf_45 (by decide) ?_
                refine lv_istore_n (lv' := [(2, .int 0), (3, .int r940), (0, .ref h0), (1, .int x1)]) hx hb dX12_testOf_46 rfl hl (by decide) rfl (fun ls hl => ?_)
                refine lv_goto (tgt := 6) hx hb dX12_testOf_47 (by decide) ?_
                exact ih_6 _ (by omega) H locs ls 0 m2 rfl (lv_sub hl [0, 2, 3] rfl) ⟨by decide, by decide⟩ ⟨by omega, by omega⟩ (by omega) (hL2) (⟨hkf, ht, hT, by omega, ⟨qq943, hf944, hq945, hA946⟩, ⟨w947, hg948, by omega⟩, ⟨w949, hg950, by omega⟩⟩) hI hS
              · skip
                have k960 := iv_ne (X := r940.toInt) (Y := (0)) rfl (by decide) c958
                refine lv_iconst (v := 1) hx hb dX12_testOf_41 (by decide) ?_
                refine lv_goto (tgt := 46) hx hb dX12_testOf_42 (by decide) ?_
                refine lv_istore_n (lv' := [(2, .int 1), (3, .int r940), (0, .ref h0), (1, .int x1)]) hx hb dX12_testOf_46 rfl hl (by decide) rfl (fun ls hl => ?_)
                refine lv_goto (tgt := 6) hx hb dX12_testOf_47 (by decide) ?_
                exact ih_6 _ (by omega) H locs ls 1 m2 rfl (lv_sub hl [0, 2, 3] rfl) ⟨by decide, by decide⟩ ⟨by omega, by omega⟩ (by omega) (hL2) (⟨hkf, ht, hT, by omega, ⟨qq943, hf944, hq945, hA946⟩, ⟨w947, hg948, by omega⟩, ⟨w949, hg950, by omega⟩⟩) hI hS
      · skip
        try simp only [rg, not_and, Int.not_le] at hp
        have hp961 := hp
        obtain ⟨hc962, hE⟩ := hp961
        have hp961 : True := trivial
        rw [show (6 : Int32).toInt = 6 from by decide] at hc962
        obtain ⟨hkf, ht, hT, k971, ⟨qq963, hf964, hq965, hA966⟩, ⟨w967, hg968, k972⟩, ⟨w969, hg970, k973⟩⟩ := hE
        have hqm : qq = mm := g10_x hL hc962
        try rw [show (6 : Int32).toInt = 6 from by decide] at hp961
        refine lv_if_eq (tgt := 50) hx hb dX12_testOf_12 (by decide) (fun _ => ?_) (fun c => absurd c (by decide))
        refine lv_iload_n hx hb dX12_testOf_50 rfl (lv_at hl 0 rfl) ?_
        have hpost : (0 ≤ (v867 : Int32).toInt ∧ (v867 : Int32).toInt ≤ 1) ∧ EV E D G h0 ff tt qq H := ⟨by first | decide | omega, ⟨hkf, ht, hT, by omega, ⟨qq963, hf964, hq965, hA966⟩, ⟨w967, hg968, by omega⟩, ⟨w969, hg970, by omega⟩⟩⟩
        rw [hQ]
        exact W.zret (v := v867) hx hb hr (th_zn (by omega)) (fun t ht hW => ⟨⟨v867, v867, rfl, rfl, ⟨by rw [ht]; exact hI, hN.warm hW, va_K.moved hW.alike hK⟩, by first | (rw [ht]; exact hpost) | exact hpost⟩, hS.F ht⟩) hS.2.2 dX12_testOf_51
  refine lv_aload_n hx hb dX12_testOf_0 rfl (lv_at hl 0 rfl) ?_
  refine lv_iload_n hx hb dX12_testOf_1 rfl (lv_at hl 1 rfl) ?_
  refine mx_i (As := [.int x1]) (rest := []) (n := 1) (d := (31 + 4 * k)) ⟨hx, hb, hml, hown, hts⟩ (c_X12_bothOf l E D G k h0 hG0 x1 ⟨by omega, by omega⟩ ff tt dd pp m0 h00 (by omega) hpos) wd_1512 wd_1514 wp_56 wd_13 wd_1515 (by decide +kernel) ⟨by rw [hR]; show (31 + 4 * k) + 1 ≤ 32 + 4 * k; omega, by rw [hR]; show 8 + (4 + 11) + 40 * ((31 + 4 * k)) ≤ 40 * (32 + 4 * k); omega⟩ hI hN hK hS hG0 (⟨hkf, ht, hT, by omega, ⟨qq1, hf2, hq3, hA4⟩, ⟨w5, hg6, by omega⟩, ⟨w7, hg8, by omega⟩⟩) rfl hl.1 rfl (Nat.le_of_ble_eq_true rfl) dX12_testOf_2 ⟨Nat.zero_le _, Nat.zero_le _⟩ (fun r974 H locs hI hp hS => ?_)
  obtain ⟨⟨k975, k976⟩, hp0⟩ := hp
  have hp : True := trivial
  obtain ⟨hkf, ht, hT, k985, ⟨qq977, hf978, hq979, hA980⟩, ⟨w981, hg982, k986⟩, ⟨w983, hg984, k987⟩⟩ := hp0
  have hp988 := hp
  refine lv_istore_n (lv' := [(2, .int r974), (0, .ref h0), (1, .int x1)]) hx hb dX12_testOf_5 rfl hl (by decide) rfl (fun ls hl => ?_)
  exact J_6 _ H locs ls r974 m0 rfl (lv_sub hl [0, 1, 2] rfl) ⟨by omega, by omega⟩ ⟨by omega, by omega⟩ (by omega) (h07) (⟨hkf, ht, hT, by omega, ⟨qq977, hf978, hq979, hA980⟩, ⟨w981, hg982, by omega⟩, ⟨w983, hg984, by omega⟩⟩) hI hS
theorem dX12_positiveOf_0g : (decode cX12_positiveOf 0 = .ok (.aload_n 0, 1)) ∧ (decode cX12_positiveOf 1 = .ok (.bipush 40, 2)) ∧ (decode cX12_positiveOf 3 = .ok (.invokestatic 194, 3)) ∧ (decode cX12_positiveOf 6 = .ok (.invokevirtual 244, 3)) ∧ (decode cX12_positiveOf 9 = .ok (.ifCond .eq 21, 3)) ∧ (decode cX12_positiveOf 12 = .ok (.aload_n 0, 1)) ∧ (decode cX12_positiveOf 13 = .ok (.iload_n 1, 1)) ∧ (decode cX12_positiveOf 14 = .ok (.invokevirtual 260, 3)) ∧ (decode cX12_positiveOf 17 = .ok (.istore_n 2, 1)) ∧ (decode cX12_positiveOf 18 = .ok (.aload_n 0, 1)) := by decide +kernel
theorem dX12_positiveOf_0 : decode cX12_positiveOf 0 = .ok (.aload_n 0, 1) := dX12_positiveOf_0g.1
theorem dX12_positiveOf_1 : decode cX12_positiveOf 1 = .ok (.bipush 40, 2) := dX12_positiveOf_0g.2.1
theorem dX12_positiveOf_3 : decode cX12_positiveOf 3 = .ok (.invokestatic 194, 3) := dX12_positiveOf_0g.2.2.1
theorem dX12_positiveOf_6 : decode cX12_positiveOf 6 = .ok (.invokevirtual 244, 3) := dX12_positiveOf_0g.2.2.2.1
theorem dX12_positiveOf_9 : decode cX12_positiveOf 9 = .ok (.ifCond .eq 21, 3) := dX12_positiveOf_0g.2.2.2.2.1
theorem dX12_positiveOf_12 : decode cX12_positiveOf 12 = .ok (.aload_n 0, 1) := dX12_positiveOf_0g.2.2.2.2.2.1
theorem dX12_positiveOf_13 : decode cX12_positiveOf 13 = .ok (.iload_n 1, 1) := dX12_positiveOf_0g.2.2.2.2.2.2.1
theorem dX12_positiveOf_14 : decode cX12_positiveOf 14 = .ok (.invokevirtual 260, 3) := dX12_positiveOf_0g.2.2.2.2.2.2.2.1
theorem dX12_positiveOf_17 : decode cX12_positiveOf 17 = .ok (.istore_n 2, 1) := dX12_positiveOf_0g.2.2.2.2.2.2.2.2.1
theorem dX12_positiveOf_18 : decode cX12_positiveOf 18 = .ok (.aload_n 0, 1) := dX12_positiveOf_0g.2.2.2.2.2.2.2.2.2
theorem dX12_positiveOf_19g : (decode cX12_positiveOf 19 = .ok (.dup, 1)) ∧ (decode cX12_positiveOf 20 = .ok (.getfield 219, 3)) ∧ (decode cX12_positiveOf 23 = .ok (.iconst 1, 1)) ∧ (decode cX12_positiveOf 24 = .ok (.iadd, 1)) ∧ (decode cX12_positiveOf 25 = .ok (.putfield 219, 3)) ∧ (decode cX12_positiveOf 28 = .ok (.iload_n 2, 1)) ∧ (decode cX12_positiveOf 29 = .ok (.ireturn, 1)) ∧ (decode cX12_positiveOf 30 = .ok (.aload_n 0, 1)) ∧ (decode cX12_positiveOf 31 = .ok (.iload_n 1, 1)) ∧ (decode cX12_positiveOf 32 = .ok (.invokevirtual 247, 3)) := by decide +kernel
theorem dX12_positiveOf_19 : decode cX12_positiveOf 19 = .ok (.dup, 1) := dX12_positiveOf_19g.1
theorem dX12_positiveOf_20 : decode cX12_positiveOf 20 = .ok (.getfield 219, 3) := dX12_positiveOf_19g.2.1
theorem dX12_positiveOf_23 : decode cX12_positiveOf 23 = .ok (.iconst 1, 1) := dX12_positiveOf_19g.2.2.1
theorem dX12_positiveOf_24 : decode cX12_positiveOf 24 = .ok (.iadd, 1) := dX12_positiveOf_19g.2.2.2.1
theorem dX12_positiveOf_25 : decode cX12_positiveOf 25 = .ok (.putfield 219, 3) := dX12_positiveOf_19g.2.2.2.2.1
theorem dX12_positiveOf_28 : decode cX12_positiveOf 28 = .ok (.iload_n 2, 1) := dX12_positiveOf_19g.2.2.2.2.2.1
theorem dX12_positiveOf_29 : decode cX12_positiveOf 29 = .ok (.ireturn, 1) := dX12_positiveOf_19g.2.2.2.2.2.2.1
theorem dX12_positiveOf_30 : decode cX12_positiveOf 30 = .ok (.aload_n 0, 1) := dX12_positiveOf_19g.2.2.2.2.2.2.2.1
theorem dX12_positiveOf_31 : decode cX12_positiveOf 31 = .ok (.iload_n 1, 1) := dX12_positiveOf_19g.2.2.2.2.2.2.2.2.1
theorem dX12_positiveOf_32 : decode cX12_positiveOf 32 = .ok (.invokevirtual 247, 3) := dX12_positiveOf_19g.2.2.2.2.2.2.2.2.2
theorem dX12_positiveOf_35g : (decode cX12_positiveOf 35 = .ok (.lstore_n 2, 1)) ∧ (decode cX12_positiveOf 36 = .ok (.aload_n 0, 1)) ∧ (decode cX12_positiveOf 37 = .ok (.aload_n 0, 1)) ∧ (decode cX12_positiveOf 38 = .ok (.getfield 219, 3)) ∧ (decode cX12_positiveOf 41 = .ok (.invokevirtual 222, 3)) ∧ (decode cX12_positiveOf 44 = .ok (.istore 4, 2)) ∧ (decode cX12_positiveOf 46 = .ok (.aload_n 0, 1)) ∧ (decode cX12_positiveOf 47 = .ok (.dup, 1)) ∧ (decode cX12_positiveOf 48 = .ok (.getfield 219, 3)) ∧ (decode cX12_positiveOf 51 = .ok (.iconst 1, 1)) := by decide +kernel
theorem dX12_positiveOf_35 : decode cX12_positiveOf 35 = .ok (.lstore_n 2, 1) := dX12_positiveOf_35g.1
theorem dX12_positiveOf_36 : decode cX12_positiveOf 36 = .ok (.aload_n 0, 1) := dX12_positiveOf_35g.2.1
theorem dX12_positiveOf_37 : decode cX12_positiveOf 37 = .ok (.aload_n 0, 1) := dX12_positiveOf_35g.2.2.1
theorem dX12_positiveOf_38 : decode cX12_positiveOf 38 = .ok (.getfield 219, 3) := dX12_positiveOf_35g.2.2.2.1
theorem dX12_positiveOf_41 : decode cX12_positiveOf 41 = .ok (.invokevirtual 222, 3) := dX12_positiveOf_35g.2.2.2.2.1
theorem dX12_positiveOf_44 : decode cX12_positiveOf 44 = .ok (.istore 4, 2) := dX12_positiveOf_35g.2.2.2.2.2.1
theorem dX12_positiveOf_46 : decode cX12_positiveOf 46 = .ok (.aload_n 0, 1) := dX12_positiveOf_35g.2.2.2.2.2.2.1
theorem dX12_positiveOf_47 : decode cX12_positiveOf 47 = .ok (.dup, 1) := dX12_positiveOf_35g.2.2.2.2.2.2.2.1
theorem dX12_positiveOf_48 : decode cX12_positiveOf 48 = .ok (.getfield 219, 3) := dX12_positiveOf_35g.2.2.2.2.2.2.2.2.1
theorem dX12_positiveOf_51 : decode cX12_positiveOf 51 = .ok (.iconst 1, 1) := dX12_positiveOf_35g.2.2.2.2.2.2.2.2.2
theorem dX12_positiveOf_52g : (decode cX12_positiveOf 52 = .ok (.iadd, 1)) ∧ (decode cX12_positiveOf 53 = .ok (.putfield 219, 3)) ∧ (decode cX12_positiveOf 56 = .ok (.aload_n 0, 1)) ∧ (decode cX12_positiveOf 57 = .ok (.iload_n 1, 1)) ∧ (decode cX12_positiveOf 58 = .ok (.invokevirtual 247, 3)) ∧ (decode cX12_positiveOf 61 = .ok (.lstore 5, 2)) ∧ (decode cX12_positiveOf 63 = .ok (.iload_n 1, 1)) ∧ (decode cX12_positiveOf 64 = .ok (.ifCond .eq 61, 3)) ∧ (decode cX12_positiveOf 67 = .ok (.aload_n 0, 1)) ∧ (decode cX12_positiveOf 68 = .ok (.getfield 229, 3)) := by decide +kernel
theorem dX12_positiveOf_52 : decode cX12_positiveOf 52 = .ok (.iadd, 1) := dX12_positiveOf_52g.1
theorem dX12_positiveOf_53 : decode cX12_positiveOf 53 = .ok (.putfield 219, 3) := dX12_positiveOf_52g.2.1
theorem dX12_positiveOf_56 : decode cX12_positiveOf 56 = .ok (.aload_n 0, 1) := dX12_positiveOf_52g.2.2.1
theorem dX12_positiveOf_57 : decode cX12_positiveOf 57 = .ok (.iload_n 1, 1) := dX12_positiveOf_52g.2.2.2.1
theorem dX12_positiveOf_58 : decode cX12_positiveOf 58 = .ok (.invokevirtual 247, 3) := dX12_positiveOf_52g.2.2.2.2.1
theorem dX12_positiveOf_61 : decode cX12_positiveOf 61 = .ok (.lstore 5, 2) := dX12_positiveOf_52g.2.2.2.2.2.1
theorem dX12_positiveOf_63 : decode cX12_positiveOf 63 = .ok (.iload_n 1, 1) := dX12_positiveOf_52g.2.2.2.2.2.2.1
theorem dX12_positiveOf_64 : decode cX12_positiveOf 64 = .ok (.ifCond .eq 61, 3) := dX12_positiveOf_52g.2.2.2.2.2.2.2.1
theorem dX12_positiveOf_67 : decode cX12_positiveOf 67 = .ok (.aload_n 0, 1) := dX12_positiveOf_52g.2.2.2.2.2.2.2.2.1
theorem dX12_positiveOf_68 : decode cX12_positiveOf 68 = .ok (.getfield 229, 3) := dX12_positiveOf_52g.2.2.2.2.2.2.2.2.2
theorem dX12_positiveOf_71g : (decode cX12_positiveOf 71 = .ok (.ifCond .ne 54, 3)) ∧ (decode cX12_positiveOf 74 = .ok (.iload 4, 2)) ∧ (decode cX12_positiveOf 76 = .ok (.bipush 60, 2)) ∧ (decode cX12_positiveOf 78 = .ok (.invokestatic 194, 3)) ∧ (decode cX12_positiveOf 81 = .ok (.if_icmp .ne 13, 3)) ∧ (decode cX12_positiveOf 84 = .ok (.lload_n 2, 1)) ∧ (decode cX12_positiveOf 85 = .ok (.lload 5, 2)) ∧ (decode cX12_positiveOf 87 = .ok (.lcmp, 1)) ∧ (decode cX12_positiveOf 88 = .ok (.ifCond .ge 37, 3)) ∧ (decode cX12_positiveOf 91 = .ok (.goto 30, 3)) := by decide +kernel
theorem dX12_positiveOf_71 : decode cX12_positiveOf 71 = .ok (.ifCond .ne 54, 3) := dX12_positiveOf_71g.1
theorem dX12_positiveOf_74 : decode cX12_positiveOf 74 = .ok (.iload 4, 2) := dX12_positiveOf_71g.2.1
theorem dX12_positiveOf_76 : decode cX12_positiveOf 76 = .ok (.bipush 60, 2) := dX12_positiveOf_71g.2.2.1
theorem dX12_positiveOf_78 : decode cX12_positiveOf 78 = .ok (.invokestatic 194, 3) := dX12_positiveOf_71g.2.2.2.1
theorem dX12_positiveOf_81 : decode cX12_positiveOf 81 = .ok (.if_icmp .ne 13, 3) := dX12_positiveOf_71g.2.2.2.2.1
theorem dX12_positiveOf_84 : decode cX12_positiveOf 84 = .ok (.lload_n 2, 1) := dX12_positiveOf_71g.2.2.2.2.2.1
theorem dX12_positiveOf_85 : decode cX12_positiveOf 85 = .ok (.lload 5, 2) := dX12_positiveOf_71g.2.2.2.2.2.2.1
theorem dX12_positiveOf_87 : decode cX12_positiveOf 87 = .ok (.lcmp, 1) := dX12_positiveOf_71g.2.2.2.2.2.2.2.1
theorem dX12_positiveOf_88 : decode cX12_positiveOf 88 = .ok (.ifCond .ge 37, 3) := dX12_positiveOf_71g.2.2.2.2.2.2.2.2.1
theorem dX12_positiveOf_91 : decode cX12_positiveOf 91 = .ok (.goto 30, 3) := dX12_positiveOf_71g.2.2.2.2.2.2.2.2.2
theorem dX12_positiveOf_94g : (decode cX12_positiveOf 94 = .ok (.iload 4, 2)) ∧ (decode cX12_positiveOf 96 = .ok (.bipush 62, 2)) ∧ (decode cX12_positiveOf 98 = .ok (.invokestatic 194, 3)) ∧ (decode cX12_positiveOf 101 = .ok (.if_icmp .ne 13, 3)) ∧ (decode cX12_positiveOf 104 = .ok (.lload_n 2, 1)) ∧ (decode cX12_positiveOf 105 = .ok (.lload 5, 2)) ∧ (decode cX12_positiveOf 107 = .ok (.lcmp, 1)) ∧ (decode cX12_positiveOf 108 = .ok (.ifCond .le 17, 3)) ∧ (decode cX12_positiveOf 111 = .ok (.goto 10, 3)) ∧ (decode cX12_positiveOf 114 = .ok (.lload_n 2, 1)) := by decide +kernel
theorem dX12_positiveOf_94 : decode cX12_positiveOf 94 = .ok (.iload 4, 2) := dX12_positiveOf_94g.1
theorem dX12_positiveOf_96 : decode cX12_positiveOf 96 = .ok (.bipush 62, 2) := dX12_positiveOf_94g.2.1
theorem dX12_positiveOf_98 : decode cX12_positiveOf 98 = .ok (.invokestatic 194, 3) := dX12_positiveOf_94g.2.2.1
theorem dX12_positiveOf_101 : decode cX12_positiveOf 101 = .ok (.if_icmp .ne 13, 3) := dX12_positiveOf_94g.2.2.2.1
theorem dX12_positiveOf_104 : decode cX12_positiveOf 104 = .ok (.lload_n 2, 1) := dX12_positiveOf_94g.2.2.2.2.1
theorem dX12_positiveOf_105 : decode cX12_positiveOf 105 = .ok (.lload 5, 2) := dX12_positiveOf_94g.2.2.2.2.2.1
theorem dX12_positiveOf_107 : decode cX12_positiveOf 107 = .ok (.lcmp, 1) := dX12_positiveOf_94g.2.2.2.2.2.2.1
theorem dX12_positiveOf_108 : decode cX12_positiveOf 108 = .ok (.ifCond .le 17, 3) := dX12_positiveOf_94g.2.2.2.2.2.2.2.1
theorem dX12_positiveOf_111 : decode cX12_positiveOf 111 = .ok (.goto 10, 3) := dX12_positiveOf_94g.2.2.2.2.2.2.2.2.1
theorem dX12_positiveOf_114 : decode cX12_positiveOf 114 = .ok (.lload_n 2, 1) := dX12_positiveOf_94g.2.2.2.2.2.2.2.2.2
theorem dX12_positiveOf_115g : (decode cX12_positiveOf 115 = .ok (.lload 5, 2)) ∧ (decode cX12_positiveOf 117 = .ok (.lcmp, 1)) ∧ (decode cX12_positiveOf 118 = .ok (.ifCond .ne 7, 3)) ∧ (decode cX12_positiveOf 121 = .ok (.iconst 1, 1)) ∧ (decode cX12_positiveOf 122 = .ok (.goto 4, 3)) ∧ (decode cX12_positiveOf 125 = .ok (.iconst 0, 1)) ∧ (decode cX12_positiveOf 126 = .ok (.ireturn, 1)) := by decide +kernel
theorem dX12_positiveOf_115 : decode cX12_positiveOf 115 = .ok (.lload 5, 2) := dX12_positiveOf_115g.1
theorem dX12_positiveOf_117 : decode cX12_positiveOf 117 = .ok (.lcmp, 1) := dX12_positiveOf_115g.2.1
theorem dX12_positiveOf_118 : decode cX12_positiveOf 118 = .ok (.ifCond .ne 7, 3) := dX12_positiveOf_115g.2.2.1
theorem dX12_positiveOf_121 : decode cX12_positiveOf 121 = .ok (.iconst 1, 1) := dX12_positiveOf_115g.2.2.2.1
theorem dX12_positiveOf_122 : decode cX12_positiveOf 122 = .ok (.goto 4, 3) := dX12_positiveOf_115g.2.2.2.2.1
theorem dX12_positiveOf_125 : decode cX12_positiveOf 125 = .ok (.iconst 0, 1) := dX12_positiveOf_115g.2.2.2.2.2.1
theorem dX12_positiveOf_126 : decode cX12_positiveOf 126 = .ok (.ireturn, 1) := dX12_positiveOf_115g.2.2.2.2.2.2
set_option maxHeartbeats 4000000 in
set_option maxRecDepth 100000 in
theorem c_X12_positiveOf (l : Launch) (E : Nat → Nat) (D : va_G) (G : th_G) (k : Nat) : ∀ (h0 : Nat) (hG0 : G h0 = some (10, 0)) (x1 : Int32) (hx1 : (0 : Int) ≤ x1.toInt ∧ x1.toInt ≤ 1) (ff : Nat → Int32) (tt dd pp qq : Nat) (hgr : Gr (kC ff tt) 6 dd pp qq) (hk : 8 ≤ dd + k), Met l yX12_positiveOf (tb (.code yX12_positiveOf cX12_positiveOf 7 (some .boolean))) (rm (29 + 4 * k)) (va_Pc [.ref h0, .int x1] (PX E D G (fun H => EV E D G h0 ff tt pp H))) (QXi E D G (fun r H => (0 ≤ (r : Int32).toInt ∧ (r : Int32).toInt ≤ 1) ∧ EV E D G h0 ff tt qq H)) 0 0 (th_A G) := by
  induction k using Nat.strongRecOn with
  | ind k ih =>
  intro h0 hG0 x1 hx1 ff tt dd pp qq hgr hk
  refine Met.ofW (cc := cX12_positiveOf) (maxL := 7) (ret := (some .boolean)) (by decide) rfl ?_
  intro p e s m args below meth c s₁ B hml hv
  obtain ⟨hav, ⟨hI, hN, hK⟩, hX⟩ := hv
  have hx := B.exec
  have hb := B.bytes
  have hr := B.returns
  have hts := atoms_spec (ws := tb (.code yX12_positiveOf cX12_positiveOf 7 (some .boolean))) B.pre
  have hown : s.vm.findClass RX12 = some m.cls := findClass_of_methodNamed B.named
  have hlocks := B.notSynchronized
  have hS : va_S (th_A G) s.heap s.heap [] := va_S.rf
  have hl := lv_entry ([.ref h0, .int x1]) (n := 7) (Nat.le_of_ble_eq_true rfl)
  rw [show entryFrame m args 7 = entryFrame m ([.ref h0, .int x1] : List Value).toArray 7 from by rw [hav], lg_entry_eq]
  generalize (lg_sl ([.ref h0, .int x1]) ++ List.replicate (7 - (lg_sl ([.ref h0, .int x1])).length) Slot.unset).toArray = ls at hl ⊢
  have hl : lv_has ls 7 [(0, .ref h0), (1, .int x1)] := hl
  generalize hR : (headSpec (tb (.code yX12_positiveOf cX12_positiveOf 7 (some .boolean))) (rm (29 + 4 * k))).room = R
  have hR := hR.symm
  generalize hQ : MQ below (QXi E D G (fun r H => (0 ≤ (r : Int32).toInt ∧ (r : Int32).toInt ≤ 1) ∧ EV E D G h0 ff tt qq H)) args s 0 0 (th_A G) = QF
  have hQ := hQ.symm
  obtain ⟨hkf, ht, hT, k9, ⟨qq1, hf2, hq3, hA4⟩, ⟨w5, hg6, k10⟩, ⟨w7, hg8, k11⟩⟩ := hX
  have hlt := Gr.lt kC_end (by decide) hgr
  refine lv_aload_n hx hb dX12_positiveOf_0 rfl (lv_at hl 0 rfl) ?_
  refine lv_bipush (v := 40) hx hb dX12_positiveOf_1 (by decide) ?_
  refine th_cSs (As := [.int 40]) (rest := [.ref h0]) (n := 1) (d := 0) ⟨hx, hb, hml, hown, hts⟩ (c_X12_sign l s.heap 40) wd_1495 wd_1496 wd_13 wd_1497 (by decide +kernel) ⟨by rw [hR]; show 0 + 1 ≤ 29 + 4 * k; omega, by rw [hR]; show 8 + (1 + 11) + 40 * (0) ≤ 40 * (29 + 4 * k); omega⟩ hN hS rfl hl.1 rfl (Nat.le_of_ble_eq_true rfl) dX12_positiveOf_3 ⟨Nat.zero_le _, Nat.zero_le _⟩ (fun r12 locs hp hS => ?_)
  obtain rfl : r12 = 140 := hp.trans (by decide)
  refine mx_i (As := [.int 140]) (rest := []) (n := 1) (d := 1) ⟨hx, hb, hml, hown, hts⟩ (c_X12_passes0 l E D G h0 hG0 140 ff tt pp (by omega)) wd_1498 wd_1500 wp_53 wd_13 wd_1501 (by decide +kernel) ⟨by rw [hR]; show 1 + 1 ≤ 29 + 4 * k; omega, by rw [hR]; show 8 + (3 + 11) + 40 * (1) ≤ 40 * (29 + 4 * k); omega⟩ hI hN hK hS hG0 (⟨hkf, ht, hT, by omega, ⟨qq1, hf2, hq3, hA4⟩, ⟨w5, hg6, by omega⟩, ⟨w7, hg8, by omega⟩⟩) rfl hl.1 rfl (Nat.le_of_ble_eq_true rfl) dX12_positiveOf_6 ⟨Nat.zero_le _, Nat.zero_le _⟩ (fun r13 H locs hI hp hS => ?_)
  rcases hp with ⟨rfl, hp⟩ | ⟨rfl, hp⟩
  · skip
    try simp only [rg, not_and, Int.not_le] at hp
    have hp14 := hp
    obtain ⟨hc15, hE⟩ := hp14
    have hp14 : True := trivial
    rw [show (140 : Int32).toInt = 140 from by decide] at hc15
    obtain ⟨hkf, ht, hT, k24, ⟨qq16, hf17, hq18, hA19⟩, ⟨w20, hg21, k25⟩, ⟨w22, hg23, k26⟩⟩ := hE
    obtain ⟨hd8, mm, h2, hm, hqm⟩ := g6_br hgr hc15
    have hl2 := Gr.lt kC_end (by decide) h2
    try rw [show (140 : Int32).toInt = 140 from by decide] at hp14
    refine lv_if_eq (tgt := 30) hx hb dX12_positiveOf_9 (by decide) (fun c => absurd c (by decide)) (fun _ => ?_)
    refine lv_aload_n hx hb dX12_positiveOf_12 rfl (lv_at hl 0 rfl) ?_
    refine lv_iload_n hx hb dX12_positiveOf_13 rfl (lv_at hl 1 rfl) ?_
    refine mx_i (As := [.int x1]) (rest := []) (n := 1) (d := (32 + 4 * (k - 1))) ⟨hx, hb, hml, hown, hts⟩ (c_X12_testOf l E D G (k - 1) h0 hG0 x1 ⟨by omega, by omega⟩ ff tt (dd + 1) (pp + 1) mm h2 (by omega) (ih (k - 1) (by omega))) wd_1508 wd_1510 wp_55 wd_13 wd_1511 (by decide +kernel) ⟨by rw [hR]; show (32 + 4 * (k - 1)) + 1 ≤ 29 + 4 * k; omega, by rw [hR]; show 8 + (4 + 11) + 40 * ((32 + 4 * (k - 1))) ≤ 40 * (29 + 4 * k); omega⟩ hI hN hK hS hG0 (⟨hkf, ht, hT, by omega, ⟨qq16, hf17, hq18, hA19⟩, ⟨w20, hg21, by omega⟩, ⟨w22, hg23, by omega⟩⟩) rfl hl.1 rfl (Nat.le_of_ble_eq_true rfl) dX12_positiveOf_14 ⟨Nat.zero_le _, Nat.zero_le _⟩ (fun r27 H locs hI hp hS => ?_)
    obtain ⟨⟨k28, k29⟩, hp0⟩ := hp
    have hp : True := trivial
    obtain ⟨hkf, ht, hT, k38, ⟨qq30, hf31, hq32, hA33⟩, ⟨w34, hg35, k39⟩, ⟨w36, hg37, k40⟩⟩ := hp0
    have hp41 := hp
    refine lv_istore_n (lv' := [(2, .int r27), (0, .ref h0), (1, .int x1)]) hx hb dX12_positiveOf_17 rfl hl (by decide) rfl (fun ls hl => ?_)
    refine lv_aload_n hx hb dX12_positiveOf_18 rfl (lv_at hl 1 rfl) ?_
    refine lv_dup hx hb dX12_positiveOf_19 rfl ?_
    refine gmI hx hb hts inT12 hown hK hI List.not_mem_nil hG0 19 (by decide) (hts _ (tb_c wd_1252)) rfl rfl dX12_positiveOf_20 (fun w42 hg43 k44 k45 => ?_)
    obtain rfl := gf.uniq (by decide) hg35 hg43
    refine lv_iconst (v := 1) hx hb dX12_positiveOf_23 (by decide) ?_
    refine lv_iadd hx hb dX12_positiveOf_24 ?_
    refine lv_topi (fun v46 e47 => ?_)
    have tv46 : v46.toInt = w34.toInt + (1) := iv_add rfl (by decide) e47 (by omega) (by omega)
    refine pmI (ty := .int) hx hb hts inT12 hown hK hI List.not_mem_nil hG0 hS ⟨_, hG0⟩ 19 (by decide) (hts _ (tb_c wd_1252)) rfl rfl (by decide +kernel) rfl rfl rfl (by omega) (by omega) dX12_positiveOf_25 (fun H locs hI hgP hS => ?_)
    have hg37 := hgP.2.2.1 20 _ (by decide) (by decide) hg37
    have hg48 := hgP.2.1
    have hf31 := hgP.2.2.2 3 _ (by decide) (by decide) hf31
    have hA33 := va_at.kept hA33 (hgP.1 _ (m_ne hq32 hG0 (by first | decide | (dsimp only; decide))))
    refine lv_iload_n hx hb dX12_positiveOf_28 rfl (lv_at hl 0 rfl) ?_
    have hpost : (0 ≤ (r27 : Int32).toInt ∧ (r27 : Int32).toInt ≤ 1) ∧ EV E D G h0 ff tt qq H := ⟨by first | decide | omega, ⟨hkf, ht, hT, by omega, ⟨qq30, hf31, hq32, hA33⟩, ⟨v46, hg48, by omega⟩, ⟨w36, hg37, by omega⟩⟩⟩
    rw [hQ]
    exact W.zret (v := r27) hx hb hr (th_zn (by omega)) (fun t ht hW => ⟨⟨r27, r27, rfl, rfl, ⟨by rw [ht]; exact hI, hN.warm hW, va_K.moved hW.alike hK⟩, by first | (rw [ht]; exact hpost) | exact hpost⟩, hS.F ht⟩) hS.2.2 dX12_positiveOf_29
  · skip
    try simp only [rg, not_and, Int.not_le] at hp
    have hp49 := hp
    obtain ⟨hc50, hE⟩ := hp49
    have hp49 : True := trivial
    rw [show (140 : Int32).toInt = 140 from by decide] at hc50
    obtain ⟨hkf, ht, hT, k59, ⟨qq51, hf52, hq53, hA54⟩, ⟨w55, hg56, k60⟩, ⟨w57, hg58, k61⟩⟩ := hE
    obtain ⟨mm, h2, hm, h3⟩ := g6_x hgr hc50
    have hl2 := Gr.lt kC_end (by decide) h2
    have hl3 := Gr.lt kC_end (by decide) h3
    try rw [show (140 : Int32).toInt = 140 from by decide] at hp49
    refine lv_if_eq (tgt := 30) hx hb dX12_positiveOf_9 (by decide) (fun _ => ?_) (fun c => absurd c (by decide))
    refine lv_aload_n hx hb dX12_positiveOf_30 rfl (lv_at hl 0 rfl) ?_
    refine lv_iload_n hx hb dX12_positiveOf_31 rfl (lv_at hl 1 rfl) ?_
    refine mx_l (As := [.int x1]) (rest := []) (n := 1) (d := 28) ⟨hx, hb, hml, hown, hts⟩ (c_X12_sumOf l E D G 8 h0 hG0 x1 ⟨by omega, by omega⟩ ff tt dd pp mm h2 (by omega) (c_X12_partOf l E D G 8)) wd_1483 wd_1485 wp_50 wd_13 wd_1486 (by decide +kernel) ⟨by rw [hR]; show 28 + 1 ≤ 29 + 4 * k; omega, by rw [hR]; show 8 + (7 + 11) + 40 * (28) ≤ 40 * (29 + 4 * k); omega⟩ hI hN hK hS hG0 (⟨hkf, ht, hT, by omega, ⟨qq51, hf52, hq53, hA54⟩, ⟨w55, hg56, by omega⟩, ⟨w57, hg58, by omega⟩⟩) rfl hl.1 rfl (Nat.le_of_ble_eq_true rfl) dX12_positiveOf_32 ⟨Nat.zero_le _, Nat.zero_le _⟩ (fun r62 H locs hI hp hS => ?_)
    have hp0 := hp
    obtain ⟨hkf, ht, hT, k71, ⟨qq63, hf64, hq65, hA66⟩, ⟨w67, hg68, k72⟩, ⟨w69, hg70, k73⟩⟩ := hp0
    refine lv_lstore_n (lv' := [(2, .long r62), (0, .ref h0), (1, .int x1)]) hx hb dX12_positiveOf_35 rfl hl (by decide) rfl (fun ls hl => ?_)
    refine lv_aload_n hx hb dX12_positiveOf_36 rfl (lv_at hl 1 rfl) ?_
    refine lv_aload_n hx hb dX12_positiveOf_37 rfl (lv_at hl 1 rfl) ?_
    refine gmI hx hb hts inT12 hown hK hI List.not_mem_nil hG0 19 (by decide) (hts _ (tb_c wd_1252)) rfl rfl dX12_positiveOf_38 (fun w74 hg75 k76 k77 => ?_)
    obtain rfl := gf.uniq (by decide) hg68 hg75
    refine mr_i (As := [.int w67]) (rest := []) (n := 1) (d := 0) ⟨hx, hb, hml, hown, hts⟩ (c_X12_codeAt l E D G H h0 hG0 w67 ⟨by omega, by omega⟩ ff tt mm mm ⟨hkf, ht, hT, by omega, ⟨qq63, hf64, hq65, hA66⟩, ⟨w67, hg68, by omega⟩, ⟨w69, hg70, by omega⟩⟩ (by omega)) wd_1479 wd_1481 wp_49 wd_13 wd_1482 (by decide +kernel) ⟨by rw [hR]; show 0 + 1 ≤ 29 + 4 * k; omega, by rw [hR]; show 8 + (2 + 11) + 40 * (0) ≤ 40 * (29 + 4 * k); omega⟩ hI hN hK hS hG0 rfl hl.1 rfl (Nat.le_of_ble_eq_true rfl) dX12_positiveOf_41 ⟨Nat.zero_le _, Nat.zero_le _⟩ (fun r78 locs hp hS => ?_)
    have hc79 := hp
    refine lv_istore (lv' := [(4, .int r78), (2, .long r62), (0, .ref h0), (1, .int x1)]) hx hb dX12_positiveOf_44 hl (by decide) rfl (fun ls hl => ?_)
    refine lv_aload_n hx hb dX12_positiveOf_46 rfl (lv_at hl 2 rfl) ?_
    refine lv_dup hx hb dX12_positiveOf_47 rfl ?_
    refine gmI hx hb hts inT12 hown hK hI List.not_mem_nil hG0 19 (by decide) (hts _ (tb_c wd_1252)) rfl rfl dX12_positiveOf_48 (fun w80 hg81 k82 k83 => ?_)
    obtain rfl := gf.uniq (by decide) hg68 hg81
    refine lv_iconst (v := 1) hx hb dX12_positiveOf_51 (by decide) ?_
    refine lv_iadd hx hb dX12_positiveOf_52 ?_
    refine lv_topi (fun v84 e85 => ?_)
    have tv84 : v84.toInt = w67.toInt + (1) := iv_add rfl (by decide) e85 (by omega) (by omega)
    refine pmI (ty := .int) hx hb hts inT12 hown hK hI List.not_mem_nil hG0 hS ⟨_, hG0⟩ 19 (by decide) (hts _ (tb_c wd_1252)) rfl rfl (by decide +kernel) rfl rfl rfl (by omega) (by omega) dX12_positiveOf_53 (fun H locs hI hgP hS => ?_)
    have hg70 := hgP.2.2.1 20 _ (by decide) (by decide) hg70
    have hg86 := hgP.2.1
    have hf64 := hgP.2.2.2 3 _ (by decide) (by decide) hf64
    have hA66 := va_at.kept hA66 (hgP.1 _ (m_ne hq65 hG0 (by first | decide | (dsimp only; decide))))
    refine lv_aload_n hx hb dX12_positiveOf_56 rfl (lv_at hl 2 rfl) ?_
    refine lv_iload_n hx hb dX12_positiveOf_57 rfl (lv_at hl 3 rfl) ?_
    refine mx_l (As := [.int x1]) (rest := []) (n := 1) (d := 28) ⟨hx, hb, hml, hown, hts⟩ (c_X12_sumOf l E D G 8 h0 hG0 x1 ⟨by omega, by omega⟩ ff tt dd (mm + 1) qq h3 (by omega) (c_X12_partOf l E D G 8)) wd_1483 wd_1485 wp_50 wd_13 wd_1486 (by decide +kernel) ⟨by rw [hR]; show 28 + 1 ≤ 29 + 4 * k; omega, by rw [hR]; show 8 + (7 + 11) + 40 * (28) ≤ 40 * (29 + 4 * k); omega⟩ hI hN hK hS hG0 (⟨hkf, ht, hT, by omega, ⟨qq63, hf64, hq65, hA66⟩, ⟨v84, hg86, by omega⟩, ⟨w69, hg70, by omega⟩⟩) rfl hl.1 rfl (Nat.le_of_ble_eq_true rfl) dX12_positiveOf_58 ⟨Nat.zero_le _, Nat.zero_le _⟩ (fun r87 H locs hI hp hS => ?_)
    have hp0 := hp
    obtain ⟨hkf, ht, hT, k96, ⟨qq88, hf89, hq90, hA91⟩, ⟨w92, hg93, k97⟩, ⟨w94, hg95, k98⟩⟩ := hp0
    refine lv_lstore (lv' := [(5, .long r87), (4, .int r78), (2, .long r62), (0, .ref h0), (1, .int x1)]) hx hb dX12_positiveOf_61 hl (by decide) rfl (fun ls hl => ?_)
    refine lv_iload_n hx hb dX12_positiveOf_63 rfl (lv_at hl 4 rfl) ?_
    refine lv_if_eq (tgt := 125) hx hb dX12_positiveOf_64 (by decide) (fun c99 => ?_) (fun c99 => ?_)
    · skip
      have k100 := iv_eq (X := x1.toInt) (Y := (0)) rfl (by decide) c99
      refine lv_iconst (v := 0) hx hb dX12_positiveOf_125 (by decide) ?_
      have hpost : (0 ≤ (0 : Int32).toInt ∧ (0 : Int32).toInt ≤ 1) ∧ EV E D G h0 ff tt qq H := ⟨by first | decide | omega, ⟨hkf, ht, hT, by omega, ⟨qq88, hf89, hq90, hA91⟩, ⟨w92, hg93, by omega⟩, ⟨w94, hg95, by omega⟩⟩⟩
      rw [hQ]
      exact W.zret (v := 0) hx hb hr (by decide) (fun t ht hW => ⟨⟨0, 0, rfl, rfl, ⟨by rw [ht]; exact hI, hN.warm hW, va_K.moved hW.alike hK⟩, by first | (rw [ht]; exact hpost) | exact hpost⟩, hS.F ht⟩) hS.2.2 dX12_positiveOf_126
    · skip
      have k101 := iv_ne (X := x1.toInt) (Y := (0)) rfl (by decide) c99
      refine lv_aload_n hx hb dX12_positiveOf_67 rfl (lv_at hl 3 rfl) ?_
      refine gmI hx hb hts inT12 hown hK hI List.not_mem_nil hG0 21 (by decide) (hts _ (tb_c wd_1254)) rfl rfl dX12_positiveOf_68 (fun w102 hg103 k104 k105 => ?_)
      refine lv_if_ne (tgt := 125) hx hb dX12_positiveOf_71 (by decide) (fun c106 => ?_) (fun c106 => ?_)
      · skip
        have k107 := iv_ne (X := w102.toInt) (Y := (0)) rfl (by decide) c106
        refine lv_iconst (v := 0) hx hb dX12_positiveOf_125 (by decide) ?_
        have hpost : (0 ≤ (0 : Int32).toInt ∧ (0 : Int32).toInt ≤ 1) ∧ EV E D G h0 ff tt qq H := ⟨by first | decide | omega, ⟨hkf, ht, hT, by omega, ⟨qq88, hf89, hq90, hA91⟩, ⟨w92, hg93, by omega⟩, ⟨w94, hg95, by omega⟩⟩⟩
        rw [hQ]
        exact W.zret (v := 0) hx hb hr (by decide) (fun t ht hW => ⟨⟨0, 0, rfl, rfl, ⟨by rw [ht]; exact hI, hN.warm hW, va_K.moved hW.alike hK⟩, by first | (rw [ht]; exact hpost) | exact hpost⟩, hS.F ht⟩) hS.2.2 dX12_positiveOf_126
      · skip
        have k108 := iv_eq (X := w102.toInt) (Y := (0)) rfl (by decide) c106
        refine lv_iload hx hb dX12_positiveOf_74 (lv_at hl 1 rfl) ?_
        refine lv_bipush (v := 60) hx hb dX12_positiveOf_76 (by decide) ?_
        refine th_cSs (As := [.int 60]) (rest := [.int r78]) (n := 1) (d := 0) ⟨hx, hb, hml, hown, hts⟩ (c_X12_sign l H 60) wd_1495 wd_1496 wd_13 wd_1497 (by decide +kernel) ⟨by rw [hR]; show 0 + 1 ≤ 29 + 4 * k; omega, by rw [hR]; show 8 + (1 + 11) + 40 * (0) ≤ 40 * (29 + 4 * k); omega⟩ hN hS rfl hl.1 rfl (Nat.le_of_ble_eq_true rfl) dX12_positiveOf_78 ⟨Nat.zero_le _, Nat.zero_le _⟩ (fun r109 locs hp hS => ?_)
        obtain rfl : r109 = 160 := hp.trans (by decide)
        have k110 := iv_lo r78
        have k111 := iv_hi r78
        refine lv_icmp_ne (tgt := 94) hx hb dX12_positiveOf_81 (by decide) (fun c112 => ?_) (fun c112 => ?_)
        · skip
          have k113 := iv_ne (X := r78.toInt) (Y := (160)) rfl (by decide) c112
          refine lv_iload hx hb dX12_positiveOf_94 (lv_at hl 1 rfl) ?_
          refine lv_bipush (v := 62) hx hb dX12_positiveOf_96 (by decide) ?_
          refine th_cSs (As := [.int 62]) (rest := [.int r78]) (n := 1) (d := 0) ⟨hx, hb, hml, hown, hts⟩ (c_X12_sign l H 62) wd_1495 wd_1496 wd_13 wd_1497 (by decide +kernel) ⟨by rw [hR]; show 0 + 1 ≤ 29 + 4 * k; omega, by rw [hR]; show 8 + (1 + 11) + 40 * (0) ≤ 40 * (29 + 4 * k); omega⟩ hN hS rfl hl.1 rfl (Nat.le_of_ble_eq_true rfl) dX12_positiveOf_98 ⟨Nat.zero_le _, Nat.zero_le _⟩ (fun r114 locs hp hS => ?_)
          obtain rfl : r114 = 162 := hp.trans (by decide)
          refine lv_icmp_ne (tgt := 114) hx hb dX12_positiveOf_101 (by decide) (fun c115 => ?_) (fun c115 => ?_)
          · skip
            have k116 := iv_ne (X := r78.toInt) (Y := (162)) rfl (by decide) c115
            refine lv_lload_n hx hb dX12_positiveOf_114 rfl (lv_at hl 2 rfl) ?_
            refine lv_lload hx hb dX12_positiveOf_115 (lv_at hl 0 rfl) ?_
            refine W.lcmp hx hb dX12_positiveOf_117 ?_
            refine lv_topi (fun v117 e118 => ?_)
            have tv117 := iv_cmp e118
            refine lv_if_ne (tgt := 125) hx hb dX12_positiveOf_118 (by decide) (fun c119 => ?_) (fun c119 => ?_)
            · skip
              have k120 := iv_ne (X := v117.toInt) (Y := (0)) rfl (by decide) c119
              refine lv_iconst (v := 0) hx hb dX12_positiveOf_125 (by decide) ?_
              have hpost : (0 ≤ (0 : Int32).toInt ∧ (0 : Int32).toInt ≤ 1) ∧ EV E D G h0 ff tt qq H := ⟨by first | decide | omega, ⟨hkf, ht, hT, by omega, ⟨qq88, hf89, hq90, hA91⟩, ⟨w92, hg93, by omega⟩, ⟨w94, hg95, by omega⟩⟩⟩
              rw [hQ]
              exact W.zret (v := 0) hx hb hr (by decide) (fun t ht hW => ⟨⟨0, 0, rfl, rfl, ⟨by rw [ht]; exact hI, hN.warm hW, va_K.moved hW.alike hK⟩, by first | (rw [ht]; exact hpost) | exact hpost⟩, hS.F ht⟩) hS.2.2 dX12_positiveOf_126
            · skip
              have k121 := iv_eq (X := v117.toInt) (Y := (0)) rfl (by decide) c119
              refine lv_iconst (v := 1) hx hb dX12_positiveOf_121 (by decide) ?_
              refine lv_goto (tgt := 126) hx hb dX12_positiveOf_122 (by decide) ?_
              have hpost : (0 ≤ (1 : Int32).toInt ∧ (1 : Int32).toInt ≤ 1) ∧ EV E D G h0 ff tt qq H := ⟨by first | decide | omega, ⟨hkf, ht, hT, by omega, ⟨qq88, hf89, hq90, hA91⟩, ⟨w92, hg93, by omega⟩, ⟨w94, hg95, by omega⟩⟩⟩
              rw [hQ]
              exact W.zret (v := 1) hx hb hr (by decide) (fun t ht hW => ⟨⟨1, 1, rfl, rfl, ⟨by rw [ht]; exact hI, hN.warm hW, va_K.moved hW.alike hK⟩, by first | (rw [ht]; exact hpost) | exact hpost⟩, hS.F ht⟩) hS.2.2 dX12_positiveOf_126
          · skip
            have k122 := iv_eq (X := r78.toInt) (Y := (162)) rfl (by decide) c115
            refine lv_lload_n hx hb dX12_positiveOf_104 rfl (lv_at hl 2 rfl) ?_
            refine lv_lload hx hb dX12_positiveOf_105 (lv_at hl 0 rfl) ?_
            refine W.lcmp hx hb dX12_positiveOf_107 ?_
            refine lv_topi (fun v123 e124 => ?_)
            have tv123 := iv_cmp e124
            refine lv_if_le (tgt := 125) hx hb dX12_positiveOf_108 (by decide) (fun c125 => ?_) (fun c125 => ?_)
            · skip
              have k126 := iv_le (X := v123.toInt) (Y := (0)) rfl (by decide) c125
              refine lv_iconst (v := 0) hx hb dX12_positiveOf_125 (by decide) ?_
              have hpost : (0 ≤ (0 : Int32).toInt ∧ (0 : Int32).toInt ≤ 1) ∧ EV E D G h0 ff tt qq H := ⟨by first | decide | omega, ⟨hkf, ht, hT, by omega, ⟨qq88, hf89, hq90, hA91⟩, ⟨w92, hg93, by omega⟩, ⟨w94, hg95, by omega⟩⟩⟩
              rw [hQ]
              exact W.zret (v := 0) hx hb hr (by decide) (fun t ht hW => ⟨⟨0, 0, rfl, rfl, ⟨by rw [ht]; exact hI, hN.warm hW, va_K.moved hW.alike hK⟩, by first | (rw [ht]; exact hpost) | exact hpost⟩, hS.F ht⟩) hS.2.2 dX12_positiveOf_126
            · skip
              have k127 := iv_nle (X := v123.toInt) (Y := (0)) rfl (by decide) c125
              refine lv_goto (tgt := 121) hx hb dX12_positiveOf_111 (by decide) ?_
              refine lv_iconst (v := 1) hx hb dX12_positiveOf_121 (by decide) ?_
              refine lv_goto (tgt := 126) hx hb dX12_positiveOf_122 (by decide) ?_
              have hpost : (0 ≤ (1 : Int32).toInt ∧ (1 : Int32).toInt ≤ 1) ∧ EV E D G h0 ff tt qq H := ⟨by first | decide | omega, ⟨hkf, ht, hT, by omega, ⟨qq88, hf89, hq90, hA91⟩, ⟨w92, hg93, by omega⟩, ⟨w94, hg95, by omega⟩⟩⟩
              rw [hQ]
              exact W.zret (v := 1) hx hb hr (by decide) (fun t ht hW => ⟨⟨1, 1, rfl, rfl, ⟨by rw [ht]; exact hI, hN.warm hW, va_K.moved hW.alike hK⟩, by first | (rw [ht]; exact hpost) | exact hpost⟩, hS.F ht⟩) hS.2.2 dX12_positiveOf_126
        · skip
          have k128 := iv_eq (X := r78.toInt) (Y := (160)) rfl (by decide) c112
          refine lv_lload_n hx hb dX12_positiveOf_84 rfl (lv_at hl 2 rfl) ?_
          refine lv_lload hx hb dX12_positiveOf_85 (lv_at hl 0 rfl) ?_
          refine W.lcmp hx hb dX12_positiveOf_87 ?_
          refine lv_topi (fun v129 e130 => ?_)
          have tv129 := iv_cmp e130
          refine lv_if_ge (tgt := 125) hx hb dX12_positiveOf_88 (by decide) (fun c131 => ?_) (fun c131 => ?_)
          · skip
            have k132 := iv_le (X := (0)) (Y := v129.toInt) (by decide) rfl c131
            refine lv_iconst (v := 0) hx hb dX12_positiveOf_125 (by decide) ?_
            have hpost : (0 ≤ (0 : Int32).toInt ∧ (0 : Int32).toInt ≤ 1) ∧ EV E D G h0 ff tt qq H := ⟨by first | decide | omega, ⟨hkf, ht, hT, by omega, ⟨qq88, hf89, hq90, hA91⟩, ⟨w92, hg93, by omega⟩, ⟨w94, hg95, by omega⟩⟩⟩
            rw [hQ]
            exact W.zret (v := 0) hx hb hr (by decide) (fun t ht hW => ⟨⟨0, 0, rfl, rfl, ⟨by rw [ht]; exact hI, hN.warm hW, va_K.moved hW.alike hK⟩, by first | (rw [ht]; exact hpost) | exact hpost⟩, hS.F ht⟩) hS.2.2 dX12_positiveOf_126
          · skip
            have k133 := iv_nle (X := (0)) (Y := v129.toInt) (by decide) rfl c131
            refine lv_goto (tgt := 121) hx hb dX12_positiveOf_91 (by decide) ?_
            refine lv_iconst (v := 1) hx hb dX12_positiveOf_121 (by decide) ?_
            refine lv_goto (tgt := 126) hx hb dX12_positiveOf_122 (by decide) ?_
            have hpost : (0 ≤ (1 : Int32).toInt ∧ (1 : Int32).toInt ≤ 1) ∧ EV E D G h0 ff tt qq H := ⟨by first | decide | omega, ⟨hkf, ht, hT, by omega, ⟨qq88, hf89, hq90, hA91⟩, ⟨w92, hg93, by omega⟩, ⟨w94, hg95, by omega⟩⟩⟩
            rw [hQ]
            exact W.zret (v := 1) hx hb hr (by decide) (fun t ht hW => ⟨⟨1, 1, rfl, rfl, ⟨by rw [ht]; exact hI, hN.warm hW, va_K.moved hW.alike hK⟩, by first | (rw [ht]; exact hpost) | exact hpost⟩, hS.F ht⟩) hS.2.2 dX12_positiveOf_126
theorem dX12_told_0g : (decode cX12_told 0 = .ok (.lload_n 2, 1)) ∧ (decode cX12_told 1 = .ok (.lstore 4, 2)) ∧ (decode cX12_told 3 = .ok (.aload_n 0, 1)) ∧ (decode cX12_told 4 = .ok (.getfield 20, 3)) ∧ (decode cX12_told 7 = .ok (.sipush 316, 3)) ∧ (decode cX12_told 10 = .ok (.iaload, 1)) ∧ (decode cX12_told 11 = .ok (.iconst (-1), 1)) ∧ (decode cX12_told 12 = .ok (.if_icmp .ne 6, 3)) ∧ (decode cX12_told 15 = .ok (.lload 4, 2)) ∧ (decode cX12_told 17 = .ok (.lreturn, 1)) := by decide +kernel
theorem dX12_told_0 : decode cX12_told 0 = .ok (.lload_n 2, 1) := dX12_told_0g.1
theorem dX12_told_1 : decode cX12_told 1 = .ok (.lstore 4, 2) := dX12_told_0g.2.1
theorem dX12_told_3 : decode cX12_told 3 = .ok (.aload_n 0, 1) := dX12_told_0g.2.2.1
theorem dX12_told_4 : decode cX12_told 4 = .ok (.getfield 20, 3) := dX12_told_0g.2.2.2.1
theorem dX12_told_7 : decode cX12_told 7 = .ok (.sipush 316, 3) := dX12_told_0g.2.2.2.2.1
theorem dX12_told_10 : decode cX12_told 10 = .ok (.iaload, 1) := dX12_told_0g.2.2.2.2.2.1
theorem dX12_told_11 : decode cX12_told 11 = .ok (.iconst (-1), 1) := dX12_told_0g.2.2.2.2.2.2.1
theorem dX12_told_12 : decode cX12_told 12 = .ok (.if_icmp .ne 6, 3) := dX12_told_0g.2.2.2.2.2.2.2.1
theorem dX12_told_15 : decode cX12_told 15 = .ok (.lload 4, 2) := dX12_told_0g.2.2.2.2.2.2.2.2.1
theorem dX12_told_17 : decode cX12_told 17 = .ok (.lreturn, 1) := dX12_told_0g.2.2.2.2.2.2.2.2.2
theorem dX12_told_18g : (decode cX12_told 18 = .ok (.aload_n 0, 1)) ∧ (decode cX12_told 19 = .ok (.sipush 400, 3)) ∧ (decode cX12_told 22 = .ok (.aload_n 0, 1)) ∧ (decode cX12_told 23 = .ok (.getfield 20, 3)) ∧ (decode cX12_told 26 = .ok (.sipush 316, 3)) ∧ (decode cX12_told 29 = .ok (.iaload, 1)) ∧ (decode cX12_told 30 = .ok (.imul, 1)) ∧ (decode cX12_told 31 = .ok (.putfield 219, 3)) ∧ (decode cX12_told 34 = .ok (.aload_n 0, 1)) ∧ (decode cX12_told 35 = .ok (.aload_n 0, 1)) := by decide +kernel
theorem dX12_told_18 : decode cX12_told 18 = .ok (.aload_n 0, 1) := dX12_told_18g.1
theorem dX12_told_19 : decode cX12_told 19 = .ok (.sipush 400, 3) := dX12_told_18g.2.1
theorem dX12_told_22 : decode cX12_told 22 = .ok (.aload_n 0, 1) := dX12_told_18g.2.2.1
theorem dX12_told_23 : decode cX12_told 23 = .ok (.getfield 20, 3) := dX12_told_18g.2.2.2.1
theorem dX12_told_26 : decode cX12_told 26 = .ok (.sipush 316, 3) := dX12_told_18g.2.2.2.2.1
theorem dX12_told_29 : decode cX12_told 29 = .ok (.iaload, 1) := dX12_told_18g.2.2.2.2.2.1
theorem dX12_told_30 : decode cX12_told 30 = .ok (.imul, 1) := dX12_told_18g.2.2.2.2.2.2.1
theorem dX12_told_31 : decode cX12_told 31 = .ok (.putfield 219, 3) := dX12_told_18g.2.2.2.2.2.2.2.1
theorem dX12_told_34 : decode cX12_told 34 = .ok (.aload_n 0, 1) := dX12_told_18g.2.2.2.2.2.2.2.2.1
theorem dX12_told_35 : decode cX12_told 35 = .ok (.aload_n 0, 1) := dX12_told_18g.2.2.2.2.2.2.2.2.2
theorem dX12_told_36g : (decode cX12_told 36 = .ok (.getfield 219, 3)) ∧ (decode cX12_told 39 = .ok (.aload_n 0, 1)) ∧ (decode cX12_told 40 = .ok (.getfield 20, 3)) ∧ (decode cX12_told 43 = .ok (.sipush 317, 3)) ∧ (decode cX12_told 46 = .ok (.aload_n 0, 1)) ∧ (decode cX12_told 47 = .ok (.getfield 20, 3)) ∧ (decode cX12_told 50 = .ok (.sipush 316, 3)) ∧ (decode cX12_told 53 = .ok (.iaload, 1)) ∧ (decode cX12_told 54 = .ok (.iadd, 1)) ∧ (decode cX12_told 55 = .ok (.iaload, 1)) := by decide +kernel
theorem dX12_told_36 : decode cX12_told 36 = .ok (.getfield 219, 3) := dX12_told_36g.1
theorem dX12_told_39 : decode cX12_told 39 = .ok (.aload_n 0, 1) := dX12_told_36g.2.1
theorem dX12_told_40 : decode cX12_told 40 = .ok (.getfield 20, 3) := dX12_told_36g.2.2.1
theorem dX12_told_43 : decode cX12_told 43 = .ok (.sipush 317, 3) := dX12_told_36g.2.2.2.1
theorem dX12_told_46 : decode cX12_told 46 = .ok (.aload_n 0, 1) := dX12_told_36g.2.2.2.2.1
theorem dX12_told_47 : decode cX12_told 47 = .ok (.getfield 20, 3) := dX12_told_36g.2.2.2.2.2.1
theorem dX12_told_50 : decode cX12_told 50 = .ok (.sipush 316, 3) := dX12_told_36g.2.2.2.2.2.2.1
theorem dX12_told_53 : decode cX12_told 53 = .ok (.iaload, 1) := dX12_told_36g.2.2.2.2.2.2.2.1
theorem dX12_told_54 : decode cX12_told 54 = .ok (.iadd, 1) := dX12_told_36g.2.2.2.2.2.2.2.2.1
theorem dX12_told_55 : decode cX12_told 55 = .ok (.iaload, 1) := dX12_told_36g.2.2.2.2.2.2.2.2.2
theorem dX12_told_56g : (decode cX12_told 56 = .ok (.iadd, 1)) ∧ (decode cX12_told 57 = .ok (.putfield 216, 3)) ∧ (decode cX12_told 60 = .ok (.aload_n 0, 1)) ∧ (decode cX12_told 61 = .ok (.getfield 219, 3)) ∧ (decode cX12_told 64 = .ok (.aload_n 0, 1)) ∧ (decode cX12_told 65 = .ok (.getfield 216, 3)) ∧ (decode cX12_told 68 = .ok (.if_icmp .ge 119, 3)) ∧ (decode cX12_told 71 = .ok (.aload_n 0, 1)) ∧ (decode cX12_told 72 = .ok (.aload_n 0, 1)) ∧ (decode cX12_told 73 = .ok (.getfield 219, 3)) := by decide +kernel
theorem dX12_told_56 : decode cX12_told 56 = .ok (.iadd, 1) := dX12_told_56g.1
theorem dX12_told_57 : decode cX12_told 57 = .ok (.putfield 216, 3) := dX12_told_56g.2.1
theorem dX12_told_60 : decode cX12_told 60 = .ok (.aload_n 0, 1) := dX12_told_56g.2.2.1
theorem dX12_told_61 : decode cX12_told 61 = .ok (.getfield 219, 3) := dX12_told_56g.2.2.2.1
theorem dX12_told_64 : decode cX12_told 64 = .ok (.aload_n 0, 1) := dX12_told_56g.2.2.2.2.1
theorem dX12_told_65 : decode cX12_told 65 = .ok (.getfield 216, 3) := dX12_told_56g.2.2.2.2.2.1
theorem dX12_told_68 : decode cX12_told 68 = .ok (.if_icmp .ge 119, 3) := dX12_told_56g.2.2.2.2.2.2.1
theorem dX12_told_71 : decode cX12_told 71 = .ok (.aload_n 0, 1) := dX12_told_56g.2.2.2.2.2.2.2.1
theorem dX12_told_72 : decode cX12_told 72 = .ok (.aload_n 0, 1) := dX12_told_56g.2.2.2.2.2.2.2.2.1
theorem dX12_told_73 : decode cX12_told 73 = .ok (.getfield 219, 3) := dX12_told_56g.2.2.2.2.2.2.2.2.2
theorem dX12_told_76g : (decode cX12_told 76 = .ok (.invokevirtual 222, 3)) ∧ (decode cX12_told 79 = .ok (.istore 6, 2)) ∧ (decode cX12_told 81 = .ok (.aload_n 0, 1)) ∧ (decode cX12_told 82 = .ok (.iconst 0, 1)) ∧ (decode cX12_told 83 = .ok (.putfield 229, 3)) ∧ (decode cX12_told 86 = .ok (.aload_n 0, 1)) ∧ (decode cX12_told 87 = .ok (.dup, 1)) ∧ (decode cX12_told 88 = .ok (.getfield 219, 3)) ∧ (decode cX12_told 91 = .ok (.iconst 1, 1)) ∧ (decode cX12_told 92 = .ok (.iadd, 1)) := by decide +kernel
theorem dX12_told_76 : decode cX12_told 76 = .ok (.invokevirtual 222, 3) := dX12_told_76g.1
theorem dX12_told_79 : decode cX12_told 79 = .ok (.istore 6, 2) := dX12_told_76g.2.1
theorem dX12_told_81 : decode cX12_told 81 = .ok (.aload_n 0, 1) := dX12_told_76g.2.2.1
theorem dX12_told_82 : decode cX12_told 82 = .ok (.iconst 0, 1) := dX12_told_76g.2.2.2.1
theorem dX12_told_83 : decode cX12_told 83 = .ok (.putfield 229, 3) := dX12_told_76g.2.2.2.2.1
theorem dX12_told_86 : decode cX12_told 86 = .ok (.aload_n 0, 1) := dX12_told_76g.2.2.2.2.2.1
theorem dX12_told_87 : decode cX12_told 87 = .ok (.dup, 1) := dX12_told_76g.2.2.2.2.2.2.1
theorem dX12_told_88 : decode cX12_told 88 = .ok (.getfield 219, 3) := dX12_told_76g.2.2.2.2.2.2.2.1
theorem dX12_told_91 : decode cX12_told 91 = .ok (.iconst 1, 1) := dX12_told_76g.2.2.2.2.2.2.2.2.1
theorem dX12_told_92 : decode cX12_told 92 = .ok (.iadd, 1) := dX12_told_76g.2.2.2.2.2.2.2.2.2
theorem dX12_told_93g : (decode cX12_told 93 = .ok (.putfield 219, 3)) ∧ (decode cX12_told 96 = .ok (.iload 6, 2)) ∧ (decode cX12_told 98 = .ok (.iconst 4, 1)) ∧ (decode cX12_told 99 = .ok (.if_icmp .ne 7, 3)) ∧ (decode cX12_told 102 = .ok (.lconst 1, 1)) ∧ (decode cX12_told 103 = .ok (.goto 8, 3)) ∧ (decode cX12_told 106 = .ok (.aload_n 0, 1)) ∧ (decode cX12_told 107 = .ok (.iconst 1, 1)) ∧ (decode cX12_told 108 = .ok (.invokevirtual 247, 3)) ∧ (decode cX12_told 111 = .ok (.lstore 7, 2)) := by decide +kernel
theorem dX12_told_93 : decode cX12_told 93 = .ok (.putfield 219, 3) := dX12_told_93g.1
theorem dX12_told_96 : decode cX12_told 96 = .ok (.iload 6, 2) := dX12_told_93g.2.1
theorem dX12_told_98 : decode cX12_told 98 = .ok (.iconst 4, 1) := dX12_told_93g.2.2.1
theorem dX12_told_99 : decode cX12_told 99 = .ok (.if_icmp .ne 7, 3) := dX12_told_93g.2.2.2.1
theorem dX12_told_102 : decode cX12_told 102 = .ok (.lconst 1, 1) := dX12_told_93g.2.2.2.2.1
theorem dX12_told_103 : decode cX12_told 103 = .ok (.goto 8, 3) := dX12_told_93g.2.2.2.2.2.1
theorem dX12_told_106 : decode cX12_told 106 = .ok (.aload_n 0, 1) := dX12_told_93g.2.2.2.2.2.2.1
theorem dX12_told_107 : decode cX12_told 107 = .ok (.iconst 1, 1) := dX12_told_93g.2.2.2.2.2.2.2.1
theorem dX12_told_108 : decode cX12_told 108 = .ok (.invokevirtual 247, 3) := dX12_told_93g.2.2.2.2.2.2.2.2.1
theorem dX12_told_111 : decode cX12_told 111 = .ok (.lstore 7, 2) := dX12_told_93g.2.2.2.2.2.2.2.2.2
theorem dX12_told_113g : (decode cX12_told 113 = .ok (.aload_n 0, 1)) ∧ (decode cX12_told 114 = .ok (.getfield 229, 3)) ∧ (decode cX12_told 117 = .ok (.istore 9, 2)) ∧ (decode cX12_told 119 = .ok (.aload_n 0, 1)) ∧ (decode cX12_told 120 = .ok (.iconst 0, 1)) ∧ (decode cX12_told 121 = .ok (.putfield 229, 3)) ∧ (decode cX12_told 124 = .ok (.aload_n 0, 1)) ∧ (decode cX12_told 125 = .ok (.iconst 5, 1)) ∧ (decode cX12_told 126 = .ok (.invokevirtual 244, 3)) ∧ (decode cX12_told 129 = .ok (.ifCond .eq 11, 3)) := by decide +kernel
theorem dX12_told_113 : decode cX12_told 113 = .ok (.aload_n 0, 1) := dX12_told_113g.1
theorem dX12_told_114 : decode cX12_told 114 = .ok (.getfield 229, 3) := dX12_told_113g.2.1
theorem dX12_told_117 : decode cX12_told 117 = .ok (.istore 9, 2) := dX12_told_113g.2.2.1
theorem dX12_told_119 : decode cX12_told 119 = .ok (.aload_n 0, 1) := dX12_told_113g.2.2.2.1
theorem dX12_told_120 : decode cX12_told 120 = .ok (.iconst 0, 1) := dX12_told_113g.2.2.2.2.1
theorem dX12_told_121 : decode cX12_told 121 = .ok (.putfield 229, 3) := dX12_told_113g.2.2.2.2.2.1
theorem dX12_told_124 : decode cX12_told 124 = .ok (.aload_n 0, 1) := dX12_told_113g.2.2.2.2.2.2.1
theorem dX12_told_125 : decode cX12_told 125 = .ok (.iconst 5, 1) := dX12_told_113g.2.2.2.2.2.2.2.1
theorem dX12_told_126 : decode cX12_told 126 = .ok (.invokevirtual 244, 3) := dX12_told_113g.2.2.2.2.2.2.2.2.1
theorem dX12_told_129 : decode cX12_told 129 = .ok (.ifCond .eq 11, 3) := dX12_told_113g.2.2.2.2.2.2.2.2.2
theorem dX12_told_132g : (decode cX12_told 132 = .ok (.aload_n 0, 1)) ∧ (decode cX12_told 133 = .ok (.iconst 1, 1)) ∧ (decode cX12_told 134 = .ok (.invokevirtual 260, 3)) ∧ (decode cX12_told 137 = .ok (.ifCond .eq 7, 3)) ∧ (decode cX12_told 140 = .ok (.iconst 1, 1)) ∧ (decode cX12_told 141 = .ok (.goto 4, 3)) ∧ (decode cX12_told 144 = .ok (.iconst 0, 1)) ∧ (decode cX12_told 145 = .ok (.istore 10, 2)) ∧ (decode cX12_told 147 = .ok (.iload 6, 2)) ∧ (decode cX12_told 149 = .ok (.iload_n 1, 1)) := by decide +kernel
theorem dX12_told_132 : decode cX12_told 132 = .ok (.aload_n 0, 1) := dX12_told_132g.1
theorem dX12_told_133 : decode cX12_told 133 = .ok (.iconst 1, 1) := dX12_told_132g.2.1
theorem dX12_told_134 : decode cX12_told 134 = .ok (.invokevirtual 260, 3) := dX12_told_132g.2.2.1
theorem dX12_told_137 : decode cX12_told 137 = .ok (.ifCond .eq 7, 3) := dX12_told_132g.2.2.2.1
theorem dX12_told_140 : decode cX12_told 140 = .ok (.iconst 1, 1) := dX12_told_132g.2.2.2.2.1
theorem dX12_told_141 : decode cX12_told 141 = .ok (.goto 4, 3) := dX12_told_132g.2.2.2.2.2.1
theorem dX12_told_144 : decode cX12_told 144 = .ok (.iconst 0, 1) := dX12_told_132g.2.2.2.2.2.2.1
theorem dX12_told_145 : decode cX12_told 145 = .ok (.istore 10, 2) := dX12_told_132g.2.2.2.2.2.2.2.1
theorem dX12_told_147 : decode cX12_told 147 = .ok (.iload 6, 2) := dX12_told_132g.2.2.2.2.2.2.2.2.1
theorem dX12_told_149 : decode cX12_told 149 = .ok (.iload_n 1, 1) := dX12_told_132g.2.2.2.2.2.2.2.2.2
theorem dX12_told_150g : (decode cX12_told 150 = .ok (.if_icmp .ne 24, 3)) ∧ (decode cX12_told 153 = .ok (.iload 10, 2)) ∧ (decode cX12_told 155 = .ok (.ifCond .eq 19, 3)) ∧ (decode cX12_told 158 = .ok (.aload_n 0, 1)) ∧ (decode cX12_told 159 = .ok (.getfield 229, 3)) ∧ (decode cX12_told 162 = .ok (.ifCond .ne 12, 3)) ∧ (decode cX12_told 165 = .ok (.iload 9, 2)) ∧ (decode cX12_told 167 = .ok (.ifCond .ne 7, 3)) ∧ (decode cX12_told 170 = .ok (.lload 7, 2)) ∧ (decode cX12_told 172 = .ok (.lstore 4, 2)) := by decide +kernel
theorem dX12_told_150 : decode cX12_told 150 = .ok (.if_icmp .ne 24, 3) := dX12_told_150g.1
theorem dX12_told_153 : decode cX12_told 153 = .ok (.iload 10, 2) := dX12_told_150g.2.1
theorem dX12_told_155 : decode cX12_told 155 = .ok (.ifCond .eq 19, 3) := dX12_told_150g.2.2.1
theorem dX12_told_158 : decode cX12_told 158 = .ok (.aload_n 0, 1) := dX12_told_150g.2.2.2.1
theorem dX12_told_159 : decode cX12_told 159 = .ok (.getfield 229, 3) := dX12_told_150g.2.2.2.2.1
theorem dX12_told_162 : decode cX12_told 162 = .ok (.ifCond .ne 12, 3) := dX12_told_150g.2.2.2.2.2.1
theorem dX12_told_165 : decode cX12_told 165 = .ok (.iload 9, 2) := dX12_told_150g.2.2.2.2.2.2.1
theorem dX12_told_167 : decode cX12_told 167 = .ok (.ifCond .ne 7, 3) := dX12_told_150g.2.2.2.2.2.2.2.1
theorem dX12_told_170 : decode cX12_told 170 = .ok (.lload 7, 2) := dX12_told_150g.2.2.2.2.2.2.2.2.1
theorem dX12_told_172 : decode cX12_told 172 = .ok (.lstore 4, 2) := dX12_told_150g.2.2.2.2.2.2.2.2.2
theorem dX12_told_174g : (decode cX12_told 174 = .ok (.aload_n 0, 1)) ∧ (decode cX12_told 175 = .ok (.dup, 1)) ∧ (decode cX12_told 176 = .ok (.getfield 219, 3)) ∧ (decode cX12_told 179 = .ok (.iconst 1, 1)) ∧ (decode cX12_told 180 = .ok (.iadd, 1)) ∧ (decode cX12_told 181 = .ok (.putfield 219, 3)) ∧ (decode cX12_told 184 = .ok (.goto (-124), 3)) ∧ (decode cX12_told 187 = .ok (.lload 4, 2)) ∧ (decode cX12_told 189 = .ok (.lreturn, 1)) := by decide +kernel
theorem dX12_told_174 : decode cX12_told 174 = .ok (.aload_n 0, 1) := dX12_told_174g.1
theorem dX12_told_175 : decode cX12_told 175 = .ok (.dup, 1) := dX12_told_174g.2.1
theorem dX12_told_176 : decode cX12_told 176 = .ok (.getfield 219, 3) := dX12_told_174g.2.2.1
theorem dX12_told_179 : decode cX12_told 179 = .ok (.iconst 1, 1) := dX12_told_174g.2.2.2.1
theorem dX12_told_180 : decode cX12_told 180 = .ok (.iadd, 1) := dX12_told_174g.2.2.2.2.1
theorem dX12_told_181 : decode cX12_told 181 = .ok (.putfield 219, 3) := dX12_told_174g.2.2.2.2.2.1
theorem dX12_told_184 : decode cX12_told 184 = .ok (.goto (-124), 3) := dX12_told_174g.2.2.2.2.2.2.1
theorem dX12_told_187 : decode cX12_told 187 = .ok (.lload 4, 2) := dX12_told_174g.2.2.2.2.2.2.2.1
theorem dX12_told_189 : decode cX12_told 189 = .ok (.lreturn, 1) := dX12_told_174g.2.2.2.2.2.2.2.2
set_option maxHeartbeats 4000000 in
set_option maxRecDepth 100000 in
theorem c_X12_told (l : Launch) (E : Nat → Nat) (D : va_G) (G : th_G) (h0 : Nat) (hG0 : G h0 = some (10, 0)) (x1 : Int32) (x2 : Int64) : Met l yX12_told (tb (.code yX12_told cX12_told 11 (some .long))) (rm 66) (va_Pc [.ref h0, .int x1, .long x2] (PX E D G (fun H => True))) (QXl E D G (fun r H => True)) 0 0 (th_A G) := by
  refine Met.ofW (cc := cX12_told) (maxL := 11) (ret := (some .long)) (by decide) rfl ?_
  intro p e s m args below meth c s₁ B hml hv
  obtain ⟨hav, ⟨hI, hN, hK⟩, hX⟩ := hv
  have hx := B.exec
  have hb := B.bytes
  have hr := B.returns
  have hts := atoms_spec (ws := tb (.code yX12_told cX12_told 11 (some .long))) B.pre
  have hown : s.vm.findClass RX12 = some m.cls := findClass_of_methodNamed B.named
  have hlocks := B.notSynchronized
  have hS : va_S (th_A G) s.heap s.heap [] := va_S.rf
  have hl := lv_entry ([.ref h0, .int x1, .long x2]) (n := 11) (Nat.le_of_ble_eq_true rfl)
  rw [show entryFrame m args 11 = entryFrame m ([.ref h0, .int x1, .long x2] : List Value).toArray 11 from by rw [hav], lg_entry_eq]
  generalize (lg_sl ([.ref h0, .int x1, .long x2]) ++ List.replicate (11 - (lg_sl ([.ref h0, .int x1, .long x2])).length) Slot.unset).toArray = ls at hl ⊢
  have hl : lv_has ls 11 [(0, .ref h0), (1, .int x1), (2, .long x2)] := hl
  generalize hR : (headSpec (tb (.code yX12_told cX12_told 11 (some .long))) (rm 66)).room = R
  have hR := hR.symm
  generalize hQ : MQ below (QXl E D G (fun r H => True)) args s 0 0 (th_A G) = QF
  have hQ := hQ.symm
  have J_60 : ∀ (nn : Nat) (H : Heap) (locs : List Loc) (ls : Array Slot) (l3128 : Int64) (ff : Nat → Int32) (tt : Nat) (pp : Nat), (Int.toNat (402 - ((pp : Nat) : Int)) = nn) → lv_has ls 11 [(4, .long l3128), (0, .ref h0), (1, .int x1), (2, .long x2)] → (kT ff tt ≤ pp ∨ ∃ n, g_lw (kC ff tt) (kT ff tt) n pp) → (EV E D G h0 ff tt pp H) → th_I (okM E) D G [] H → va_S (th_A G) s.heap H locs → W p l e R s m args below meth c H locs 0 0 QF (F0 m 60 ls []) := by
    intro nn
    induction nn using Nat.strongRecOn with
    | ind nn ih_60 =>
      intro H locs ls l3128 ff tt pp hm hl hnx hE hI hS
      obtain ⟨hkf, ht, hT, k3137, ⟨qq3129, hf3130, hq3131, hA3132⟩, ⟨w3133, hg3134, k3138⟩, ⟨w3135, hg3136, k3139⟩⟩ := hE
      refine lv_aload_n hx hb dX12_told_60 rfl (lv_at hl 1 rfl) ?_
      refine gmI hx hb hts inT12 hown hK hI List.not_mem_nil hG0 19 (by decide) (hts _ (tb_c wd_1252)) rfl rfl dX12_told_61 (fun w3140 hg3141 k3142 k3143 => ?_)
      obtain rfl := gf.uniq (by decide) hg3134 hg3141
      refine lv_aload_n hx hb dX12_told_64 rfl (lv_at hl 1 rfl) ?_
      refine gmI hx hb hts inT12 hown hK hI List.not_mem_nil hG0 20 (by decide) (hts _ (tb_c wd_1253)) rfl rfl dX12_told_65 (fun w3144 hg3145 k3146 k3147 => ?_)
      obtain rfl := gf.uniq (by decide) hg3136 hg3145
      refine lv_icmp_ge (tgt := 187) hx hb dX12_told_68 (by decide) (fun c3148 => ?_) (fun c3148 => ?_)
      · skip
        have k3149 := iv_le (X := w3135.toInt) (Y := w3133.toInt) rfl rfl c3148
        refine lv_lload hx hb dX12_told_187 (lv_at hl 0 rfl) ?_
        have hpost : True := trivial
        rw [hQ]
        exact W.lret (v := l3128) hx hb hr (fun t ht hW => ⟨⟨l3128, l3128, rfl, rfl, ⟨by rw [ht]; exact hI, hN.warm hW, va_K.moved hW.alike hK⟩, by first | (rw [ht]; exact hpost) | exact hpost⟩, hS.F ht⟩) hS.2.2 dX12_told_189
      · skip
        have k3150 := iv_nle (X := w3135.toInt) (Y := w3133.toInt) rfl rfl c3148
        obtain ⟨qq, n2, hcl, hnx2⟩ := lw_o ((hnx.resolve_left (by omega)).choose_spec)
        refine lv_aload_n hx hb dX12_told_71 rfl (lv_at hl 1 rfl) ?_
        refine lv_aload_n hx hb dX12_told_72 rfl (lv_at hl 1 rfl) ?_
        refine gmI hx hb hts inT12 hown hK hI List.not_mem_nil hG0 19 (by decide) (hts _ (tb_c wd_1252)) rfl rfl dX12_told_73 (fun w3151 hg3152 k3153 k3154 => ?_)
        obtain rfl := gf.uniq (by decide) hg3134 hg3152
        refine mr_i (As := [.int w3133]) (rest := []) (n := 1) (d := 0) ⟨hx, hb, hml, hown, hts⟩ (c_X12_codeAt l E D G H h0 hG0 w3133 ⟨by omega, by omega⟩ ff tt pp pp ⟨hkf, ht, hT, by omega, ⟨qq3129, hf3130, hq3131, hA3132⟩, ⟨w3133, hg3134, by omega⟩, ⟨w3135, hg3136, by omega⟩⟩ (by omega)) wd_1479 wd_1481 wp_49 wd_13 wd_1482 (by decide +kernel) ⟨by rw [hR]; exact Nat.le_of_ble_eq_true rfl, by rw [hR]; exact Nat.le_of_ble_eq_true rfl⟩ hI hN hK hS hG0 rfl hl.1 rfl (Nat.le_of_ble_eq_true rfl) dX12_told_76 ⟨Nat.zero_le _, Nat.zero_le _⟩ (fun r3155 locs hp hS => ?_)
        have hc3156 := hp
        refine lv_istore (lv' := [(6, .int r3155), (4, .long l3128), (0, .ref h0), (1, .int x1), (2, .long x2)]) hx hb dX12_told_79 hl (by decide) rfl (fun ls hl => ?_)
        refine lv_aload_n hx hb dX12_told_81 rfl (lv_at hl 2 rfl) ?_
        refine lv_iconst (v := 0) hx hb dX12_told_82 (by decide) ?_
        refine pmI (ty := .boolean) hx hb hts inT12 hown hK hI List.not_mem_nil hG0 hS ⟨_, hG0⟩ 21 (by decide) (hts _ (tb_c wd_1254)) rfl rfl (by decide +kernel) (by decide) rfl rfl (by decide) (by decide) dX12_told_83 (fun H locs hI hgP hS => ?_)
        have hg3134 := hgP.2.2.1 19 _ (by decide) (by decide) hg3134
        have hg3136 := hgP.2.2.1 20 _ (by decide) (by decide) hg3136
        have hg3157 := hgP.2.1
        have hf3130 := hgP.2.2.2 3 _ (by decide) (by decide) hf3130
        have hA3132 := va_at.kept hA3132 (hgP.1 _ (m_ne hq3131 hG0 (by first | decide | (dsimp only; decide))))
        refine lv_aload_n hx hb dX12_told_86 rfl (lv_at hl 2 rfl) ?_
        refine lv_dup hx hb dX12_told_87 rfl ?_
        refine gmI hx hb hts inT12 hown hK hI List.not_mem_nil hG0 19 (by decide) (hts _ (tb_c wd_1252)) rfl rfl dX12_told_88 (fun w3158 hg3159 k3160 k3161 => ?_)
        obtain rfl := gf.uniq (by decide) hg3134 hg3159
        refine lv_iconst (v := 1) hx hb dX12_told_91 (by decide) ?_
        refine lv_iadd hx hb dX12_told_92 ?_
        refine lv_topi (fun v3162 e3163 => ?_)
        have tv3162 : v3162.toInt = w3133.toInt + (1) := iv_add rfl (by decide) e3163 (by omega) (by omega)
        refine pmI (ty := .int) hx hb hts inT12 hown hK hI List.not_mem_nil hG0 hS ⟨_, hG0⟩ 19 (by decide) (hts _ (tb_c wd_1252)) rfl rfl (by decide +kernel) rfl rfl rfl (by omega) (by omega) dX12_told_93 (fun H locs hI hgP hS => ?_)
        have hg3136 := hgP.2.2.1 20 _ (by decide) (by decide) hg3136
        have hg3157 := hgP.2.2.1 21 _ (by decide) (by decide) hg3157
        have hg3164 := hgP.2.1
        have hf3130 := hgP.2.2.2 3 _ (by decide) (by decide) hf3130
        have hA3132 := va_at.kept hA3132 (hgP.1 _ (m_ne hq3131 hG0 (by first | decide | (dsimp only; decide))))
        refine lv_iload hx hb dX12_told_96 (lv_at hl 0 rfl) ?_
        refine lv_iconst (v := 4) hx hb dX12_told_98 (by decide) ?_
        have k3165 := iv_lo r3155
        have k3166 := iv_hi r3155
        refine lv_icmp_ne (tgt := 106) hx hb dX12_told_99 (by decide) (fun c3167 => ?_) (fun c3167 => ?_)
        · skip
          have k3168 := iv_ne (X := r3155.toInt) (Y := (4)) rfl (by decide) c3167
          obtain ⟨mm, h2, hif⟩ := cl_sum hcl (by omega)
          have hl2 := Gr.lt kC_end (by decide) h2
          refine lv_aload_n hx hb dX12_told_106 rfl (lv_at hl 2 rfl) ?_
          refine lv_iconst (v := 1) hx hb dX12_told_107 (by decide) ?_
          refine mx_l (As := [.int 1]) (rest := []) (n := 1) (d := 28) ⟨hx, hb, hml, hown, hts⟩ (c_X12_sumOf l E D G 8 h0 hG0 1 ⟨by decide, by decide⟩ ff tt 0 (pp + 1) mm h2 (by omega) (c_X12_partOf l E D G 8)) wd_1483 wd_1485 wp_50 wd_13 wd_1486 (by decide +kernel) ⟨by rw [hR]; exact Nat.le_of_ble_eq_true rfl, by rw [hR]; exact Nat.le_of_ble_eq_true rfl⟩ hI hN hK hS hG0 (⟨hkf, ht, hT, by omega, ⟨qq3129, hf3130, hq3131, hA3132⟩, ⟨v3162, hg3164, by omega⟩, ⟨w3135, hg3136, by omega⟩⟩) rfl hl.1 rfl (Nat.le_of_ble_eq_true rfl) dX12_told_108 ⟨Nat.zero_le _, Nat.zero_le _⟩ (fun r3169 H locs hI hp hS => ?_)
          have hp0 := hp
          obtain ⟨hkf, ht, hT, k3178, ⟨qq3170, hf3171, hq3172, hA3173⟩, ⟨w3174, hg3175, k3179⟩, ⟨w3176, hg3177, k3180⟩⟩ := hp0
          refine lv_lstore (lv' := [(7, .long r3169), (6, .int r3155), (4, .long l3128), (0, .ref h0), (1, .int x1), (2, .long x2)]) hx hb dX12_told_111 hl (by decide) rfl (fun ls hl => ?_)
          refine lv_aload_n hx hb dX12_told_113 rfl (lv_at hl 3 rfl) ?_
          refine gmI hx hb hts inT12 hown hK hI List.not_mem_nil hG0 21 (by decide) (hts _ (tb_c wd_1254)) rfl rfl dX12_told_114 (fun w3181 hg3182 k3183 k3184 => ?_)
          refine lv_istore (lv' := [(9, .int w3181), (7, .long r3169), (6, .int r3155), (4, .long l3128), (0, .ref h0), (1, .int x1), (2, .long x2)]) hx hb dX12_told_117 hl (by decide) rfl (fun ls hl => ?_)
          refine lv_aload_n hx hb dX12_told_119 rfl (lv_at hl 4 rfl) ?_
          refine lv_iconst (v := 0) hx hb dX12_told_120 (by decide) ?_
          refine pmI (ty := .boolean) hx hb hts inT12 hown hK hI List.not_mem_nil hG0 hS ⟨_, hG0⟩ 21 (by decide) (hts _ (tb_c wd_1254)) rfl rfl (by decide +kernel) (by decide) rfl rfl (by decide) (by decide) dX12_told_121 (fun H locs hI hgP hS => ?_)
          have hg3175 := hgP.2.2.1 19 _ (by decide) (by decide) hg3175
          have hg3177 := hgP.2.2.1 20 _ (by decide) (by decide) hg3177
          have hg3185 := hgP.2.1
          have hf3171 := hgP.2.2.2 3 _ (by decide) (by decide) hf3171
          have hA3173 := va_at.kept hA3173 (hgP.1 _ (m_ne hq3172 hG0 (by first | decide | (dsimp only; decide))))
          refine lv_aload_n hx hb dX12_told_124 rfl (lv_at hl 4 rfl) ?_
          refine lv_iconst (v := 5) hx hb dX12_told_125 (by decide) ?_
          refine mx_i (As := [.int 5]) (rest := []) (n := 1) (d := 1) ⟨hx, hb, hml, hown, hts⟩ (c_X12_passes0 l E D G h0 hG0 5 ff tt mm (by omega)) wd_1498 wd_1500 wp_53 wd_13 wd_1501 (by decide +kernel) ⟨by rw [hR]; exact Nat.le_of_ble_eq_true rfl, by rw [hR]; exact Nat.le_of_ble_eq_true rfl⟩ hI hN hK hS hG0 (⟨hkf, ht, hT, by omega, ⟨qq3170, hf3171, hq3172, hA3173⟩, ⟨w3174, hg3175, by omega⟩, ⟨w3176, hg3177, by omega⟩⟩) rfl hl.1 rfl (Nat.le_of_ble_eq_true rfl) dX12_told_126 ⟨Nat.zero_le _, Nat.zero_le _⟩ (fun r3186 H locs hI hp hS => ?_)
          rcases hp with ⟨rfl, hp⟩ | ⟨rfl, hp⟩
          · skip
            try simp only [rg, not_and, Int.not_le] at hp
            have hp3187 := hp
            obtain ⟨hc3188, hE⟩ := hp3187
            have hp3187 : True := trivial
            rw [show (5 : Int32).toInt = 5 from by decide] at hc3188
            obtain ⟨hkf, ht, hT, k3197, ⟨qq3189, hf3190, hq3191, hA3192⟩, ⟨w3193, hg3194, k3198⟩, ⟨w3195, hg3196, k3199⟩⟩ := hE
            have h5 := if_yes hif hc3188
            have hl5 := Gr.lt kC_end (by decide) h5
            try rw [show (5 : Int32).toInt = 5 from by decide] at hp3187
            refine lv_if_eq (tgt := 140) hx hb dX12_told_129 (by decide) (fun c => absurd c (by decide)) (fun _ => ?_)
            refine lv_aload_n hx hb dX12_told_132 rfl (lv_at hl 4 rfl) ?_
            refine lv_iconst (v := 1) hx hb dX12_told_133 (by decide) ?_
            refine mx_i (As := [.int 1]) (rest := []) (n := 1) (d := 64) ⟨hx, hb, hml, hown, hts⟩ (c_X12_testOf l E D G 8 h0 hG0 1 ⟨by decide, by decide⟩ ff tt 0 (mm + 1) qq h5 (by omega) (c_X12_positiveOf l E D G 8)) wd_1508 wd_1510 wp_55 wd_13 wd_1511 (by decide +kernel) ⟨by rw [hR]; exact Nat.le_of_ble_eq_true rfl, by rw [hR]; exact Nat.le_of_ble_eq_true rfl⟩ hI hN hK hS hG0 (⟨hkf, ht, hT, by omega, ⟨qq3189, hf3190, hq3191, hA3192⟩, ⟨w3193, hg3194, by omega⟩, ⟨w3195, hg3196, by omega⟩⟩) rfl hl.1 rfl (Nat.le_of_ble_eq_true rfl) dX12_told_134 ⟨Nat.zero_le _, Nat.zero_le _⟩ (fun r3200 H locs hI hp hS => ?_)
            obtain ⟨⟨k3201, k3202⟩, hp0⟩ := hp
            have hp : True := trivial
            obtain ⟨hkf, ht, hT, k3211, ⟨qq3203, hf3204, hq3205, hA3206⟩, ⟨w3207, hg3208, k3212⟩, ⟨w3209, hg3210, k3213⟩⟩ := hp0
            have hp3214 := hp
            refine lv_if_eq (tgt := 144) hx hb dX12_told_137 (by decide) (fun c3215 => ?_) (fun c3215 => ?_)
            · skip
              have k3216 := iv_eq (X := r3200.toInt) (Y := (0)) rfl (by decide) c3215
              refine lv_iconst (v := 0) hx hb dX12_told_144 (by decide) ?_
              refine lv_istore (lv' := [(10, .int 0), (9, .int w3181), (7, .long r3169), (6, .int r3155), (4, .long l3128), (0, .ref h0), (1, .int x1), (2, .long x2)]) hx hb dX12_told_145 hl (by decide) rfl (fun ls hl => ?_)
              refine lv_iload hx hb dX12_told_147 (lv_at hl 3 rfl) ?_
              refine lv_iload_n hx hb dX12_told_149 rfl (lv_at hl 6 rfl) ?_
              have k3217 := iv_lo x1
              have k3218 := iv_hi x1
              refine lv_icmp_ne (tgt := 174) hx hb dX12_told_150 (by decide) (fun c3219 => ?_) (fun c3219 => ?_)
              · skip
                have k3220 := iv_ne (X := r3155.toInt) (Y := x1.toInt) rfl rfl c3219
                have hnx3 : kT ff tt ≤ qq + 1 ∨ ∃ n, g_lw (kC ff tt) (kT ff tt) n (qq + 1) := hnx2.imp (fun h => by omega) (fun h => ⟨_, h.2⟩)
                have hqT : qq ≤ kT ff tt := lw_le hnx2
                refine lv_aload_n hx hb dX12_told_174 rfl (lv_at hl 5 rfl) ?_
                refine lv_dup hx hb dX12_told_175 rfl ?_
                refine gmI hx hb hts inT12 hown hK hI List.not_mem_nil hG0 19 (by decide) (hts _ (tb_c wd_1252)) rfl rfl dX12_told_176 (fun w3221 hg3222 k3223 k3224 => ?_)
                obtain rfl := gf.uniq (by decide) hg3208 hg3222
                refine lv_iconst (v := 1) hx hb dX12_told_179 (by decide) ?_
                refine lv_iadd hx hb dX12_told_180 ?_
                refine lv_topi (fun v3225 e3226 => ?_)
                have tv3225 : v3225.toInt = w3207.toInt + (1) := iv_add rfl (by decide) e3226 (by omega) (by omega)
                refine pmI (ty := .int) hx hb hts inT12 hown hK hI List.not_mem_nil hG0 hS ⟨_, hG0⟩ 19 (by decide) (hts _ (tb_c wd_1252)) rfl rfl (by decide +kernel) rfl rfl rfl (by omega) (by omega) dX12_told_181 (fun H locs hI hgP hS => ?_)
                have hg3210 := hgP.2.2.1 20 _ (by decide) (by decide) hg3210
                have hg3227 := hgP.2.1
                have hf3204 := hgP.2.2.2 3 _ (by decide) (by decide) hf3204
                have hA3206 := va_at.kept hA3206 (hgP.1 _ (m_ne hq3205 hG0 (by first | decide | (dsimp only; decide))))
                refine lv_goto (tgt := 60) hx hb dX12_told_184 (by decide) ?_
                exact ih_60 _ (by omega) H locs ls l3128 ff tt (qq + 1) rfl (lv_sub hl [4, 5, 6, 7] rfl) (hnx3) (⟨hkf, ht, hT, by omega, ⟨qq3203, hf3204, hq3205, hA3206⟩, ⟨v3225, hg3227, by omega⟩, ⟨w3209, hg3210, by omega⟩⟩) hI hS
              · skip
                have k3228 := iv_eq (X := r3155.toInt) (Y := x1.toInt) rfl rfl c3219
                refine lv_iload hx hb dX12_told_153 (lv_at hl 0 rfl) ?_
                refine lv_if_eq (tgt := 174) hx hb dX12_told_155 (by decide) (fun _ => ?_) (fun c => absurd c (by decide))
                have hnx3 : kT ff tt ≤ qq + 1 ∨ ∃ n, g_lw (kC ff tt) (kT ff tt) n (qq + 1) := hnx2.imp (fun h => by omega) (fun h => ⟨_, h.2⟩)
                have hqT : qq ≤ kT ff tt := lw_le hnx2
                refine lv_aload_n hx hb dX12_told_174 rfl (lv_at hl 5 rfl) ?_
                refine lv_dup hx hb dX12_told_175 rfl ?_
                refine gmI hx hb hts inT12 hown hK hI List.not_mem_nil hG0 19 (by decide) (hts _ (tb_c wd_1252)) rfl rfl dX12_told_176 (fun w3229 hg3230 k3231 k3232 => ?_)
                obtain rfl := gf.uniq (by decide) hg3208 hg3230
                refine lv_iconst (v := 1) hx hb dX12_told_179 (by decide) ?_
                refine lv_iadd hx hb dX12_told_180 ?_
                refine lv_topi (fun v3233 e3234 => ?_)
                have tv3233 : v3233.toInt = w3207.toInt + (1) := iv_add rfl (by decide) e3234 (by omega) (by omega)
                refine pmI (ty := .int) hx hb hts inT12 hown hK hI List.not_mem_nil hG0 hS ⟨_, hG0⟩ 19 (by decide) (hts _ (tb_c wd_1252)) rfl rfl (by decide +kernel) rfl rfl rfl (by omega) (by omega) dX12_told_181 (fun H locs hI hgP hS => ?_)
                have hg3210 := hgP.2.2.1 20 _ (by decide) (by decide) hg3210
                have hg3235 := hgP.2.1
                have hf3204 := hgP.2.2.2 3 _ (by decide) (by decide) hf3204
                have hA3206 := va_at.kept hA3206 (hgP.1 _ (m_ne hq3205 hG0 (by first | decide | (dsimp only; decide))))
                refine lv_goto (tgt := 60) hx hb dX12_told_184 (by decide) ?_
                exact ih_60 _ (by omega) H locs ls l3128 ff tt (qq + 1) rfl (lv_sub hl [4, 5, 6, 7] rfl) (hnx3) (⟨hkf, ht, hT, by omega, ⟨qq3203, hf3204, hq3205, hA3206⟩, ⟨v3233, hg3235, by omega⟩, ⟨w3209, hg3210, by omega⟩⟩) hI hS
            · skip
              have k3236 := iv_ne (X := r3200.toInt) (Y := (0)) rfl (by decide) c3215
              refine lv_iconst (v := 1) hx hb dX12_told_140 (by decide) ?_
              refine lv_goto (tgt := 145) hx hb dX12_told_141 (by decide) ?_
              refine lv_istore (lv' := [(10, .int 1), (9, .int w3181), (7, .long r3169), (6, .int r3155), (4, .long l3128), (0, .ref h0), (1, .int x1), (2, .long x2)]) hx hb dX12_told_145 hl (by decide) rfl (fun ls hl => ?_)
              refine lv_iload hx hb dX12_told_147 (lv_at hl 3 rfl) ?_
              refine lv_iload_n hx hb dX12_told_149 rfl (lv_at hl 6 rfl) ?_
              have k3237 := iv_lo x1
              have k3238 := iv_hi x1
              refine lv_icmp_ne (tgt := 174) hx hb dX12_told_150 (by decide) (fun c3239 => ?_) (fun c3239 => ?_)
              · skip
                have k3240 := iv_ne (X := r3155.toInt) (Y := x1.toInt) rfl rfl c3239
                have hnx3 : kT ff tt ≤ qq + 1 ∨ ∃ n, g_lw (kC ff tt) (kT ff tt) n (qq + 1) := hnx2.imp (fun h => by omega) (fun h => ⟨_, h.2⟩)
                have hqT : qq ≤ kT ff tt := lw_le hnx2
                refine lv_aload_n hx hb dX12_told_174 rfl (lv_at hl 5 rfl) ?_
                refine lv_dup hx hb dX12_told_175 rfl ?_
                refine gmI hx hb hts inT12 hown hK hI List.not_mem_nil hG0 19 (by decide) (hts _ (tb_c wd_1252)) rfl rfl dX12_told_176 (fun w3241 hg3242 k3243 k3244 => ?_)
                obtain rfl := gf.uniq (by decide) hg3208 hg3242
                refine lv_iconst (v := 1) hx hb dX12_told_179 (by decide) ?_
                refine lv_iadd hx hb dX12_told_180 ?_
                refine lv_topi (fun v3245 e3246 => ?_)
                have tv3245 : v3245.toInt = w3207.toInt + (1) := iv_add rfl (by decide) e3246 (by omega) (by omega)
                refine pmI (ty := .int) hx hb hts inT12 hown hK hI List.not_mem_nil hG0 hS ⟨_, hG0⟩ 19 (by decide) (hts _ (tb_c wd_1252)) rfl rfl (by decide +kernel) rfl rfl rfl (by omega) (by omega) dX12_told_181 (fun H locs hI hgP hS => ?_)
                have hg3210 := hgP.2.2.1 20 _ (by decide) (by decide) hg3210
                have hg3247 := hgP.2.1
                have hf3204 := hgP.2.2.2 3 _ (by decide) (by decide) hf3204
                have hA3206 := va_at.kept hA3206 (hgP.1 _ (m_ne hq3205 hG0 (by first | decide | (dsimp only; decide))))
                refine lv_goto (tgt := 60) hx hb dX12_told_184 (by decide) ?_
                exact ih_60 _ (by omega) H locs ls l3128 ff tt (qq + 1) rfl (lv_sub hl [4, 5, 6, 7] rfl) (hnx3) (⟨hkf, ht, hT, by omega, ⟨qq3203, hf3204, hq3205, hA3206⟩, ⟨v3245, hg3247, by omega⟩, ⟨w3209, hg3210, by omega⟩⟩) hI hS
              · skip
                have k3248 := iv_eq (X := r3155.toInt) (Y := x1.toInt) rfl rfl c3239
                refine lv_iload hx hb dX12_told_153 (lv_at hl 0 rfl) ?_
                refine lv_if_eq (tgt := 174) hx hb dX12_told_155 (by decide) (fun c => absurd c (by decide)) (fun _ => ?_)
                refine lv_aload_n hx hb dX12_told_158 rfl (lv_at hl 5 rfl) ?_
                refine gmI hx hb hts inT12 hown hK hI List.not_mem_nil hG0 21 (by decide) (hts _ (tb_c wd_1254)) rfl rfl dX12_told_159 (fun w3249 hg3250 k3251 k3252 => ?_)
                refine lv_if_ne (tgt := 174) hx hb dX12_told_162 (by decide) (fun c3253 => ?_) (fun c3253 => ?_)
                · skip
                  have k3254 := iv_ne (X := w3249.toInt) (Y := (0)) rfl (by decide) c3253
                  have hnx3 : kT ff tt ≤ qq + 1 ∨ ∃ n, g_lw (kC ff tt) (kT ff tt) n (qq + 1) := hnx2.imp (fun h => by omega) (fun h => ⟨_, h.2⟩)
                  have hqT : qq ≤ kT ff tt := lw_le hnx2
                  refine lv_aload_n hx hb dX12_told_174 rfl (lv_at hl 5 rfl) ?_
                  refine lv_dup hx hb dX12_told_175 rfl ?_
                  refine gmI hx hb hts inT12 hown hK hI List.not_mem_nil hG0 19 (by decide) (hts _ (tb_c wd_1252)) rfl rfl dX12_told_176 (fun w3255 hg3256 k3257 k3258 => ?_)
                  obtain rfl := gf.uniq (by decide) hg3208 hg3256
                  refine lv_iconst (v := 1) hx hb dX12_told_179 (by decide) ?_
                  refine lv_iadd hx hb dX12_told_180 ?_
                  refine lv_topi (fun v3259 e3260 => ?_)
                  have tv3259 : v3259.toInt = w3207.toInt + (1) := iv_add rfl (by decide) e3260 (by omega) (by omega)
                  refine pmI (ty := .int) hx hb hts inT12 hown hK hI List.not_mem_nil hG0 hS ⟨_, hG0⟩ 19 (by decide) (hts _ (tb_c wd_1252)) rfl rfl (by decide +kernel) rfl rfl rfl (by omega) (by omega) dX12_told_181 (fun H locs hI hgP hS => ?_)
                  have hg3210 := hgP.2.2.1 20 _ (by decide) (by decide) hg3210
                  have hg3250 := hgP.2.2.1 21 _ (by decide) (by decide) hg3250
                  have hg3261 := hgP.2.1
                  have hf3204 := hgP.2.2.2 3 _ (by decide) (by decide) hf3204
                  have hA3206 := va_at.kept hA3206 (hgP.1 _ (m_ne hq3205 hG0 (by first | decide | (dsimp only; decide))))
                  refine lv_goto (tgt := 60) hx hb dX12_told_184 (by decide) ?_
                  exact ih_60 _ (by omega) H locs ls l3128 ff tt (qq + 1) rfl (lv_sub hl [4, 5, 6, 7] rfl) (hnx3) (⟨hkf, ht, hT, by omega, ⟨qq3203, hf3204, hq3205, hA3206⟩, ⟨v3259, hg3261, by omega⟩, ⟨w3209, hg3210, by omega⟩⟩) hI hS
                · skip
                  have k3262 := iv_eq (X := w3249.toInt) (Y := (0)) rfl (by decide) c3253
                  refine lv_iload hx hb dX12_told_165 (lv_at hl 1 rfl) ?_
                  refine lv_if_ne (tgt := 174) hx hb dX12_told_167 (by decide) (fun c3263 => ?_) (fun c3263 => ?_)
                  · skip
                    have k3264 := iv_ne (X := w3181.toInt) (Y := (0)) rfl (by decide) c3263
                    have hnx3 : kT ff tt ≤ qq + 1 ∨ ∃ n, g_lw (kC ff tt) (kT ff tt) n (qq + 1) := hnx2.imp (fun h => by omega) (fun h => ⟨_, h.2⟩)
                    have hqT : qq ≤ kT ff tt := lw_le hnx2
                    refine lv_aload_n hx hb dX12_told_174 rfl (lv_at hl 5 rfl) ?_
                    refine lv_dup hx hb dX12_told_175 rfl ?_
                    refine gmI hx hb hts inT12 hown hK hI List.not_mem_nil hG0 19 (by decide) (hts _ (tb_c wd_1252)) rfl rfl dX12_told_176 (fun w3265 hg3266 k3267 k3268 => ?_)
                    obtain rfl := gf.uniq (by decide) hg3208 hg3266
                    refine lv_iconst (v := 1) hx hb dX12_told_179 (by decide) ?_
                    refine lv_iadd hx hb dX12_told_180 ?_
                    refine lv_topi (fun v3269 e3270 => ?_)
                    have tv3269 : v3269.toInt = w3207.toInt + (1) := iv_add rfl (by decide) e3270 (by omega) (by omega)
                    refine pmI (ty := .int) hx hb hts inT12 hown hK hI List.not_mem_nil hG0 hS ⟨_, hG0⟩ 19 (by decide) (hts _ (tb_c wd_1252)) rfl rfl (by decide +kernel) rfl rfl rfl (by omega) (by omega) dX12_told_181 (fun H locs hI hgP hS => ?_)
                    have hg3210 := hgP.2.2.1 20 _ (by decide) (by decide) hg3210
                    have hg3250 := hgP.2.2.1 21 _ (by decide) (by decide) hg3250
                    have hg3271 := hgP.2.1
                    have hf3204 := hgP.2.2.2 3 _ (by decide) (by decide) hf3204
                    have hA3206 := va_at.kept hA3206 (hgP.1 _ (m_ne hq3205 hG0 (by first | decide | (dsimp only; decide))))
                    refine lv_goto (tgt := 60) hx hb dX12_told_184 (by decide) ?_
                    exact ih_60 _ (by omega) H locs ls l3128 ff tt (qq + 1) rfl (lv_sub hl [4, 5, 6, 7] rfl) (hnx3) (⟨hkf, ht, hT, by omega, ⟨qq3203, hf3204, hq3205, hA3206⟩, ⟨v3269, hg3271, by omega⟩, ⟨w3209, hg3210, by omega⟩⟩) hI hS
                  · skip
                    have k3272 := iv_eq (X := w3181.toInt) (Y := (0)) rfl (by decide) c3263
                    refine lv_lload hx hb dX12_told_170 (lv_at hl 2 rfl) ?_
                    refine lv_lstore (lv' := [(4, .long r3169), (10, .int 1), (9, .int w3181), (7, .long r3169), (6, .int r3155), (0, .ref h0), (1, .int x1), (2, .long x2)]) hx hb dX12_told_172 hl (by decide) rfl (fun ls hl => ?_)
                    have hnx3 : kT ff tt ≤ qq + 1 ∨ ∃ n, g_lw (kC ff tt) (kT ff tt) n (qq + 1) := hnx2.imp (fun h => by omega) (fun h => ⟨_, h.2⟩)
                    have hqT : qq ≤ kT ff tt := lw_le hnx2
                    refine lv_aload_n hx hb dX12_told_174 rfl (lv_at hl 5 rfl) ?_
                    refine lv_dup hx hb dX12_told_175 rfl ?_
                    refine gmI hx hb hts inT12 hown hK hI List.not_mem_nil hG0 19 (by decide) (hts _ (tb_c wd_1252)) rfl rfl dX12_told_176 (fun w3273 hg3274 k3275 k3276 => ?_)
                    obtain rfl := gf.uniq (by decide) hg3208 hg3274
                    refine lv_iconst (v := 1) hx hb dX12_told_179 (by decide) ?_
                    refine lv_iadd hx hb dX12_told_180 ?_
                    refine lv_topi (fun v3277 e3278 => ?_)
                    have tv3277 : v3277.toInt = w3207.toInt + (1) := iv_add rfl (by decide) e3278 (by omega) (by omega)
                    refine pmI (ty := .int) hx hb hts inT12 hown hK hI List.not_mem_nil hG0 hS ⟨_, hG0⟩ 19 (by decide) (hts _ (tb_c wd_1252)) rfl rfl (by decide +kernel) rfl rfl rfl (by omega) (by omega) dX12_told_181 (fun H locs hI hgP hS => ?_)
                    have hg3210 := hgP.2.2.1 20 _ (by decide) (by decide) hg3210
                    have hg3250 := hgP.2.2.1 21 _ (by decide) (by decide) hg3250
                    have hg3279 := hgP.2.1
                    have hf3204 := hgP.2.2.2 3 _ (by decide) (by decide) hf3204
                    have hA3206 := va_at.kept hA3206 (hgP.1 _ (m_ne hq3205 hG0 (by first | decide | (dsimp only; decide))))
                    refine lv_goto (tgt := 60) hx hb dX12_told_184 (by decide) ?_
                    exact ih_60 _ (by omega) H locs ls r3169 ff tt (qq + 1) rfl (lv_sub hl [0, 5, 6, 7] rfl) (hnx3) (⟨hkf, ht, hT, by omega, ⟨qq3203, hf3204, hq3205, hA3206⟩, ⟨v3277, hg3279, by omega⟩, ⟨w3209, hg3210, by omega⟩⟩) hI hS
          · skip
            try simp only [rg, not_and, Int.not_le] at hp
            have hp3280 := hp
            obtain ⟨hc3281, hE⟩ := hp3280
            have hp3280 : True := trivial
            rw [show (5 : Int32).toInt = 5 from by decide] at hc3281
            obtain ⟨hkf, ht, hT, k3290, ⟨qq3282, hf3283, hq3284, hA3285⟩, ⟨w3286, hg3287, k3291⟩, ⟨w3288, hg3289, k3292⟩⟩ := hE
            have hqm := if_no hif hc3281
            try rw [show (5 : Int32).toInt = 5 from by decide] at hp3280
            refine lv_if_eq (tgt := 140) hx hb dX12_told_129 (by decide) (fun _ => ?_) (fun c => absurd c (by decide))
            refine lv_iconst (v := 1) hx hb dX12_told_140 (by decide) ?_
            refine lv_goto (tgt := 145) hx hb dX12_told_141 (by decide) ?_
            refine lv_istore (lv' := [(10, .int 1), (9, .int w3181), (7, .long r3169), (6, .int r3155), (4, .long l3128), (0, .ref h0), (1, .int x1), (2, .long x2)]) hx hb dX12_told_145 hl (by decide) rfl (fun ls hl => ?_)
            refine lv_iload hx hb dX12_told_147 (lv_at hl 3 rfl) ?_
            refine lv_iload_n hx hb dX12_told_149 rfl (lv_at hl 6 rfl) ?_
            have k3293 := iv_lo x1
            have k3294 := iv_hi x1
            refine lv_icmp_ne (tgt := 174) hx hb dX12_told_150 (by decide) (fun c3295 => ?_) (fun c3295 => ?_)
            · skip
              have k3296 := iv_ne (X := r3155.toInt) (Y := x1.toInt) rfl rfl c3295
              have hnx3 : kT ff tt ≤ qq + 1 ∨ ∃ n, g_lw (kC ff tt) (kT ff tt) n (qq + 1) := hnx2.imp (fun h => by omega) (fun h => ⟨_, h.2⟩)
              have hqT : qq ≤ kT ff tt := lw_le hnx2
              refine lv_aload_n hx hb dX12_told_174 rfl (lv_at hl 5 rfl) ?_
              refine lv_dup hx hb dX12_told_175 rfl ?_
              refine gmI hx hb hts inT12 hown hK hI List.not_mem_nil hG0 19 (by decide) (hts _ (tb_c wd_1252)) rfl rfl dX12_told_176 (fun w3297 hg3298 k3299 k3300 => ?_)
              obtain rfl := gf.uniq (by decide) hg3287 hg3298
              refine lv_iconst (v := 1) hx hb dX12_told_179 (by decide) ?_
              refine lv_iadd hx hb dX12_told_180 ?_
              refine lv_topi (fun v3301 e3302 => ?_)
              have tv3301 : v3301.toInt = w3286.toInt + (1) := iv_add rfl (by decide) e3302 (by omega) (by omega)
              refine pmI (ty := .int) hx hb hts inT12 hown hK hI List.not_mem_nil hG0 hS ⟨_, hG0⟩ 19 (by decide) (hts _ (tb_c wd_1252)) rfl rfl (by decide +kernel) rfl rfl rfl (by omega) (by omega) dX12_told_181 (fun H locs hI hgP hS => ?_)
              have hg3289 := hgP.2.2.1 20 _ (by decide) (by decide) hg3289
              have hg3303 := hgP.2.1
              have hf3283 := hgP.2.2.2 3 _ (by decide) (by decide) hf3283
              have hA3285 := va_at.kept hA3285 (hgP.1 _ (m_ne hq3284 hG0 (by first | decide | (dsimp only; decide))))
              refine lv_goto (tgt := 60) hx hb dX12_told_184 (by decide) ?_
              exact ih_60 _ (by omega) H locs ls l3128 ff tt (qq + 1) rfl (lv_sub hl [4, 5, 6, 7] rfl) (hnx3) (⟨hkf, ht, hT, by omega, ⟨qq3282, hf3283, hq3284, hA3285⟩, ⟨v3301, hg3303, by omega⟩, ⟨w3288, hg3289, by omega⟩⟩) hI hS
            · skip
              have k3304 := iv_eq (X := r3155.toInt) (Y := x1.toInt) rfl rfl c3295
              refine lv_iload hx hb dX12_told_153 (lv_at hl 0 rfl) ?_
              refine lv_if_eq (tgt := 174) hx hb dX12_told_155 (by decide) (fun c => absurd c (by decide)) (fun _ => ?_)
              refine lv_aload_n hx hb dX12_told_158 rfl (lv_at hl 5 rfl) ?_
              refine gmI hx hb hts inT12 hown hK hI List.not_mem_nil hG0 21 (by decide) (hts _ (tb_c wd_1254)) rfl rfl dX12_told_159 (fun w3305 hg3306 k3307 k3308 => ?_)
              refine lv_if_ne (tgt := 174) hx hb dX12_told_162 (by decide) (fun c3309 => ?_) (fun c3309 => ?_)
              · skip
                have k3310 := iv_ne (X := w3305.toInt) (Y := (0)) rfl (by decide) c3309
                have hnx3 : kT ff tt ≤ qq + 1 ∨ ∃ n, g_lw (kC ff tt) (kT ff tt) n (qq + 1) := hnx2.imp (fun h => by omega) (fun h => ⟨_, h.2⟩)
                have hqT : qq ≤ kT ff tt := lw_le hnx2
                refine lv_aload_n hx hb dX12_told_174 rfl (lv_at hl 5 rfl) ?_
                refine lv_dup hx hb dX12_told_175 rfl ?_
                refine gmI hx hb hts inT12 hown hK hI List.not_mem_nil hG0 19 (by decide) (hts _ (tb_c wd_1252)) rfl rfl dX12_told_176 (fun w3311 hg3312 k3313 k3314 => ?_)
                obtain rfl := gf.uniq (by decide) hg3287 hg3312
                refine lv_iconst (v := 1) hx hb dX12_told_179 (by decide) ?_
                refine lv_iadd hx hb dX12_told_180 ?_
                refine lv_topi (fun v3315 e3316 => ?_)
                have tv3315 : v3315.toInt = w3286.toInt + (1) := iv_add rfl (by decide) e3316 (by omega) (by omega)
                refine pmI (ty := .int) hx hb hts inT12 hown hK hI List.not_mem_nil hG0 hS ⟨_, hG0⟩ 19 (by decide) (hts _ (tb_c wd_1252)) rfl rfl (by decide +kernel) rfl rfl rfl (by omega) (by omega) dX12_told_181 (fun H locs hI hgP hS => ?_)
                have hg3289 := hgP.2.2.1 20 _ (by decide) (by decide) hg3289
                have hg3306 := hgP.2.2.1 21 _ (by decide) (by decide) hg3306
                have hg3317 := hgP.2.1
                have hf3283 := hgP.2.2.2 3 _ (by decide) (by decide) hf3283
                have hA3285 := va_at.kept hA3285 (hgP.1 _ (m_ne hq3284 hG0 (by first | decide | (dsimp only; decide))))
                refine lv_goto (tgt := 60) hx hb dX12_told_184 (by decide) ?_
                exact ih_60 _ (by omega) H locs ls l3128 ff tt (qq + 1) rfl (lv_sub hl [4, 5, 6, 7] rfl) (hnx3) (⟨hkf, ht, hT, by omega, ⟨qq3282, hf3283, hq3284, hA3285⟩, ⟨v3315, hg3317, by omega⟩, ⟨w3288, hg3289, by omega⟩⟩) hI hS
              · skip
                have k3318 := iv_eq (X := w3305.toInt) (Y := (0)) rfl (by decide) c3309
                refine lv_iload hx hb dX12_told_165 (lv_at hl 1 rfl) ?_
                refine lv_if_ne (tgt := 174) hx hb dX12_told_167 (by decide) (fun c3319 => ?_) (fun c3319 => ?_)
                · skip
                  have k3320 := iv_ne (X := w3181.toInt) (Y := (0)) rfl (by decide) c3319
                  have hnx3 : kT ff tt ≤ qq + 1 ∨ ∃ n, g_lw (kC ff tt) (kT ff tt) n (qq + 1) := hnx2.imp (fun h => by omega) (fun h => ⟨_, h.2⟩)
                  have hqT : qq ≤ kT ff tt := lw_le hnx2
                  refine lv_aload_n hx hb dX12_told_174 rfl (lv_at hl 5 rfl) ?_
                  refine lv_dup hx hb dX12_told_175 rfl ?_
                  refine gmI hx hb hts inT12 hown hK hI List.not_mem_nil hG0 19 (by decide) (hts _ (tb_c wd_1252)) rfl rfl dX12_told_176 (fun w3321 hg3322 k3323 k3324 => ?_)
                  obtain rfl := gf.uniq (by decide) hg3287 hg3322
                  refine lv_iconst (v := 1) hx hb dX12_told_179 (by decide) ?_
                  refine lv_iadd hx hb dX12_told_180 ?_
                  refine lv_topi (fun v3325 e3326 => ?_)
                  have tv3325 : v3325.toInt = w3286.toInt + (1) := iv_add rfl (by decide) e3326 (by omega) (by omega)
                  refine pmI (ty := .int) hx hb hts inT12 hown hK hI List.not_mem_nil hG0 hS ⟨_, hG0⟩ 19 (by decide) (hts _ (tb_c wd_1252)) rfl rfl (by decide +kernel) rfl rfl rfl (by omega) (by omega) dX12_told_181 (fun H locs hI hgP hS => ?_)
                  have hg3289 := hgP.2.2.1 20 _ (by decide) (by decide) hg3289
                  have hg3306 := hgP.2.2.1 21 _ (by decide) (by decide) hg3306
                  have hg3327 := hgP.2.1
                  have hf3283 := hgP.2.2.2 3 _ (by decide) (by decide) hf3283
                  have hA3285 := va_at.kept hA3285 (hgP.1 _ (m_ne hq3284 hG0 (by first | decide | (dsimp only; decide))))
                  refine lv_goto (tgt := 60) hx hb dX12_told_184 (by decide) ?_
                  exact ih_60 _ (by omega) H locs ls l3128 ff tt (qq + 1) rfl (lv_sub hl [4, 5, 6, 7] rfl) (hnx3) (⟨hkf, ht, hT, by omega, ⟨qq3282, hf3283, hq3284, hA3285⟩, ⟨v3325, hg3327, by omega⟩, ⟨w3288, hg3289, by omega⟩⟩) hI hS
                · skip
                  have k3328 := iv_eq (X := w3181.toInt) (Y := (0)) rfl (by decide) c3319
                  refine lv_lload hx hb dX12_told_170 (lv_at hl 2 rfl) ?_
                  refine lv_lstore (lv' := [(4, .long r3169), (10, .int 1), (9, .int w3181), (7, .long r3169), (6, .int r3155), (0, .ref h0), (1, .int x1), (2, .long x2)]) hx hb dX12_told_172 hl (by decide) rfl (fun ls hl => ?_)
                  have hnx3 : kT ff tt ≤ qq + 1 ∨ ∃ n, g_lw (kC ff tt) (kT ff tt) n (qq + 1) := hnx2.imp (fun h => by omega) (fun h => ⟨_, h.2⟩)
                  have hqT : qq ≤ kT ff tt := lw_le hnx2
                  refine lv_aload_n hx hb dX12_told_174 rfl (lv_at hl 5 rfl) ?_
                  refine lv_dup hx hb dX12_told_175 rfl ?_
                  refine gmI hx hb hts inT12 hown hK hI List.not_mem_nil hG0 19 (by decide) (hts _ (tb_c wd_1252)) rfl rfl dX12_told_176 (fun w3329 hg3330 k3331 k3332 => ?_)
                  obtain rfl := gf.uniq (by decide) hg3287 hg3330
                  refine lv_iconst (v := 1) hx hb dX12_told_179 (by decide) ?_
                  refine lv_iadd hx hb dX12_told_180 ?_
                  refine lv_topi (fun v3333 e3334 => ?_)
                  have tv3333 : v3333.toInt = w3286.toInt + (1) := iv_add rfl (by decide) e3334 (by omega) (by omega)
                  refine pmI (ty := .int) hx hb hts inT12 hown hK hI List.not_mem_nil hG0 hS ⟨_, hG0⟩ 19 (by decide) (hts _ (tb_c wd_1252)) rfl rfl (by decide +kernel) rfl rfl rfl (by omega) (by omega) dX12_told_181 (fun H locs hI hgP hS => ?_)
                  have hg3289 := hgP.2.2.1 20 _ (by decide) (by decide) hg3289
                  have hg3306 := hgP.2.2.1 21 _ (by decide) (by decide) hg3306
                  have hg3335 := hgP.2.1
                  have hf3283 := hgP.2.2.2 3 _ (by decide) (by decide) hf3283
                  have hA3285 := va_at.kept hA3285 (hgP.1 _ (m_ne hq3284 hG0 (by first | decide | (dsimp only; decide))))
                  refine lv_goto (tgt := 60) hx hb dX12_told_184 (by decide) ?_
                  exact ih_60 _ (by omega) H locs ls r3169 ff tt (qq + 1) rfl (lv_sub hl [0, 5, 6, 7] rfl) (hnx3) (⟨hkf, ht, hT, by omega, ⟨qq3282, hf3283, hq3284, hA3285⟩, ⟨v3333, hg3335, by omega⟩, ⟨w3288, hg3289, by omega⟩⟩) hI hS
        · skip
          have k3336 := iv_eq (X := r3155.toInt) (Y := (4)) rfl (by decide) c3167
          have hif := cl_bars hcl (by omega)
          refine lv_lconst hx hb dX12_told_102 rfl ?_
          refine lv_topl (fun l3337 e3338 => ?_)
          refine lv_goto (tgt := 111) hx hb dX12_told_103 (by decide) ?_
          refine lv_lstore (lv' := [(7, .long l3337), (6, .int r3155), (4, .long l3128), (0, .ref h0), (1, .int x1), (2, .long x2)]) hx hb dX12_told_111 hl (by decide) rfl (fun ls hl => ?_)
          refine lv_aload_n hx hb dX12_told_113 rfl (lv_at hl 3 rfl) ?_
          refine gmI hx hb hts inT12 hown hK hI List.not_mem_nil hG0 21 (by decide) (hts _ (tb_c wd_1254)) rfl rfl dX12_told_114 (fun w3339 hg3340 k3341 k3342 => ?_)
          obtain rfl := gf.uniq (by decide) hg3157 hg3340
          refine lv_istore (lv' := [(9, .int 0), (7, .long l3337), (6, .int r3155), (4, .long l3128), (0, .ref h0), (1, .int x1), (2, .long x2)]) hx hb dX12_told_117 hl (by decide) rfl (fun ls hl => ?_)
          refine lv_aload_n hx hb dX12_told_119 rfl (lv_at hl 4 rfl) ?_
          refine lv_iconst (v := 0) hx hb dX12_told_120 (by decide) ?_
          refine pmI (ty := .boolean) hx hb hts inT12 hown hK hI List.not_mem_nil hG0 hS ⟨_, hG0⟩ 21 (by decide) (hts _ (tb_c wd_1254)) rfl rfl (by decide +kernel) (by decide) rfl rfl (by decide) (by decide) dX12_told_121 (fun H locs hI hgP hS => ?_)
          have hg3164 := hgP.2.2.1 19 _ (by decide) (by decide) hg3164
          have hg3136 := hgP.2.2.1 20 _ (by decide) (by decide) hg3136
          have hg3343 := hgP.2.1
          have hf3130 := hgP.2.2.2 3 _ (by decide) (by decide) hf3130
          have hA3132 := va_at.kept hA3132 (hgP.1 _ (m_ne hq3131 hG0 (by first | decide | (dsimp only; decide))))
          refine lv_aload_n hx hb dX12_told_124 rfl (lv_at hl 4 rfl) ?_
          refine lv_iconst (v := 5) hx hb dX12_told_125 (by decide) ?_
          refine mx_i (As := [.int 5]) (rest := []) (n := 1) (d := 1) ⟨hx, hb, hml, hown, hts⟩ (c_X12_passes0 l E D G h0 hG0 5 ff tt (pp + 1) (by omega)) wd_1498 wd_1500 wp_53 wd_13 wd_1501 (by decide +kernel) ⟨by rw [hR]; exact Nat.le_of_ble_eq_true rfl, by rw [hR]; exact Nat.le_of_ble_eq_true rfl⟩ hI hN hK hS hG0 (⟨hkf, ht, hT, by omega, ⟨qq3129, hf3130, hq3131, hA3132⟩, ⟨v3162, hg3164, by omega⟩, ⟨w3135, hg3136, by omega⟩⟩) rfl hl.1 rfl (Nat.le_of_ble_eq_true rfl) dX12_told_126 ⟨Nat.zero_le _, Nat.zero_le _⟩ (fun r3344 H locs hI hp hS => ?_)
          rcases hp with ⟨rfl, hp⟩ | ⟨rfl, hp⟩
          · skip
            try simp only [rg, not_and, Int.not_le] at hp
            have hp3345 := hp
            obtain ⟨hc3346, hE⟩ := hp3345
            have hp3345 : True := trivial
            rw [show (5 : Int32).toInt = 5 from by decide] at hc3346
            obtain ⟨hkf, ht, hT, k3355, ⟨qq3347, hf3348, hq3349, hA3350⟩, ⟨w3351, hg3352, k3356⟩, ⟨w3353, hg3354, k3357⟩⟩ := hE
            have h5 := if_yes hif hc3346
            have hl5 := Gr.lt kC_end (by decide) h5
            try rw [show (5 : Int32).toInt = 5 from by decide] at hp3345
            refine lv_if_eq (tgt := 140) hx hb dX12_told_129 (by decide) (fun c => absurd c (by decide)) (fun _ => ?_)
            refine lv_aload_n hx hb dX12_told_132 rfl (lv_at hl 4 rfl) ?_
            refine lv_iconst (v := 1) hx hb dX12_told_133 (by decide) ?_
            refine mx_i (As := [.int 1]) (rest := []) (n := 1) (d := 64) ⟨hx, hb, hml, hown, hts⟩ (c_X12_testOf l E D G 8 h0 hG0 1 ⟨by decide, by decide⟩ ff tt 0 ((pp + 1) + 1) qq h5 (by omega) (c_X12_positiveOf l E D G 8)) wd_1508 wd_1510 wp_55 wd_13 wd_1511 (by decide +kernel) ⟨by rw [hR]; exact Nat.le_of_ble_eq_true rfl, by rw [hR]; exact Nat.le_of_ble_eq_true rfl⟩ hI hN hK hS hG0 (⟨hkf, ht, hT, by omega, ⟨qq3347, hf3348, hq3349, hA3350⟩, ⟨w3351, hg3352, by omega⟩, ⟨w3353, hg3354, by omega⟩⟩) rfl hl.1 rfl (Nat.le_of_ble_eq_true rfl) dX12_told_134 ⟨Nat.zero_le _, Nat.zero_le _⟩ (fun r3358 H locs hI hp hS => ?_)
            obtain ⟨⟨k3359, k3360⟩, hp0⟩ := hp
            have hp : True := trivial
            obtain ⟨hkf, ht, hT, k3369, ⟨qq3361, hf3362, hq3363, hA3364⟩, ⟨w3365, hg3366, k3370⟩, ⟨w3367, hg3368, k3371⟩⟩ := hp0
            have hp3372 := hp
            refine lv_if_eq (tgt := 144) hx hb dX12_told_137 (by decide) (fun c3373 => ?_) (fun c3373 => ?_)
            · skip
              have k3374 := iv_eq (X := r3358.toInt) (Y := (0)) rfl (by decide) c3373
              refine lv_iconst (v := 0) hx hb dX12_told_144 (by decide) ?_
              refine lv_istore (lv' := [(10, .int 0), (9, .int 0), (7, .long l3337), (6, .int r3155), (4, .long l3128), (0, .ref h0), (1, .int x1), (2, .long x2)]) hx hb dX12_told_145 hl (by decide) rfl (fun ls hl => ?_)
              refine lv_iload hx hb dX12_told_147 (lv_at hl 3 rfl) ?_
              refine lv_iload_n hx hb dX12_told_149 rfl (lv_at hl 6 rfl) ?_
              have k3375 := iv_lo x1
              have k3376 := iv_hi x1
              refine lv_icmp_ne (tgt := 174) hx hb dX12_told_150 (by decide) (fun c3377 => ?_) (fun c3377 => ?_)
              · skip
                have k3378 := iv_ne (X := r3155.toInt) (Y := x1.toInt) rfl rfl c3377
                have hnx3 : kT ff tt ≤ qq + 1 ∨ ∃ n, g_lw (kC ff tt) (kT ff tt) n (qq + 1) := hnx2.imp (fun h => by omega) (fun h => ⟨_, h.2⟩)
                have hqT : qq ≤ kT ff tt := lw_le hnx2
                refine lv_aload_n hx hb dX12_told_174 rfl (lv_at hl 5 rfl) ?_
                refine lv_dup hx hb dX12_told_175 rfl ?_
                refine gmI hx hb hts inT12 hown hK hI List.not_mem_nil hG0 19 (by decide) (hts _ (tb_c wd_1252)) rfl rfl dX12_told_176 (fun w3379 hg3380 k3381 k3382 => ?_)
                obtain rfl := gf.uniq (by decide) hg3366 hg3380
                refine lv_iconst (v := 1) hx hb dX12_told_179 (by decide) ?_
                refine lv_iadd hx hb dX12_told_180 ?_
                refine lv_topi (fun v3383 e3384 => ?_)
                have tv3383 : v3383.toInt = w3365.toInt + (1) := iv_add rfl (by decide) e3384 (by omega) (by omega)
                refine pmI (ty := .int) hx hb hts inT12 hown hK hI List.not_mem_nil hG0 hS ⟨_, hG0⟩ 19 (by decide) (hts _ (tb_c wd_1252)) rfl rfl (by decide +kernel) rfl rfl rfl (by omega) (by omega) dX12_told_181 (fun H locs hI hgP hS => ?_)
                have hg3368 := hgP.2.2.1 20 _ (by decide) (by decide) hg3368
                have hg3385 := hgP.2.1
                have hf3362 := hgP.2.2.2 3 _ (by decide) (by decide) hf3362
                have hA3364 := va_at.kept hA3364 (hgP.1 _ (m_ne hq3363 hG0 (by first | decide | (dsimp only; decide))))
                refine lv_goto (tgt := 60) hx hb dX12_told_184 (by decide) ?_
                exact ih_60 _ (by omega) H locs ls l3128 ff tt (qq + 1) rfl (lv_sub hl [4, 5, 6, 7] rfl) (hnx3) (⟨hkf, ht, hT, by omega, ⟨qq3361, hf3362, hq3363, hA3364⟩, ⟨v3383, hg3385, by omega⟩, ⟨w3367, hg3368, by omega⟩⟩) hI hS
              · skip
                have k3386 := iv_eq (X := r3155.toInt) (Y := x1.toInt) rfl rfl c3377
                refine lv_iload hx hb dX12_told_153 (lv_at hl 0 rfl) ?_
                refine lv_if_eq (tgt := 174) hx hb dX12_told_155 (by decide) (fun _ => ?_) (fun c => absurd c (by decide))
                have hnx3 : kT ff tt ≤ qq + 1 ∨ ∃ n, g_lw (kC ff tt) (kT ff tt) n (qq + 1) := hnx2.imp (fun h => by omega) (fun h => ⟨_, h.2⟩)
                have hqT : qq ≤ kT ff tt := lw_le hnx2
                refine lv_aload_n hx hb dX12_told_174 rfl (lv_at hl 5 rfl) ?_
                refine lv_dup hx hb dX12_told_175 rfl ?_
                refine gmI hx hb hts inT12 hown hK hI List.not_mem_nil hG0 19 (by decide) (hts _ (tb_c wd_1252)) rfl rfl dX12_told_176 (fun w3387 hg3388 k3389 k3390 => ?_)
                obtain rfl := gf.uniq (by decide) hg3366 hg3388
                refine lv_iconst (v := 1) hx hb dX12_told_179 (by decide) ?_
                refine lv_iadd hx hb dX12_told_180 ?_
                refine lv_topi (fun v3391 e3392 => ?_)
                have tv3391 : v3391.toInt = w3365.toInt + (1) := iv_add rfl (by decide) e3392 (by omega) (by omega)
                refine pmI (ty := .int) hx hb hts inT12 hown hK hI List.not_mem_nil hG0 hS ⟨_, hG0⟩ 19 (by decide) (hts _ (tb_c wd_1252)) rfl rfl (by decide +kernel) rfl rfl rfl (by omega) (by omega) dX12_told_181 (fun H locs hI hgP hS => ?_)
                have hg3368 := hgP.2.2.1 20 _ (by decide) (by decide) hg3368
                have hg3393 := hgP.2.1
                have hf3362 := hgP.2.2.2 3 _ (by decide) (by decide) hf3362
                have hA3364 := va_at.kept hA3364 (hgP.1 _ (m_ne hq3363 hG0 (by first | decide | (dsimp only; decide))))
                refine lv_goto (tgt := 60) hx hb dX12_told_184 (by decide) ?_
                exact ih_60 _ (by omega) H locs ls l3128 ff tt (qq + 1) rfl (lv_sub hl [4, 5, 6, 7] rfl) (hnx3) (⟨hkf, ht, hT, by omega, ⟨qq3361, hf3362, hq3363, hA3364⟩, ⟨v3391, hg3393, by omega⟩, ⟨w3367, hg3368, by omega⟩⟩) hI hS
            · skip
              have k3394 := iv_ne (X := r3358.toInt) (Y := (0)) rfl (by decide) c3373
              refine lv_iconst (v := 1) hx hb dX12_told_140 (by decide) ?_
              refine lv_goto (tgt := 145) hx hb dX12_told_141 (by decide) ?_
              refine lv_istore (lv' := [(10, .int 1), (9, .int 0), (7, .long l3337), (6, .int r3155), (4, .long l3128), (0, .ref h0), (1, .int x1), (2, .long x2)]) hx hb dX12_told_145 hl (by decide) rfl (fun ls hl => ?_)
              refine lv_iload hx hb dX12_told_147 (lv_at hl 3 rfl) ?_
              refine lv_iload_n hx hb dX12_told_149 rfl (lv_at hl 6 rfl) ?_
              have k3395 := iv_lo x1
              have k3396 := iv_hi x1
              refine lv_icmp_ne (tgt := 174) hx hb dX12_told_150 (by decide) (fun c3397 => ?_) (fun c3397 => ?_)
              · skip
                have k3398 := iv_ne (X := r3155.toInt) (Y := x1.toInt) rfl rfl c3397
                have hnx3 : kT ff tt ≤ qq + 1 ∨ ∃ n, g_lw (kC ff tt) (kT ff tt) n (qq + 1) := hnx2.imp (fun h => by omega) (fun h => ⟨_, h.2⟩)
                have hqT : qq ≤ kT ff tt := lw_le hnx2
                refine lv_aload_n hx hb dX12_told_174 rfl (lv_at hl 5 rfl) ?_
                refine lv_dup hx hb dX12_told_175 rfl ?_
                refine gmI hx hb hts inT12 hown hK hI List.not_mem_nil hG0 19 (by decide) (hts _ (tb_c wd_1252)) rfl rfl dX12_told_176 (fun w3399 hg3400 k3401 k3402 => ?_)
                obtain rfl := gf.uniq (by decide) hg3366 hg3400
                refine lv_iconst (v := 1) hx hb dX12_told_179 (by decide) ?_
                refine lv_iadd hx hb dX12_told_180 ?_
                refine lv_topi (fun v3403 e3404 => ?_)
                have tv3403 : v3403.toInt = w3365.toInt + (1) := iv_add rfl (by decide) e3404 (by omega) (by omega)
                refine pmI (ty := .int) hx hb hts inT12 hown hK hI List.not_mem_nil hG0 hS ⟨_, hG0⟩ 19 (by decide) (hts _ (tb_c wd_1252)) rfl rfl (by decide +kernel) rfl rfl rfl (by omega) (by omega) dX12_told_181 (fun H locs hI hgP hS => ?_)
                have hg3368 := hgP.2.2.1 20 _ (by decide) (by decide) hg3368
                have hg3405 := hgP.2.1
                have hf3362 := hgP.2.2.2 3 _ (by decide) (by decide) hf3362
                have hA3364 := va_at.kept hA3364 (hgP.1 _ (m_ne hq3363 hG0 (by first | decide | (dsimp only; decide))))
                refine lv_goto (tgt := 60) hx hb dX12_told_184 (by decide) ?_
                exact ih_60 _ (by omega) H locs ls l3128 ff tt (qq + 1) rfl (lv_sub hl [4, 5, 6, 7] rfl) (hnx3) (⟨hkf, ht, hT, by omega, ⟨qq3361, hf3362, hq3363, hA3364⟩, ⟨v3403, hg3405, by omega⟩, ⟨w3367, hg3368, by omega⟩⟩) hI hS
              · skip
                have k3406 := iv_eq (X := r3155.toInt) (Y := x1.toInt) rfl rfl c3397
                refine lv_iload hx hb dX12_told_153 (lv_at hl 0 rfl) ?_
                refine lv_if_eq (tgt := 174) hx hb dX12_told_155 (by decide) (fun c => absurd c (by decide)) (fun _ => ?_)
                refine lv_aload_n hx hb dX12_told_158 rfl (lv_at hl 5 rfl) ?_
                refine gmI hx hb hts inT12 hown hK hI List.not_mem_nil hG0 21 (by decide) (hts _ (tb_c wd_1254)) rfl rfl dX12_told_159 (fun w3407 hg3408 k3409 k3410 => ?_)
                refine lv_if_ne (tgt := 174) hx hb dX12_told_162 (by decide) (fun c3411 => ?_) (fun c3411 => ?_)
                · skip
                  have k3412 := iv_ne (X := w3407.toInt) (Y := (0)) rfl (by decide) c3411
                  have hnx3 : kT ff tt ≤ qq + 1 ∨ ∃ n, g_lw (kC ff tt) (kT ff tt) n (qq + 1) := hnx2.imp (fun h => by omega) (fun h => ⟨_, h.2⟩)
                  have hqT : qq ≤ kT ff tt := lw_le hnx2
                  refine lv_aload_n hx hb dX12_told_174 rfl (lv_at hl 5 rfl) ?_
                  refine lv_dup hx hb dX12_told_175 rfl ?_
                  refine gmI hx hb hts inT12 hown hK hI List.not_mem_nil hG0 19 (by decide) (hts _ (tb_c wd_1252)) rfl rfl dX12_told_176 (fun w3413 hg3414 k3415 k3416 => ?_)
                  obtain rfl := gf.uniq (by decide) hg3366 hg3414
                  refine lv_iconst (v := 1) hx hb dX12_told_179 (by decide) ?_
                  refine lv_iadd hx hb dX12_told_180 ?_
                  refine lv_topi (fun v3417 e3418 => ?_)
                  have tv3417 : v3417.toInt = w3365.toInt + (1) := iv_add rfl (by decide) e3418 (by omega) (by omega)
                  refine pmI (ty := .int) hx hb hts inT12 hown hK hI List.not_mem_nil hG0 hS ⟨_, hG0⟩ 19 (by decide) (hts _ (tb_c wd_1252)) rfl rfl (by decide +kernel) rfl rfl rfl (by omega) (by omega) dX12_told_181 (fun H locs hI hgP hS => ?_)
                  have hg3368 := hgP.2.2.1 20 _ (by decide) (by decide) hg3368
                  have hg3408 := hgP.2.2.1 21 _ (by decide) (by decide) hg3408
                  have hg3419 := hgP.2.1
                  have hf3362 := hgP.2.2.2 3 _ (by decide) (by decide) hf3362
                  have hA3364 := va_at.kept hA3364 (hgP.1 _ (m_ne hq3363 hG0 (by first | decide | (dsimp only; decide))))
                  refine lv_goto (tgt := 60) hx hb dX12_told_184 (by decide) ?_
                  exact ih_60 _ (by omega) H locs ls l3128 ff tt (qq + 1) rfl (lv_sub hl [4, 5, 6, 7] rfl) (hnx3) (⟨hkf, ht, hT, by omega, ⟨qq3361, hf3362, hq3363, hA3364⟩, ⟨v3417, hg3419, by omega⟩, ⟨w3367, hg3368, by omega⟩⟩) hI hS
                · skip
                  have k3420 := iv_eq (X := w3407.toInt) (Y := (0)) rfl (by decide) c3411
                  refine lv_iload hx hb dX12_told_165 (lv_at hl 1 rfl) ?_
                  refine lv_if_ne (tgt := 174) hx hb dX12_told_167 (by decide) (fun c => absurd c (by decide)) (fun _ => ?_)
                  refine lv_lload hx hb dX12_told_170 (lv_at hl 2 rfl) ?_
                  refine lv_lstore (lv' := [(4, .long l3337), (10, .int 1), (9, .int 0), (7, .long l3337), (6, .int r3155), (0, .ref h0), (1, .int x1), (2, .long x2)]) hx hb dX12_told_172 hl (by decide) rfl (fun ls hl => ?_)
                  have hnx3 : kT ff tt ≤ qq + 1 ∨ ∃ n, g_lw (kC ff tt) (kT ff tt) n (qq + 1) := hnx2.imp (fun h => by omega) (fun h => ⟨_, h.2⟩)
                  have hqT : qq ≤ kT ff tt := lw_le hnx2
                  refine lv_aload_n hx hb dX12_told_174 rfl (lv_at hl 5 rfl) ?_
                  refine lv_dup hx hb dX12_told_175 rfl ?_
                  refine gmI hx hb hts inT12 hown hK hI List.not_mem_nil hG0 19 (by decide) (hts _ (tb_c wd_1252)) rfl rfl dX12_told_176 (fun w3421 hg3422 k3423 k3424 => ?_)
                  obtain rfl := gf.uniq (by decide) hg3366 hg3422
                  refine lv_iconst (v := 1) hx hb dX12_told_179 (by decide) ?_
                  refine lv_iadd hx hb dX12_told_180 ?_
                  refine lv_topi (fun v3425 e3426 => ?_)
                  have tv3425 : v3425.toInt = w3365.toInt + (1) := iv_add rfl (by decide) e3426 (by omega) (by omega)
                  refine pmI (ty := .int) hx hb hts inT12 hown hK hI List.not_mem_nil hG0 hS ⟨_, hG0⟩ 19 (by decide) (hts _ (tb_c wd_1252)) rfl rfl (by decide +kernel) rfl rfl rfl (by omega) (by omega) dX12_told_181 (fun H locs hI hgP hS => ?_)
                  have hg3368 := hgP.2.2.1 20 _ (by decide) (by decide) hg3368
                  have hg3408 := hgP.2.2.1 21 _ (by decide) (by decide) hg3408
                  have hg3427 := hgP.2.1
                  have hf3362 := hgP.2.2.2 3 _ (by decide) (by decide) hf3362
                  have hA3364 := va_at.kept hA3364 (hgP.1 _ (m_ne hq3363 hG0 (by first | decide | (dsimp only; decide))))
                  refine lv_goto (tgt := 60) hx hb dX12_told_184 (by decide) ?_
                  exact ih_60 _ (by omega) H locs ls l3337 ff tt (qq + 1) rfl (lv_sub hl [0, 5, 6, 7] rfl) (hnx3) (⟨hkf, ht, hT, by omega, ⟨qq3361, hf3362, hq3363, hA3364⟩, ⟨v3425, hg3427, by omega⟩, ⟨w3367, hg3368, by omega⟩⟩) hI hS
          · skip
            try simp only [rg, not_and, Int.not_le] at hp
            have hp3428 := hp
            obtain ⟨hc3429, hE⟩ := hp3428
            have hp3428 : True := trivial
            rw [show (5 : Int32).toInt = 5 from by decide] at hc3429
            obtain ⟨hkf, ht, hT, k3438, ⟨qq3430, hf3431, hq3432, hA3433⟩, ⟨w3434, hg3435, k3439⟩, ⟨w3436, hg3437, k3440⟩⟩ := hE
            have hqm := if_no hif hc3429
            try rw [show (5 : Int32).toInt = 5 from by decide] at hp3428
            refine lv_if_eq (tgt := 140) hx hb dX12_told_129 (by decide) (fun _ => ?_) (fun c => absurd c (by decide))
            refine lv_iconst (v := 1) hx hb dX12_told_140 (by decide) ?_
            refine lv_goto (tgt := 145) hx hb dX12_told_141 (by decide) ?_
            refine lv_istore (lv' := [(10, .int 1), (9, .int 0), (7, .long l3337), (6, .int r3155), (4, .long l3128), (0, .ref h0), (1, .int x1), (2, .long x2)]) hx hb dX12_told_145 hl (by decide) rfl (fun ls hl => ?_)
            refine lv_iload hx hb dX12_told_147 (lv_at hl 3 rfl) ?_
            refine lv_iload_n hx hb dX12_told_149 rfl (lv_at hl 6 rfl) ?_
            have k3441 := iv_lo x1
            have k3442 := iv_hi x1
            refine lv_icmp_ne (tgt := 174) hx hb dX12_told_150 (by decide) (fun c3443 => ?_) (fun c3443 => ?_)
            · skip
              have k3444 := iv_ne (X := r3155.toInt) (Y := x1.toInt) rfl rfl c3443
              have hnx3 : kT ff tt ≤ qq + 1 ∨ ∃ n, g_lw (kC ff tt) (kT ff tt) n (qq + 1) := hnx2.imp (fun h => by omega) (fun h => ⟨_, h.2⟩)
              have hqT : qq ≤ kT ff tt := lw_le hnx2
              refine lv_aload_n hx hb dX12_told_174 rfl (lv_at hl 5 rfl) ?_
              refine lv_dup hx hb dX12_told_175 rfl ?_
              refine gmI hx hb hts inT12 hown hK hI List.not_mem_nil hG0 19 (by decide) (hts _ (tb_c wd_1252)) rfl rfl dX12_told_176 (fun w3445 hg3446 k3447 k3448 => ?_)
              obtain rfl := gf.uniq (by decide) hg3435 hg3446
              refine lv_iconst (v := 1) hx hb dX12_told_179 (by decide) ?_
              refine lv_iadd hx hb dX12_told_180 ?_
              refine lv_topi (fun v3449 e3450 => ?_)
              have tv3449 : v3449.toInt = w3434.toInt + (1) := iv_add rfl (by decide) e3450 (by omega) (by omega)
              refine pmI (ty := .int) hx hb hts inT12 hown hK hI List.not_mem_nil hG0 hS ⟨_, hG0⟩ 19 (by decide) (hts _ (tb_c wd_1252)) rfl rfl (by decide +kernel) rfl rfl rfl (by omega) (by omega) dX12_told_181 (fun H locs hI hgP hS => ?_)
              have hg3437 := hgP.2.2.1 20 _ (by decide) (by decide) hg3437
              have hg3451 := hgP.2.1
              have hf3431 := hgP.2.2.2 3 _ (by decide) (by decide) hf3431
              have hA3433 := va_at.kept hA3433 (hgP.1 _ (m_ne hq3432 hG0 (by first | decide | (dsimp only; decide))))
              refine lv_goto (tgt := 60) hx hb dX12_told_184 (by decide) ?_
              exact ih_60 _ (by omega) H locs ls l3128 ff tt (qq + 1) rfl (lv_sub hl [4, 5, 6, 7] rfl) (hnx3) (⟨hkf, ht, hT, by omega, ⟨qq3430, hf3431, hq3432, hA3433⟩, ⟨v3449, hg3451, by omega⟩, ⟨w3436, hg3437, by omega⟩⟩) hI hS
            · skip
              have k3452 := iv_eq (X := r3155.toInt) (Y := x1.toInt) rfl rfl c3443
              refine lv_iload hx hb dX12_told_153 (lv_at hl 0 rfl) ?_
              refine lv_if_eq (tgt := 174) hx hb dX12_told_155 (by decide) (fun c => absurd c (by decide)) (fun _ => ?_)
              refine lv_aload_n hx hb dX12_told_158 rfl (lv_at hl 5 rfl) ?_
              refine gmI hx hb hts inT12 hown hK hI List.not_mem_nil hG0 21 (by decide) (hts _ (tb_c wd_1254)) rfl rfl dX12_told_159 (fun w3453 hg3454 k3455 k3456 => ?_)
              refine lv_if_ne (tgt := 174) hx hb dX12_told_162 (by decide) (fun c3457 => ?_) (fun c3457 => ?_)
              · skip
                have k3458 := iv_ne (X := w3453.toInt) (Y := (0)) rfl (by decide) c3457
                have hnx3 : kT ff tt ≤ qq + 1 ∨ ∃ n, g_lw (kC ff tt) (kT ff tt) n (qq + 1) := hnx2.imp (fun h => by omega) (fun h => ⟨_, h.2⟩)
                have hqT : qq ≤ kT ff tt := lw_le hnx2
                refine lv_aload_n hx hb dX12_told_174 rfl (lv_at hl 5 rfl) ?_
                refine lv_dup hx hb dX12_told_175 rfl ?_
                refine gmI hx hb hts inT12 hown hK hI List.not_mem_nil hG0 19 (by decide) (hts _ (tb_c wd_1252)) rfl rfl dX12_told_176 (fun w3459 hg3460 k3461 k3462 => ?_)
                obtain rfl := gf.uniq (by decide) hg3435 hg3460
                refine lv_iconst (v := 1) hx hb dX12_told_179 (by decide) ?_
                refine lv_iadd hx hb dX12_told_180 ?_
                refine lv_topi (fun v3463 e3464 => ?_)
                have tv3463 : v3463.toInt = w3434.toInt + (1) := iv_add rfl (by decide) e3464 (by omega) (by omega)
                refine pmI (ty := .int) hx hb hts inT12 hown hK hI List.not_mem_nil hG0 hS ⟨_, hG0⟩ 19 (by decide) (hts _ (tb_c wd_1252)) rfl rfl (by decide +kernel) rfl rfl rfl (by omega) (by omega) dX12_told_181 (fun H locs hI hgP hS => ?_)
                have hg3437 := hgP.2.2.1 20 _ (by decide) (by decide) hg3437
                have hg3454 := hgP.2.2.1 21 _ (by decide) (by decide) hg3454
                have hg3465 := hgP.2.1
                have hf3431 := hgP.2.2.2 3 _ (by decide) (by decide) hf3431
                have hA3433 := va_at.kept hA3433 (hgP.1 _ (m_ne hq3432 hG0 (by first | decide | (dsimp only; decide))))
                refine lv_goto (tgt := 60) hx hb dX12_told_184 (by decide) ?_
                exact ih_60 _ (by omega) H locs ls l3128 ff tt (qq + 1) rfl (lv_sub hl [4, 5, 6, 7] rfl) (hnx3) (⟨hkf, ht, hT, by omega, ⟨qq3430, hf3431, hq3432, hA3433⟩, ⟨v3463, hg3465, by omega⟩, ⟨w3436, hg3437, by omega⟩⟩) hI hS
              · skip
                have k3466 := iv_eq (X := w3453.toInt) (Y := (0)) rfl (by decide) c3457
                refine lv_iload hx hb dX12_told_165 (lv_at hl 1 rfl) ?_
                refine lv_if_ne (tgt := 174) hx hb dX12_told_167 (by decide) (fun c => absurd c (by decide)) (fun _ => ?_)
                refine lv_lload hx hb dX12_told_170 (lv_at hl 2 rfl) ?_
                refine lv_lstore (lv' := [(4, .long l3337), (10, .int 1), (9, .int 0), (7, .long l3337), (6, .int r3155), (0, .ref h0), (1, .int x1), (2, .long x2)]) hx hb dX12_told_172 hl (by decide) rfl (fun ls hl => ?_)
                have hnx3 : kT ff tt ≤ qq + 1 ∨ ∃ n, g_lw (kC ff tt) (kT ff tt) n (qq + 1) := hnx2.imp (fun h => by omega) (fun h => ⟨_, h.2⟩)
                have hqT : qq ≤ kT ff tt := lw_le hnx2
                refine lv_aload_n hx hb dX12_told_174 rfl (lv_at hl 5 rfl) ?_
                refine lv_dup hx hb dX12_told_175 rfl ?_
                refine gmI hx hb hts inT12 hown hK hI List.not_mem_nil hG0 19 (by decide) (hts _ (tb_c wd_1252)) rfl rfl dX12_told_176 (fun w3467 hg3468 k3469 k3470 => ?_)
                obtain rfl := gf.uniq (by decide) hg3435 hg3468
                refine lv_iconst (v := 1) hx hb dX12_told_179 (by decide) ?_
                refine lv_iadd hx hb dX12_told_180 ?_
                refine lv_topi (fun v3471 e3472 => ?_)
                have tv3471 : v3471.toInt = w3434.toInt + (1) := iv_add rfl (by decide) e3472 (by omega) (by omega)
                refine pmI (ty := .int) hx hb hts inT12 hown hK hI List.not_mem_nil hG0 hS ⟨_, hG0⟩ 19 (by decide) (hts _ (tb_c wd_1252)) rfl rfl (by decide +kernel) rfl rfl rfl (by omega) (by omega) dX12_told_181 (fun H locs hI hgP hS => ?_)
                have hg3437 := hgP.2.2.1 20 _ (by decide) (by decide) hg3437
                have hg3454 := hgP.2.2.1 21 _ (by decide) (by decide) hg3454
                have hg3473 := hgP.2.1
                have hf3431 := hgP.2.2.2 3 _ (by decide) (by decide) hf3431
                have hA3433 := va_at.kept hA3433 (hgP.1 _ (m_ne hq3432 hG0 (by first | decide | (dsimp only; decide))))
                refine lv_goto (tgt := 60) hx hb dX12_told_184 (by decide) ?_
                exact ih_60 _ (by omega) H locs ls l3337 ff tt (qq + 1) rfl (lv_sub hl [0, 5, 6, 7] rfl) (hnx3) (⟨hkf, ht, hT, by omega, ⟨qq3430, hf3431, hq3432, hA3433⟩, ⟨v3471, hg3473, by omega⟩, ⟨w3436, hg3437, by omega⟩⟩) hI hS
  refine lv_lload_n hx hb dX12_told_0 rfl (lv_at hl 2 rfl) ?_
  refine lv_lstore (lv' := [(4, .long x2), (0, .ref h0), (1, .int x1), (2, .long x2)]) hx hb dX12_told_1 hl (by decide) rfl (fun ls hl => ?_)
  refine lv_aload_n hx hb dX12_told_3 rfl (lv_at hl 1 rfl) ?_
  refine gmA hx hb hts inT12 hown hK hI List.not_mem_nil hG0 3 (by decide) (hts _ (tb_c wd_1236)) rfl rfl dX12_told_4 (fun a3474 hq3475 hf3476 => ?_)
  refine lv_sipush (v := 316) hx hb dX12_told_7 (by decide) ?_
  obtain ⟨F3477, hA3478, hP3479⟩ := om_1 hI hq3475 List.not_mem_nil
  refine th_iald hx hb hK hA3478 0 rfl (iv_in (X := (316)) (by decide) (by omega) (by omega)) dX12_told_10 (fun v3480 e3481 => ?_)
  have k3482 := kg_force (kOk.get (i := 316) hP3479 e3481 (X := (316)) (by decide) (by omega) (by omega)) (by omega) (by omega) (by omega)
  refine lv_iconst (v := (-1)) hx hb dX12_told_11 (by decide) ?_
  refine lv_icmp_ne (tgt := 18) hx hb dX12_told_12 (by decide) (fun c3483 => ?_) (fun c3483 => ?_)
  · skip
    have k3484 := iv_ne (X := v3480.toInt) (Y := (-1)) rfl (by decide) c3483
    refine lv_aload_n hx hb dX12_told_18 rfl (lv_at hl 1 rfl) ?_
    refine lv_sipush (v := 400) hx hb dX12_told_19 (by decide) ?_
    refine lv_aload_n hx hb dX12_told_22 rfl (lv_at hl 1 rfl) ?_
    refine gmA hx hb hts inT12 hown hK hI List.not_mem_nil hG0 3 (by decide) (hts _ (tb_c wd_1236)) rfl rfl dX12_told_23 (fun a3485 hq3486 hf3487 => ?_)
    obtain rfl := fr.uniq (by decide) hf3476 hf3487
    refine lv_sipush (v := 316) hx hb dX12_told_26 (by decide) ?_
    refine th_iald hx hb hK hA3478 0 rfl (iv_in (X := (316)) (by decide) (by omega) (by omega)) dX12_told_29 (fun v3488 e3489 => ?_)
    obtain rfl := (rd_same (i := 316) (j := 316) e3481 e3489 (X := (316)) (Y := (316)) (by decide) (by decide) (by omega)).symm
    refine lv_imul hx hb dX12_told_30 ?_
    refine lv_topi (fun v3490 e3491 => ?_)
    have tv3490 : v3490.toInt = (400) * v3480.toInt := iv_mul (by decide) rfl e3491 (by omega) (by omega)
    obtain ⟨tt, ht0⟩ : ∃ tt : Nat, (tt : Int) = v3480.toInt := ⟨v3480.toInt.toNat, by omega⟩
    refine pmI (ty := .int) hx hb hts inT12 hown hK hI List.not_mem_nil hG0 hS ⟨_, hG0⟩ 19 (by decide) (hts _ (tb_c wd_1252)) rfl rfl (by decide +kernel) rfl rfl rfl (by omega) (by omega) dX12_told_31 (fun H locs hI hgP hS => ?_)
    have hg3492 := hgP.2.1
    have hf3476 := hgP.2.2.2 3 _ (by decide) (by decide) hf3476
    have hA3478 := va_at.kept hA3478 (hgP.1 _ (m_ne hq3475 hG0 (by first | decide | (dsimp only; decide))))
    refine lv_aload_n hx hb dX12_told_34 rfl (lv_at hl 1 rfl) ?_
    refine lv_aload_n hx hb dX12_told_35 rfl (lv_at hl 1 rfl) ?_
    refine gmI hx hb hts inT12 hown hK hI List.not_mem_nil hG0 19 (by decide) (hts _ (tb_c wd_1252)) rfl rfl dX12_told_36 (fun w3493 hg3494 k3495 k3496 => ?_)
    obtain rfl := gf.uniq (by decide) hg3492 hg3494
    refine lv_aload_n hx hb dX12_told_39 rfl (lv_at hl 1 rfl) ?_
    refine gmA hx hb hts inT12 hown hK hI List.not_mem_nil hG0 3 (by decide) (hts _ (tb_c wd_1236)) rfl rfl dX12_told_40 (fun a3497 hq3498 hf3499 => ?_)
    obtain rfl := fr.uniq (by decide) hf3476 hf3499
    refine lv_sipush (v := 317) hx hb dX12_told_43 (by decide) ?_
    refine lv_aload_n hx hb dX12_told_46 rfl (lv_at hl 1 rfl) ?_
    refine gmA hx hb hts inT12 hown hK hI List.not_mem_nil hG0 3 (by decide) (hts _ (tb_c wd_1236)) rfl rfl dX12_told_47 (fun a3500 hq3501 hf3502 => ?_)
    obtain rfl := fr.uniq (by decide) hf3476 hf3502
    refine lv_sipush (v := 316) hx hb dX12_told_50 (by decide) ?_
    refine th_iald hx hb hK hA3478 0 rfl (iv_in (X := (316)) (by decide) (by omega) (by omega)) dX12_told_53 (fun v3503 e3504 => ?_)
    obtain rfl := (rd_same (i := 316) (j := 316) e3481 e3504 (X := (316)) (Y := (316)) (by decide) (by decide) (by omega)).symm
    refine lv_iadd hx hb dX12_told_54 ?_
    refine lv_topi (fun v3505 e3506 => ?_)
    have tv3505 : v3505.toInt = (317) + v3480.toInt := iv_add (by decide) rfl e3506 (by omega) (by omega)
    refine th_iald hx hb hK hA3478 0 rfl (iv_in (X := v3505.toInt) rfl (by omega) (by omega)) dX12_told_55 (fun v3507 e3508 => ?_)
    have k3509 := kg_sizes (kOk.get (i := v3505) hP3479 e3508 (X := v3505.toInt) rfl (by omega) (by omega)) (by omega) (by omega) (by omega)
    refine lv_iadd hx hb dX12_told_56 ?_
    refine lv_topi (fun v3510 e3511 => ?_)
    have tv3510 : v3510.toInt = v3490.toInt + v3507.toInt := iv_add rfl rfl e3511 (by omega) (by omega)
    refine pmI (ty := .int) hx hb hts inT12 hown hK hI List.not_mem_nil hG0 hS ⟨_, hG0⟩ 20 (by decide) (hts _ (tb_c wd_1253)) rfl rfl (by decide +kernel) rfl rfl rfl (by omega) (by omega) dX12_told_57 (fun H locs hI hgP hS => ?_)
    have hg3492 := hgP.2.2.1 19 _ (by decide) (by decide) hg3492
    have hg3512 := hgP.2.1
    have hf3476 := hgP.2.2.2 3 _ (by decide) (by decide) hf3476
    have hA3478 := va_at.kept hA3478 (hgP.1 _ (m_ne hq3475 hG0 (by first | decide | (dsimp only; decide))))
    have ht : tt < 6 := by omega
    have hT : kT F3477 tt ≤ 400 := by have := (hP3479).size ht; unfold kT; omega
    have hTe : (kT F3477 tt : Int) = v3507.toInt := kT_rd e3508 (by omega) (by omega)
    have hnx : kT F3477 tt ≤ 0 ∨ ∃ n, g_lw (kC F3477 tt) (kT F3477 tt) n 0 := ((hP3479).2 tt ht).imp (fun h => by omega) (fun h => h)
    exact J_60 _ H locs ls x2 F3477 tt 0 rfl (lv_sub hl [0, 1, 2, 3] rfl) (hnx) (⟨hP3479, ht, hT, by omega, ⟨a3474, hf3476, hq3475, hA3478⟩, ⟨v3490, hg3492, by omega⟩, ⟨v3510, hg3512, by omega⟩⟩) hI hS
  · skip
    have k3513 := iv_eq (X := v3480.toInt) (Y := (-1)) rfl (by decide) c3483
    refine lv_lload hx hb dX12_told_15 (lv_at hl 0 rfl) ?_
    have hpost : True := trivial
    rw [hQ]
    exact W.lret (v := x2) hx hb hr (fun t ht hW => ⟨⟨x2, x2, rfl, rfl, ⟨by rw [ht]; exact hI, hN.warm hW, va_K.moved hW.alike hK⟩, by first | (rw [ht]; exact hpost) | exact hpost⟩, hS.F ht⟩) hS.2.2 dX12_told_17
