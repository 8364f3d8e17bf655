theorem wp_62 : Cond.selects RX12 yX12_reads yX12_reads ∈ TB := tv 62 (by decide +kernel) (by decide +kernel)
theorem wp_63 : Cond.selects RX12 yX12_splits yX12_splits ∈ TB := tv 63 (by decide +kernel) (by decide +kernel)
theorem wp_64 : Cond.selects RX12 yX12_wordOf yX12_wordOf ∈ TB := tv 64 (by decide +kernel) (by decide +kernel)
theorem wp_65 : Cond.selects RX12 yX12_readClause yX12_readClause ∈ TB := tv 65 (by decide +kernel) (by decide +kernel)
theorem wp_68 : Cond.selects RX12 yX12_readSum yX12_readSum ∈ TB := tv 68 (by decide +kernel) (by decide +kernel)
theorem wp_72 : Cond.selects RX12 yX12_must yX12_must ∈ TB := tv 72 (by decide +kernel) (by decide +kernel)
theorem wp_73 : Cond.selects RX12 yX12_leaf yX12_leaf ∈ TB := tv 73 (by decide +kernel) (by decide +kernel)
theorem wp_74 : Cond.selects RX12 yX12_readTest yX12_readTest ∈ TB := tv 74 (by decide +kernel) (by decide +kernel)
theorem wp_75 : Cond.selects RX12 yX12_readBoth yX12_readBoth ∈ TB := tv 75 (by decide +kernel) (by decide +kernel)
theorem wp_76 : Cond.selects RX12 yX12_readPlain yX12_readPlain ∈ TB := tv 76 (by decide +kernel) (by decide +kernel)
theorem wd_1240 : (Cond.fieldLink RX12 (30 : Nat) "NineRiverModel" "words" "[B") ∈ TB := tw 1240 (by decide +kernel) (by decide +kernel)
theorem wd_1246 : (Cond.fieldLink RX12 (46 : Nat) "NineRiverModel" "value" "[I") ∈ TB := tw 1246 (by decide +kernel) (by decide +kernel)
theorem wd_1248 : (Cond.fieldLink RX12 (145 : Nat) "NineRiverModel" "tokens" "I") ∈ TB := tw 1248 (by decide +kernel) (by decide +kernel)
theorem wd_1564 : (Cond.methodLink RX12 (213 : Nat) yX12_reads) ∈ TB := tw 1564 (by decide +kernel) (by decide +kernel)
theorem wd_1566 : (Jvm.Cond.instanceMethod yX12_reads) ∈ TB := tw 1566 (by decide +kernel) (by decide +kernel)
theorem wd_1567 : (Cond.code yX12_reads cX12_reads 2 (Option.some Jvm.ClassFile.FieldType.boolean)) ∈ TB := tw 1567 (by decide +kernel) (by decide +kernel)
theorem wd_1568 : (Cond.methodLink RX12 (207 : Nat) yX12_splits) ∈ TB := tw 1568 (by decide +kernel) (by decide +kernel)
theorem wd_1570 : (Jvm.Cond.instanceMethod yX12_splits) ∈ TB := tw 1570 (by decide +kernel) (by decide +kernel)
theorem wd_1571 : (Cond.code yX12_splits cX12_splits 6 (Option.none : Option Jvm.ClassFile.FieldType)) ∈ TB := tw 1571 (by decide +kernel) (by decide +kernel)
theorem wd_1572 : (Cond.methodLink RX12 (148 : Nat) yX12_isSmall) ∈ TB := tw 1572 (by decide +kernel) (by decide +kernel)
theorem wd_1573 : (Jvm.Cond.static yX12_isSmall) ∈ TB := tw 1573 (by decide +kernel) (by decide +kernel)
theorem wd_1574 : (Cond.code yX12_isSmall cX12_isSmall 1 (Option.some Jvm.ClassFile.FieldType.boolean)) ∈ TB := tw 1574 (by decide +kernel) (by decide +kernel)
theorem wd_1575 : (Cond.methodLink RX12 (151 : Nat) yX12_isDigit) ∈ TB := tw 1575 (by decide +kernel) (by decide +kernel)
theorem wd_1576 : (Jvm.Cond.static yX12_isDigit) ∈ TB := tw 1576 (by decide +kernel) (by decide +kernel)
theorem wd_1577 : (Cond.code yX12_isDigit cX12_isDigit 1 (Option.some Jvm.ClassFile.FieldType.boolean)) ∈ TB := tw 1577 (by decide +kernel) (by decide +kernel)
theorem wd_1578 : (Cond.methodLink RX12 (154 : Nat) yX12_wordOf) ∈ TB := tw 1578 (by decide +kernel) (by decide +kernel)
theorem wd_1580 : (Jvm.Cond.instanceMethod yX12_wordOf) ∈ TB := tw 1580 (by decide +kernel) (by decide +kernel)
theorem wd_1581 : (Cond.code yX12_wordOf cX12_wordOf 8 (Option.some Jvm.ClassFile.FieldType.int)) ∈ TB := tw 1581 (by decide +kernel) (by decide +kernel)
theorem wd_1583 : (Cond.methodLink RX12 (210 : Nat) yX12_readClause) ∈ TB := tw 1583 (by decide +kernel) (by decide +kernel)
theorem wd_1585 : (Jvm.Cond.instanceMethod yX12_readClause) ∈ TB := tw 1585 (by decide +kernel) (by decide +kernel)
theorem wd_1586 : (Cond.code yX12_readClause cX12_readClause 1 (Option.none : Option Jvm.ClassFile.FieldType)) ∈ TB := tw 1586 (by decide +kernel) (by decide +kernel)
theorem wd_1595 : (Cond.methodLink RX12 (178 : Nat) yX12_readSum) ∈ TB := tw 1595 (by decide +kernel) (by decide +kernel)
theorem wd_1597 : (Jvm.Cond.instanceMethod yX12_readSum) ∈ TB := tw 1597 (by decide +kernel) (by decide +kernel)
theorem wd_1598 : (Cond.code yX12_readSum cX12_readSum 2 (Option.none : Option Jvm.ClassFile.FieldType)) ∈ TB := tw 1598 (by decide +kernel) (by decide +kernel)
theorem wd_1611 : (Cond.methodLink RX12 (182 : Nat) yX12_must) ∈ TB := tw 1611 (by decide +kernel) (by decide +kernel)
theorem wd_1613 : (Jvm.Cond.instanceMethod yX12_must) ∈ TB := tw 1613 (by decide +kernel) (by decide +kernel)
theorem wd_1614 : (Cond.code yX12_must cX12_must 2 (Option.none : Option Jvm.ClassFile.FieldType)) ∈ TB := tw 1614 (by decide +kernel) (by decide +kernel)
theorem wd_1615 : (Cond.methodLink RX12 (204 : Nat) yX12_leaf) ∈ TB := tw 1615 (by decide +kernel) (by decide +kernel)
theorem wd_1617 : (Jvm.Cond.instanceMethod yX12_leaf) ∈ TB := tw 1617 (by decide +kernel) (by decide +kernel)
theorem wd_1618 : (Cond.code yX12_leaf cX12_leaf 1 (Option.none : Option Jvm.ClassFile.FieldType)) ∈ TB := tw 1618 (by decide +kernel) (by decide +kernel)
theorem wd_1619 : (Cond.methodLink RX12 (185 : Nat) yX12_readTest) ∈ TB := tw 1619 (by decide +kernel) (by decide +kernel)
theorem wd_1621 : (Jvm.Cond.instanceMethod yX12_readTest) ∈ TB := tw 1621 (by decide +kernel) (by decide +kernel)
theorem wd_1622 : (Cond.code yX12_readTest cX12_readTest 2 (Option.none : Option Jvm.ClassFile.FieldType)) ∈ TB := tw 1622 (by decide +kernel) (by decide +kernel)
theorem wd_1623 : (Cond.methodLink RX12 (188 : Nat) yX12_readBoth) ∈ TB := tw 1623 (by decide +kernel) (by decide +kernel)
theorem wd_1625 : (Jvm.Cond.instanceMethod yX12_readBoth) ∈ TB := tw 1625 (by decide +kernel) (by decide +kernel)
theorem wd_1626 : (Cond.code yX12_readBoth cX12_readBoth 2 (Option.none : Option Jvm.ClassFile.FieldType)) ∈ TB := tw 1626 (by decide +kernel) (by decide +kernel)
theorem wd_1627 : (Cond.methodLink RX12 (191 : Nat) yX12_readPlain) ∈ TB := tw 1627 (by decide +kernel) (by decide +kernel)
theorem wd_1629 : (Jvm.Cond.instanceMethod yX12_readPlain) ∈ TB := tw 1629 (by decide +kernel) (by decide +kernel)
theorem wd_1630 : (Cond.code yX12_readPlain cX12_readPlain 4 (Option.none : Option Jvm.ClassFile.FieldType)) ∈ TB := tw 1630 (by decide +kernel) (by decide +kernel)
theorem dX12_readPart_0g : (decode cX12_readPart 0 = .ok (.aload_n 0, 1)) ∧ (decode cX12_readPart 1 = .ok (.invokevirtual 162, 3)) ∧ (decode cX12_readPart 4 = .ok (.ifCond .ne 4, 3)) ∧ (decode cX12_readPart 7 = .ok (.return_, 1)) ∧ (decode cX12_readPart 8 = .ok (.aload_n 0, 1)) ∧ (decode cX12_readPart 9 = .ok (.getfield 43, 3)) ∧ (decode cX12_readPart 12 = .ok (.aload_n 0, 1)) ∧ (decode cX12_readPart 13 = .ok (.getfield 166, 3)) ∧ (decode cX12_readPart 16 = .ok (.iaload, 1)) ∧ (decode cX12_readPart 17 = .ok (.istore_n 2, 1)) := by decide +kernel
theorem dX12_readPart_0 : decode cX12_readPart 0 = .ok (.aload_n 0, 1) := dX12_readPart_0g.1
theorem dX12_readPart_1 : decode cX12_readPart 1 = .ok (.invokevirtual 162, 3) := dX12_readPart_0g.2.1
theorem dX12_readPart_4 : decode cX12_readPart 4 = .ok (.ifCond .ne 4, 3) := dX12_readPart_0g.2.2.1
theorem dX12_readPart_7 : decode cX12_readPart 7 = .ok (.return_, 1) := dX12_readPart_0g.2.2.2.1
theorem dX12_readPart_8 : decode cX12_readPart 8 = .ok (.aload_n 0, 1) := dX12_readPart_0g.2.2.2.2.1
theorem dX12_readPart_9 : decode cX12_readPart 9 = .ok (.getfield 43, 3) := dX12_readPart_0g.2.2.2.2.2.1
theorem dX12_readPart_12 : decode cX12_readPart 12 = .ok (.aload_n 0, 1) := dX12_readPart_0g.2.2.2.2.2.2.1
theorem dX12_readPart_13 : decode cX12_readPart 13 = .ok (.getfield 166, 3) := dX12_readPart_0g.2.2.2.2.2.2.2.1
theorem dX12_readPart_16 : decode cX12_readPart 16 = .ok (.iaload, 1) := dX12_readPart_0g.2.2.2.2.2.2.2.2.1
theorem dX12_readPart_17 : decode cX12_readPart 17 = .ok (.istore_n 2, 1) := dX12_readPart_0g.2.2.2.2.2.2.2.2.2
theorem dX12_readPart_18g : (decode cX12_readPart 18 = .ok (.iload_n 2, 1)) ∧ (decode cX12_readPart 19 = .ok (.bipush 91, 2)) ∧ (decode cX12_readPart 21 = .ok (.invokestatic 194, 3)) ∧ (decode cX12_readPart 24 = .ok (.if_icmp .ne 50, 3)) ∧ (decode cX12_readPart 27 = .ok (.iload_n 1, 1)) ∧ (decode cX12_readPart 28 = .ok (.bipush 8, 2)) ∧ (decode cX12_readPart 30 = .ok (.if_icmp .ne 7, 3)) ∧ (decode cX12_readPart 33 = .ok (.aload_n 0, 1)) ∧ (decode cX12_readPart 34 = .ok (.invokevirtual 172, 3)) ∧ (decode cX12_readPart 37 = .ok (.aload_n 0, 1)) := by decide +kernel
theorem dX12_readPart_18 : decode cX12_readPart 18 = .ok (.iload_n 2, 1) := dX12_readPart_18g.1
theorem dX12_readPart_19 : decode cX12_readPart 19 = .ok (.bipush 91, 2) := dX12_readPart_18g.2.1
theorem dX12_readPart_21 : decode cX12_readPart 21 = .ok (.invokestatic 194, 3) := dX12_readPart_18g.2.2.1
theorem dX12_readPart_24 : decode cX12_readPart 24 = .ok (.if_icmp .ne 50, 3) := dX12_readPart_18g.2.2.2.1
theorem dX12_readPart_27 : decode cX12_readPart 27 = .ok (.iload_n 1, 1) := dX12_readPart_18g.2.2.2.2.1
theorem dX12_readPart_28 : decode cX12_readPart 28 = .ok (.bipush 8, 2) := dX12_readPart_18g.2.2.2.2.2.1
theorem dX12_readPart_30 : decode cX12_readPart 30 = .ok (.if_icmp .ne 7, 3) := dX12_readPart_18g.2.2.2.2.2.2.1
theorem dX12_readPart_33 : decode cX12_readPart 33 = .ok (.aload_n 0, 1) := dX12_readPart_18g.2.2.2.2.2.2.2.1
theorem dX12_readPart_34 : decode cX12_readPart 34 = .ok (.invokevirtual 172, 3) := dX12_readPart_18g.2.2.2.2.2.2.2.2.1
theorem dX12_readPart_37 : decode cX12_readPart 37 = .ok (.aload_n 0, 1) := dX12_readPart_18g.2.2.2.2.2.2.2.2.2
theorem dX12_readPart_38g : (decode cX12_readPart 38 = .ok (.invokevirtual 162, 3)) ∧ (decode cX12_readPart 41 = .ok (.ifCond .ne 4, 3)) ∧ (decode cX12_readPart 44 = .ok (.return_, 1)) ∧ (decode cX12_readPart 45 = .ok (.aload_n 0, 1)) ∧ (decode cX12_readPart 46 = .ok (.dup, 1)) ∧ (decode cX12_readPart 47 = .ok (.getfield 166, 3)) ∧ (decode cX12_readPart 50 = .ok (.iconst 1, 1)) ∧ (decode cX12_readPart 51 = .ok (.iadd, 1)) ∧ (decode cX12_readPart 52 = .ok (.putfield 166, 3)) ∧ (decode cX12_readPart 55 = .ok (.aload_n 0, 1)) := by decide +kernel
theorem dX12_readPart_38 : decode cX12_readPart 38 = .ok (.invokevirtual 162, 3) := dX12_readPart_38g.1
theorem dX12_readPart_41 : decode cX12_readPart 41 = .ok (.ifCond .ne 4, 3) := dX12_readPart_38g.2.1
theorem dX12_readPart_44 : decode cX12_readPart 44 = .ok (.return_, 1) := dX12_readPart_38g.2.2.1
theorem dX12_readPart_45 : decode cX12_readPart 45 = .ok (.aload_n 0, 1) := dX12_readPart_38g.2.2.2.1
theorem dX12_readPart_46 : decode cX12_readPart 46 = .ok (.dup, 1) := dX12_readPart_38g.2.2.2.2.1
theorem dX12_readPart_47 : decode cX12_readPart 47 = .ok (.getfield 166, 3) := dX12_readPart_38g.2.2.2.2.2.1
theorem dX12_readPart_50 : decode cX12_readPart 50 = .ok (.iconst 1, 1) := dX12_readPart_38g.2.2.2.2.2.2.1
theorem dX12_readPart_51 : decode cX12_readPart 51 = .ok (.iadd, 1) := dX12_readPart_38g.2.2.2.2.2.2.2.1
theorem dX12_readPart_52 : decode cX12_readPart 52 = .ok (.putfield 166, 3) := dX12_readPart_38g.2.2.2.2.2.2.2.2.1
theorem dX12_readPart_55 : decode cX12_readPart 55 = .ok (.aload_n 0, 1) := dX12_readPart_38g.2.2.2.2.2.2.2.2.2
theorem dX12_readPart_56g : (decode cX12_readPart 56 = .ok (.iload_n 1, 1)) ∧ (decode cX12_readPart 57 = .ok (.iconst 1, 1)) ∧ (decode cX12_readPart 58 = .ok (.iadd, 1)) ∧ (decode cX12_readPart 59 = .ok (.invokevirtual 178, 3)) ∧ (decode cX12_readPart 62 = .ok (.aload_n 0, 1)) ∧ (decode cX12_readPart 63 = .ok (.bipush 93, 2)) ∧ (decode cX12_readPart 65 = .ok (.invokestatic 194, 3)) ∧ (decode cX12_readPart 68 = .ok (.invokevirtual 182, 3)) ∧ (decode cX12_readPart 71 = .ok (.goto 47, 3)) ∧ (decode cX12_readPart 74 = .ok (.iload_n 2, 1)) := by decide +kernel
theorem dX12_readPart_56 : decode cX12_readPart 56 = .ok (.iload_n 1, 1) := dX12_readPart_56g.1
theorem dX12_readPart_57 : decode cX12_readPart 57 = .ok (.iconst 1, 1) := dX12_readPart_56g.2.1
theorem dX12_readPart_58 : decode cX12_readPart 58 = .ok (.iadd, 1) := dX12_readPart_56g.2.2.1
theorem dX12_readPart_59 : decode cX12_readPart 59 = .ok (.invokevirtual 178, 3) := dX12_readPart_56g.2.2.2.1
theorem dX12_readPart_62 : decode cX12_readPart 62 = .ok (.aload_n 0, 1) := dX12_readPart_56g.2.2.2.2.1
theorem dX12_readPart_63 : decode cX12_readPart 63 = .ok (.bipush 93, 2) := dX12_readPart_56g.2.2.2.2.2.1
theorem dX12_readPart_65 : decode cX12_readPart 65 = .ok (.invokestatic 194, 3) := dX12_readPart_56g.2.2.2.2.2.2.1
theorem dX12_readPart_68 : decode cX12_readPart 68 = .ok (.invokevirtual 182, 3) := dX12_readPart_56g.2.2.2.2.2.2.2.1
theorem dX12_readPart_71 : decode cX12_readPart 71 = .ok (.goto 47, 3) := dX12_readPart_56g.2.2.2.2.2.2.2.2.1
theorem dX12_readPart_74 : decode cX12_readPart 74 = .ok (.iload_n 2, 1) := dX12_readPart_56g.2.2.2.2.2.2.2.2.2
theorem dX12_readPart_75g : (decode cX12_readPart 75 = .ok (.bipush 50, 2)) ∧ (decode cX12_readPart 77 = .ok (.if_icmp .ne 18, 3)) ∧ (decode cX12_readPart 80 = .ok (.aload_n 0, 1)) ∧ (decode cX12_readPart 81 = .ok (.getfield 46, 3)) ∧ (decode cX12_readPart 84 = .ok (.aload_n 0, 1)) ∧ (decode cX12_readPart 85 = .ok (.getfield 166, 3)) ∧ (decode cX12_readPart 88 = .ok (.iaload, 1)) ∧ (decode cX12_readPart 89 = .ok (.sipush 1000, 3)) ∧ (decode cX12_readPart 92 = .ok (.if_icmp .le 15, 3)) ∧ (decode cX12_readPart 95 = .ok (.iload_n 2, 1)) := by decide +kernel
theorem dX12_readPart_75 : decode cX12_readPart 75 = .ok (.bipush 50, 2) := dX12_readPart_75g.1
theorem dX12_readPart_77 : decode cX12_readPart 77 = .ok (.if_icmp .ne 18, 3) := dX12_readPart_75g.2.1
theorem dX12_readPart_80 : decode cX12_readPart 80 = .ok (.aload_n 0, 1) := dX12_readPart_75g.2.2.1
theorem dX12_readPart_81 : decode cX12_readPart 81 = .ok (.getfield 46, 3) := dX12_readPart_75g.2.2.2.1
theorem dX12_readPart_84 : decode cX12_readPart 84 = .ok (.aload_n 0, 1) := dX12_readPart_75g.2.2.2.2.1
theorem dX12_readPart_85 : decode cX12_readPart 85 = .ok (.getfield 166, 3) := dX12_readPart_75g.2.2.2.2.2.1
theorem dX12_readPart_88 : decode cX12_readPart 88 = .ok (.iaload, 1) := dX12_readPart_75g.2.2.2.2.2.2.1
theorem dX12_readPart_89 : decode cX12_readPart 89 = .ok (.sipush 1000, 3) := dX12_readPart_75g.2.2.2.2.2.2.2.1
theorem dX12_readPart_92 : decode cX12_readPart 92 = .ok (.if_icmp .le 15, 3) := dX12_readPart_75g.2.2.2.2.2.2.2.2.1
theorem dX12_readPart_95 : decode cX12_readPart 95 = .ok (.iload_n 2, 1) := dX12_readPart_75g.2.2.2.2.2.2.2.2.2
theorem dX12_readPart_96g : (decode cX12_readPart 96 = .ok (.bipush 9, 2)) ∧ (decode cX12_readPart 98 = .ok (.if_icmp .lt 16, 3)) ∧ (decode cX12_readPart 101 = .ok (.iload_n 2, 1)) ∧ (decode cX12_readPart 102 = .ok (.bipush 17, 2)) ∧ (decode cX12_readPart 104 = .ok (.if_icmp .gt 10, 3)) ∧ (decode cX12_readPart 107 = .ok (.aload_n 0, 1)) ∧ (decode cX12_readPart 108 = .ok (.invokevirtual 204, 3)) ∧ (decode cX12_readPart 111 = .ok (.goto 7, 3)) ∧ (decode cX12_readPart 114 = .ok (.aload_n 0, 1)) ∧ (decode cX12_readPart 115 = .ok (.invokevirtual 172, 3)) := by decide +kernel
theorem dX12_readPart_96 : decode cX12_readPart 96 = .ok (.bipush 9, 2) := dX12_readPart_96g.1
theorem dX12_readPart_98 : decode cX12_readPart 98 = .ok (.if_icmp .lt 16, 3) := dX12_readPart_96g.2.1
theorem dX12_readPart_101 : decode cX12_readPart 101 = .ok (.iload_n 2, 1) := dX12_readPart_96g.2.2.1
theorem dX12_readPart_102 : decode cX12_readPart 102 = .ok (.bipush 17, 2) := dX12_readPart_96g.2.2.2.1
theorem dX12_readPart_104 : decode cX12_readPart 104 = .ok (.if_icmp .gt 10, 3) := dX12_readPart_96g.2.2.2.2.1
theorem dX12_readPart_107 : decode cX12_readPart 107 = .ok (.aload_n 0, 1) := dX12_readPart_96g.2.2.2.2.2.1
theorem dX12_readPart_108 : decode cX12_readPart 108 = .ok (.invokevirtual 204, 3) := dX12_readPart_96g.2.2.2.2.2.2.1
theorem dX12_readPart_111 : decode cX12_readPart 111 = .ok (.goto 7, 3) := dX12_readPart_96g.2.2.2.2.2.2.2.1
theorem dX12_readPart_114 : decode cX12_readPart 114 = .ok (.aload_n 0, 1) := dX12_readPart_96g.2.2.2.2.2.2.2.2.1
theorem dX12_readPart_115 : decode cX12_readPart 115 = .ok (.invokevirtual 172, 3) := dX12_readPart_96g.2.2.2.2.2.2.2.2.2
theorem dX12_readPart_118 : decode cX12_readPart 118 = .ok (.return_, 1) := by decide +kernel
set_option maxHeartbeats 4000000 in
set_option maxRecDepth 100000 in
theorem c_X12_readPart (l : Launch) (E : Nat → Nat) (D : va_G) (G : th_G) (k : Nat) : ∀ (h0 : Nat) (hG0 : G h0 = some (10, 0)) (x1 : Int32) (ff cd : Nat → Int32) (TT pp : Nat) (bb : Int32) (dd : Nat) (hdd : x1.toInt = (dd : Int)) (hd8 : dd ≤ 8) (hk : 8 ≤ dd + k), Met l yX12_readPart (tb (.code yX12_readPart cX12_readPart 3 none)) (rm (3 + 3 * k)) (va_Pc [.ref h0, .int x1] (PX E D G (fun H => RD E D G h0 ff cd TT pp bb H))) (QXv E D G (fun H => ∃ (p2 : Nat) (b2 : Int32), RD E D G h0 ff cd TT p2 b2 H ∧ pp ≤ p2 ∧ (b2.toInt = -1 → bb.toInt = -1 ∧ Gr (rC cd TT) 0 dd pp p2))) 0 0 (th_A G) := by
  induction k using Nat.strongRecOn with
  | ind k ih =>
  intro h0 hG0 x1 ff cd TT pp bb dd hdd hd8 hk
  refine Met.ofW (cc := cX12_readPart) (maxL := 3) (ret := none) (by decide) rfl ?_
  intro p e s m args below meth c s₁ B hml hv
  obtain ⟨hav, ⟨hI, hN, hK⟩, hX⟩ := hv
  have hx := B.exec
  have hb := B.bytes
  have hr := B.returns
  have hts := atoms_spec (ws := tb (.code yX12_readPart cX12_readPart 3 none)) B.pre
  have hown : s.vm.findClass RX12 = some m.cls := findClass_of_methodNamed B.named
  have hlocks := B.notSynchronized
  have hS : va_S (th_A G) s.heap s.heap [] := va_S.rf
  have hl := lv_entry ([.ref h0, .int x1]) (n := 3) (Nat.le_of_ble_eq_true rfl)
  rw [show entryFrame m args 3 = entryFrame m ([.ref h0, .int x1] : List Value).toArray 3 from by rw [hav], lg_entry_eq]
  generalize (lg_sl ([.ref h0, .int x1]) ++ List.replicate (3 - (lg_sl ([.ref h0, .int x1])).length) Slot.unset).toArray = ls at hl ⊢
  have hl : lv_has ls 3 [(0, .ref h0), (1, .int x1)] := hl
  generalize hR : (headSpec (tb (.code yX12_readPart cX12_readPart 3 none)) (rm (3 + 3 * k))).room = R
  have hR := hR.symm
  generalize hQ : MQ below (QXv E D G (fun H => ∃ (p2 : Nat) (b2 : Int32), RD E D G h0 ff cd TT p2 b2 H ∧ pp ≤ p2 ∧ (b2.toInt = -1 → bb.toInt = -1 ∧ Gr (rC cd TT) 0 dd pp p2))) args s 0 0 (th_A G) = QF
  have hQ := hQ.symm
  obtain ⟨hkf, hT, hz0, k14, ⟨a1, hf2, hq3, hA4⟩, ⟨a5, hf6, hq7, hA8⟩, ⟨w9, hg10, k15⟩, ⟨w11, hg12, k16⟩, hg13⟩ := hX
  refine lv_aload_n hx hb dX12_readPart_0 rfl (lv_at hl 0 rfl) ?_
  refine mr_i (As := []) (rest := []) (n := 0) (d := 0) ⟨hx, hb, hml, hown, hts⟩ (c_X12_fine l E D G s.heap h0 hG0  ff cd TT pp bb ⟨hkf, hT, hz0, by omega, ⟨a1, hf2, hq3, hA4⟩, ⟨a5, hf6, hq7, hA8⟩, ⟨w9, hg10, by omega⟩, ⟨w11, hg12, by omega⟩, hg13⟩) wd_1591 wd_1593 wp_67 wd_13 wd_1594 (by decide +kernel) ⟨by rw [hR]; show 0 + 1 ≤ 3 + 3 * k; omega, by rw [hR]; show 8 + (1 + 11) + 40 * (0) ≤ 40 * (3 + 3 * k); omega⟩ hI hN hK hS hG0 rfl hl.1 rfl (Nat.le_of_ble_eq_true rfl) dX12_readPart_1 ⟨Nat.zero_le _, Nat.zero_le _⟩ (fun r17 locs hp hS => ?_)
  rcases hp with ⟨rfl, hp⟩ | ⟨rfl, hp⟩
  · skip
    try simp only [rg, not_and, Int.not_le] at hp
    have hp18 := hp
    refine lv_if_ne (tgt := 8) hx hb dX12_readPart_4 (by decide) (fun _ => ?_) (fun c => absurd c (by decide))
    refine lv_aload_n hx hb dX12_readPart_8 rfl (lv_at hl 0 rfl) ?_
    refine gmA hx hb hts inT12 hown hK hI List.not_mem_nil hG0 12 (by decide) (hts _ (tb_c wd_1245)) rfl rfl dX12_readPart_9 (fun a19 hq20 hf21 => ?_)
    obtain rfl := fr.uniq (by decide) hf6 hf21
    refine lv_aload_n hx hb dX12_readPart_12 rfl (lv_at hl 0 rfl) ?_
    refine gmI hx hb hts inT12 hown hK hI List.not_mem_nil hG0 16 (by decide) (hts _ (tb_c wd_1249)) rfl rfl dX12_readPart_13 (fun w22 hg23 k24 k25 => ?_)
    obtain rfl := gf.uniq (by decide) hg12 hg23
    refine th_iald hx hb hK hA8 0 rfl (iv_in (X := w11.toInt) rfl (by omega) (by omega)) dX12_readPart_16 (fun v26 e27 => ?_)
    have hrc := rC_rd (TT := TT) e27 (j := pp) (by omega) (by omega) hz0
    refine lv_istore_n (lv' := [(2, .int v26), (0, .ref h0), (1, .int x1)]) hx hb dX12_readPart_17 rfl hl (by decide) rfl (fun ls hl => ?_)
    refine lv_iload_n hx hb dX12_readPart_18 rfl (lv_at hl 0 rfl) ?_
    refine lv_bipush (v := 91) hx hb dX12_readPart_19 (by decide) ?_
    refine th_cSs (As := [.int 91]) (rest := [.int v26]) (n := 1) (d := 0) ⟨hx, hb, hml, hown, hts⟩ (c_X12_sign l s.heap 91) wd_1495 wd_1496 wd_13 wd_1497 (by decide +kernel) ⟨by rw [hR]; show 0 + 1 ≤ 3 + 3 * k; omega, by rw [hR]; show 8 + (1 + 11) + 40 * (0) ≤ 40 * (3 + 3 * k); omega⟩ hN hS rfl hl.1 rfl (Nat.le_of_ble_eq_true rfl) dX12_readPart_21 ⟨Nat.zero_le _, Nat.zero_le _⟩ (fun r28 locs hp hS => ?_)
    obtain rfl : r28 = 191 := hp.trans (by decide)
    have k29 := iv_lo v26
    have k30 := iv_hi v26
    refine lv_icmp_ne (tgt := 74) hx hb dX12_readPart_24 (by decide) (fun c31 => ?_) (fun c31 => ?_)
    · skip
      have k32 := iv_ne (X := v26.toInt) (Y := (191)) rfl (by decide) c31
      refine lv_iload_n hx hb dX12_readPart_74 rfl (lv_at hl 0 rfl) ?_
      refine lv_bipush (v := 50) hx hb dX12_readPart_75 (by decide) ?_
      refine lv_icmp_ne (tgt := 95) hx hb dX12_readPart_77 (by decide) (fun c33 => ?_) (fun c33 => ?_)
      · skip
        have k34 := iv_ne (X := v26.toInt) (Y := (50)) rfl (by decide) c33
        refine lv_iload_n hx hb dX12_readPart_95 rfl (lv_at hl 0 rfl) ?_
        refine lv_bipush (v := 9) hx hb dX12_readPart_96 (by decide) ?_
        refine lv_icmp_lt (tgt := 114) hx hb dX12_readPart_98 (by decide) (fun c35 => ?_) (fun c35 => ?_)
        · skip
          have k36 := iv_lt (X := v26.toInt) (Y := (9)) rfl (by decide) c35
          refine lv_aload_n hx hb dX12_readPart_114 rfl (lv_at hl 1 rfl) ?_
          refine mx_v (As := []) (rest := []) (n := 0) (d := 1) ⟨hx, hb, hml, hown, hts⟩ (c_X12_faults l E D G h0 hG0  ff cd TT pp bb) wd_1607 wd_1609 wp_71 wd_13 wd_1610 (by decide +kernel) ⟨by rw [hR]; show 1 + 1 ≤ 3 + 3 * k; omega, by rw [hR]; show 8 + (1 + 11) + 40 * (1) ≤ 40 * (3 + 3 * k); omega⟩ hI hN hK hS hG0 (⟨hkf, hT, hz0, by omega, ⟨a1, hf2, hq3, hA4⟩, ⟨a5, hf6, hq7, hA8⟩, ⟨w9, hg10, by omega⟩, ⟨w11, hg12, by omega⟩, hg13⟩) rfl hl.1 rfl (Nat.le_of_ble_eq_true rfl) dX12_readPart_115 ⟨Nat.zero_le _, Nat.zero_le _⟩ (fun H locs hI hp hS => ?_)
          obtain ⟨bn38, hb39, hE⟩ := hp
          obtain ⟨hkf, hT, hz0, k53, ⟨a40, hf41, hq42, hA43⟩, ⟨a44, hf45, hq46, hA47⟩, ⟨w48, hg49, k54⟩, ⟨w50, hg51, k55⟩, hg52⟩ := hE
          have hpost : ∃ (p2 : Nat) (b2 : Int32), RD E D G h0 ff cd TT p2 b2 H ∧ pp ≤ p2 ∧ (b2.toInt = -1 → bb.toInt = -1 ∧ Gr (rC cd TT) 0 dd pp p2) := ⟨pp, bn38, ⟨hkf, hT, hz0, by omega, ⟨a40, hf41, hq42, hA43⟩, ⟨a44, hf45, hq46, hA47⟩, ⟨w48, hg49, by omega⟩, ⟨w50, hg51, by omega⟩, hg52⟩, by omega, fun h => absurd h (by omega)⟩
          rw [hQ]
          exact W.vret hx hb hr (fun t ht hW => ⟨⟨(), rfl, trivial, ⟨by rw [ht]; exact hI, hN.warm hW, va_K.moved hW.alike hK⟩, by first | (rw [ht]; exact hpost) | exact hpost⟩, hS.F ht⟩) hS.2.2 dX12_readPart_118
        · skip
          have k56 := iv_nlt (X := v26.toInt) (Y := (9)) rfl (by decide) c35
          refine lv_iload_n hx hb dX12_readPart_101 rfl (lv_at hl 0 rfl) ?_
          refine lv_bipush (v := 17) hx hb dX12_readPart_102 (by decide) ?_
          refine lv_icmp_gt (tgt := 114) hx hb dX12_readPart_104 (by decide) (fun c57 => ?_) (fun c57 => ?_)
          · skip
            have k58 := iv_lt (X := (17)) (Y := v26.toInt) (by decide) rfl c57
            refine lv_aload_n hx hb dX12_readPart_114 rfl (lv_at hl 1 rfl) ?_
            refine mx_v (As := []) (rest := []) (n := 0) (d := 1) ⟨hx, hb, hml, hown, hts⟩ (c_X12_faults l E D G h0 hG0  ff cd TT pp bb) wd_1607 wd_1609 wp_71 wd_13 wd_1610 (by decide +kernel) ⟨by rw [hR]; show 1 + 1 ≤ 3 + 3 * k; omega, by rw [hR]; show 8 + (1 + 11) + 40 * (1) ≤ 40 * (3 + 3 * k); omega⟩ hI hN hK hS hG0 (⟨hkf, hT, hz0, by omega, ⟨a1, hf2, hq3, hA4⟩, ⟨a5, hf6, hq7, hA8⟩, ⟨w9, hg10, by omega⟩, ⟨w11, hg12, by omega⟩, hg13⟩) rfl hl.1 rfl (Nat.le_of_ble_eq_true rfl) dX12_readPart_115 ⟨Nat.zero_le _, Nat.zero_le _⟩ (fun H locs hI hp hS => ?_)
            obtain ⟨bn60, hb61, hE⟩ := hp
            obtain ⟨hkf, hT, hz0, k75, ⟨a62, hf63, hq64, hA65⟩, ⟨a66, hf67, hq68, hA69⟩, ⟨w70, hg71, k76⟩, ⟨w72, hg73, k77⟩, hg74⟩ := hE
            have hpost : ∃ (p2 : Nat) (b2 : Int32), RD E D G h0 ff cd TT p2 b2 H ∧ pp ≤ p2 ∧ (b2.toInt = -1 → bb.toInt = -1 ∧ Gr (rC cd TT) 0 dd pp p2) := ⟨pp, bn60, ⟨hkf, hT, hz0, by omega, ⟨a62, hf63, hq64, hA65⟩, ⟨a66, hf67, hq68, hA69⟩, ⟨w70, hg71, by omega⟩, ⟨w72, hg73, by omega⟩, hg74⟩, by omega, fun h => absurd h (by omega)⟩
            rw [hQ]
            exact W.vret hx hb hr (fun t ht hW => ⟨⟨(), rfl, trivial, ⟨by rw [ht]; exact hI, hN.warm hW, va_K.moved hW.alike hK⟩, by first | (rw [ht]; exact hpost) | exact hpost⟩, hS.F ht⟩) hS.2.2 dX12_readPart_118
          · skip
            have k78 := iv_nlt (X := (17)) (Y := v26.toInt) (by decide) rfl c57
            have hlt9 : pp < TT := rC_lt (cd := cd) (by omega)
            refine lv_aload_n hx hb dX12_readPart_107 rfl (lv_at hl 1 rfl) ?_
            refine mx_v (As := []) (rest := []) (n := 0) (d := 2) ⟨hx, hb, hml, hown, hts⟩ (c_X12_leaf l E D G h0 hG0  ff cd TT pp bb (by omega)) wd_1615 wd_1617 wp_73 wd_13 wd_1618 (by decide +kernel) ⟨by rw [hR]; show 2 + 1 ≤ 3 + 3 * k; omega, by rw [hR]; show 8 + (1 + 11) + 40 * (2) ≤ 40 * (3 + 3 * k); omega⟩ hI hN hK hS hG0 (⟨hkf, hT, hz0, by omega, ⟨a1, hf2, hq3, hA4⟩, ⟨a5, hf6, hq7, hA8⟩, ⟨w9, hg10, by omega⟩, ⟨w11, hg12, by omega⟩, hg13⟩) rfl hl.1 rfl (Nat.le_of_ble_eq_true rfl) dX12_readPart_108 ⟨Nat.zero_le _, Nat.zero_le _⟩ (fun H locs hI hp hS => ?_)
            obtain ⟨pn80, bn81, hE, k83, hi82⟩ := hp
            obtain ⟨hkf, hT, hz0, k97, ⟨a84, hf85, hq86, hA87⟩, ⟨a88, hf89, hq90, hA91⟩, ⟨w92, hg93, k98⟩, ⟨w94, hg95, k99⟩, hg96⟩ := hE
            refine lv_goto (tgt := 118) hx hb dX12_readPart_111 (by decide) ?_
            have hpost : ∃ (p2 : Nat) (b2 : Int32), RD E D G h0 ff cd TT p2 b2 H ∧ pp ≤ p2 ∧ (b2.toInt = -1 → bb.toInt = -1 ∧ Gr (rC cd TT) 0 dd pp p2) := ⟨pn80, bn81, ⟨hkf, hT, hz0, by omega, ⟨a84, hf85, hq86, hA87⟩, ⟨a88, hf89, hq90, hA91⟩, ⟨w92, hg93, by omega⟩, ⟨w94, hg95, by omega⟩, hg96⟩, by omega, fun h => ⟨(hi82 h).1, r0_lf (by omega) (hi82 h).2⟩⟩
            rw [hQ]
            exact W.vret hx hb hr (fun t ht hW => ⟨⟨(), rfl, trivial, ⟨by rw [ht]; exact hI, hN.warm hW, va_K.moved hW.alike hK⟩, by first | (rw [ht]; exact hpost) | exact hpost⟩, hS.F ht⟩) hS.2.2 dX12_readPart_118
      · skip
        have k100 := iv_eq (X := v26.toInt) (Y := (50)) rfl (by decide) c33
        refine lv_aload_n hx hb dX12_readPart_80 rfl (lv_at hl 1 rfl) ?_
        refine gmA hx hb hts inT12 hown hK hI List.not_mem_nil hG0 13 (by decide) (hts _ (tb_c wd_1246)) rfl rfl dX12_readPart_81 (fun a101 hq102 hf103 => ?_)
        refine lv_aload_n hx hb dX12_readPart_84 rfl (lv_at hl 1 rfl) ?_
        refine gmI hx hb hts inT12 hown hK hI List.not_mem_nil hG0 16 (by decide) (hts _ (tb_c wd_1249)) rfl rfl dX12_readPart_85 (fun w104 hg105 k106 k107 => ?_)
        obtain rfl := gf.uniq (by decide) hg12 hg105
        obtain ⟨F108, hA109⟩ := om_0 hI hq102 List.not_mem_nil
        refine th_iald hx hb hK hA109 0 rfl (iv_in (X := w11.toInt) rfl (by omega) (by omega)) dX12_readPart_88 (fun v110 e111 => ?_)
        refine lv_sipush (v := 1000) hx hb dX12_readPart_89 (by decide) ?_
        have k112 := iv_lo v110
        have k113 := iv_hi v110
        refine lv_icmp_le (tgt := 107) hx hb dX12_readPart_92 (by decide) (fun c114 => ?_) (fun c114 => ?_)
        · skip
          have k115 := iv_le (X := v110.toInt) (Y := (1000)) rfl (by decide) c114
          have hlt9 : pp < TT := rC_lt (cd := cd) (by omega)
          refine lv_aload_n hx hb dX12_readPart_107 rfl (lv_at hl 1 rfl) ?_
          refine mx_v (As := []) (rest := []) (n := 0) (d := 2) ⟨hx, hb, hml, hown, hts⟩ (c_X12_leaf l E D G h0 hG0  ff cd TT pp bb (by omega)) wd_1615 wd_1617 wp_73 wd_13 wd_1618 (by decide +kernel) ⟨by rw [hR]; show 2 + 1 ≤ 3 + 3 * k; omega, by rw [hR]; show 8 + (1 + 11) + 40 * (2) ≤ 40 * (3 + 3 * k); omega⟩ hI hN hK hS hG0 (⟨hkf, hT, hz0, by omega, ⟨a1, hf2, hq3, hA4⟩, ⟨a5, hf6, hq7, hA8⟩, ⟨w9, hg10, by omega⟩, ⟨w11, hg12, by omega⟩, hg13⟩) rfl hl.1 rfl (Nat.le_of_ble_eq_true rfl) dX12_readPart_108 ⟨Nat.zero_le _, Nat.zero_le _⟩ (fun H locs hI hp hS => ?_)
          obtain ⟨pn117, bn118, hE, k120, hi119⟩ := hp
          obtain ⟨hkf, hT, hz0, k134, ⟨a121, hf122, hq123, hA124⟩, ⟨a125, hf126, hq127, hA128⟩, ⟨w129, hg130, k135⟩, ⟨w131, hg132, k136⟩, hg133⟩ := hE
          refine lv_goto (tgt := 118) hx hb dX12_readPart_111 (by decide) ?_
          have hpost : ∃ (p2 : Nat) (b2 : Int32), RD E D G h0 ff cd TT p2 b2 H ∧ pp ≤ p2 ∧ (b2.toInt = -1 → bb.toInt = -1 ∧ Gr (rC cd TT) 0 dd pp p2) := ⟨pn117, bn118, ⟨hkf, hT, hz0, by omega, ⟨a121, hf122, hq123, hA124⟩, ⟨a125, hf126, hq127, hA128⟩, ⟨w129, hg130, by omega⟩, ⟨w131, hg132, by omega⟩, hg133⟩, by omega, fun h => ⟨(hi119 h).1, r0_lf (by omega) (hi119 h).2⟩⟩
          rw [hQ]
          exact W.vret hx hb hr (fun t ht hW => ⟨⟨(), rfl, trivial, ⟨by rw [ht]; exact hI, hN.warm hW, va_K.moved hW.alike hK⟩, by first | (rw [ht]; exact hpost) | exact hpost⟩, hS.F ht⟩) hS.2.2 dX12_readPart_118
        · skip
          have k137 := iv_nle (X := v110.toInt) (Y := (1000)) rfl (by decide) c114
          refine lv_iload_n hx hb dX12_readPart_95 rfl (lv_at hl 0 rfl) ?_
          refine lv_bipush (v := 9) hx hb dX12_readPart_96 (by decide) ?_
          refine lv_icmp_lt (tgt := 114) hx hb dX12_readPart_98 (by decide) (fun c138 => ?_) (fun c138 => ?_)
          · skip
            have k139 := iv_lt (X := v26.toInt) (Y := (9)) rfl (by decide) c138
            exfalso; omega
          · skip
            have k140 := iv_nlt (X := v26.toInt) (Y := (9)) rfl (by decide) c138
            refine lv_iload_n hx hb dX12_readPart_101 rfl (lv_at hl 0 rfl) ?_
            refine lv_bipush (v := 17) hx hb dX12_readPart_102 (by decide) ?_
            refine lv_icmp_gt (tgt := 114) hx hb dX12_readPart_104 (by decide) (fun c141 => ?_) (fun c141 => ?_)
            · skip
              have k142 := iv_lt (X := (17)) (Y := v26.toInt) (by decide) rfl c141
              refine lv_aload_n hx hb dX12_readPart_114 rfl (lv_at hl 1 rfl) ?_
              refine mx_v (As := []) (rest := []) (n := 0) (d := 1) ⟨hx, hb, hml, hown, hts⟩ (c_X12_faults l E D G h0 hG0  ff cd TT pp bb) wd_1607 wd_1609 wp_71 wd_13 wd_1610 (by decide +kernel) ⟨by rw [hR]; show 1 + 1 ≤ 3 + 3 * k; omega, by rw [hR]; show 8 + (1 + 11) + 40 * (1) ≤ 40 * (3 + 3 * k); omega⟩ hI hN hK hS hG0 (⟨hkf, hT, hz0, by omega, ⟨a1, hf2, hq3, hA4⟩, ⟨a5, hf6, hq7, hA8⟩, ⟨w9, hg10, by omega⟩, ⟨w11, hg12, by omega⟩, hg13⟩) rfl hl.1 rfl (Nat.le_of_ble_eq_true rfl) dX12_readPart_115 ⟨Nat.zero_le _, Nat.zero_le _⟩ (fun H locs hI hp hS => ?_)
              obtain ⟨bn144, hb145, hE⟩ := hp
              obtain ⟨hkf, hT, hz0, k159, ⟨a146, hf147, hq148, hA149⟩, ⟨a150, hf151, hq152, hA153⟩, ⟨w154, hg155, k160⟩, ⟨w156, hg157, k161⟩, hg158⟩ := hE
              have hpost : ∃ (p2 : Nat) (b2 : Int32), RD E D G h0 ff cd TT p2 b2 H ∧ pp ≤ p2 ∧ (b2.toInt = -1 → bb.toInt = -1 ∧ Gr (rC cd TT) 0 dd pp p2) := ⟨pp, bn144, ⟨hkf, hT, hz0, by omega, ⟨a146, hf147, hq148, hA149⟩, ⟨a150, hf151, hq152, hA153⟩, ⟨w154, hg155, by omega⟩, ⟨w156, hg157, by omega⟩, hg158⟩, by omega, fun h => absurd h (by omega)⟩
              rw [hQ]
              exact W.vret hx hb hr (fun t ht hW => ⟨⟨(), rfl, trivial, ⟨by rw [ht]; exact hI, hN.warm hW, va_K.moved hW.alike hK⟩, by first | (rw [ht]; exact hpost) | exact hpost⟩, hS.F ht⟩) hS.2.2 dX12_readPart_118
            · skip
              have k162 := iv_nlt (X := (17)) (Y := v26.toInt) (by decide) rfl c141
              exfalso; omega
    · skip
      have k163 := iv_eq (X := v26.toInt) (Y := (191)) rfl (by decide) c31
      refine lv_iload_n hx hb dX12_readPart_27 rfl (lv_at hl 2 rfl) ?_
      refine lv_bipush (v := 8) hx hb dX12_readPart_28 (by decide) ?_
      refine lv_icmp_ne (tgt := 37) hx hb dX12_readPart_30 (by decide) (fun c164 => ?_) (fun c164 => ?_)
      · skip
        have k165 := iv_ne (X := x1.toInt) (Y := (8)) rfl (by decide) c164
        refine lv_aload_n hx hb dX12_readPart_37 rfl (lv_at hl 1 rfl) ?_
        refine mr_i (As := []) (rest := []) (n := 0) (d := 0) ⟨hx, hb, hml, hown, hts⟩ (c_X12_fine l E D G s.heap h0 hG0  ff cd TT pp bb ⟨hkf, hT, hz0, by omega, ⟨a1, hf2, hq3, hA4⟩, ⟨a5, hf6, hq7, hA8⟩, ⟨w9, hg10, by omega⟩, ⟨w11, hg12, by omega⟩, hg13⟩) wd_1591 wd_1593 wp_67 wd_13 wd_1594 (by decide +kernel) ⟨by rw [hR]; show 0 + 1 ≤ 3 + 3 * k; omega, by rw [hR]; show 8 + (1 + 11) + 40 * (0) ≤ 40 * (3 + 3 * k); omega⟩ hI hN hK hS hG0 rfl hl.1 rfl (Nat.le_of_ble_eq_true rfl) dX12_readPart_38 ⟨Nat.zero_le _, Nat.zero_le _⟩ (fun r166 locs hp hS => ?_)
        rcases hp with ⟨rfl, hp⟩ | ⟨rfl, hp⟩
        · skip
          try simp only [rg, not_and, Int.not_le] at hp
          have hp167 := hp
          refine lv_if_ne (tgt := 45) hx hb dX12_readPart_41 (by decide) (fun _ => ?_) (fun c => absurd c (by decide))
          have hlt9 : pp < TT := rC_lt (cd := cd) (by omega)
          refine lv_aload_n hx hb dX12_readPart_45 rfl (lv_at hl 1 rfl) ?_
          refine lv_dup hx hb dX12_readPart_46 rfl ?_
          refine gmI hx hb hts inT12 hown hK hI List.not_mem_nil hG0 16 (by decide) (hts _ (tb_c wd_1249)) rfl rfl dX12_readPart_47 (fun w168 hg169 k170 k171 => ?_)
          obtain rfl := gf.uniq (by decide) hg12 hg169
          refine lv_iconst (v := 1) hx hb dX12_readPart_50 (by decide) ?_
          refine lv_iadd hx hb dX12_readPart_51 ?_
          refine lv_topi (fun v172 e173 => ?_)
          have tv172 : v172.toInt = w11.toInt + (1) := iv_add rfl (by decide) e173 (by omega) (by omega)
          refine pmI (ty := .int) hx hb hts inT12 hown hK hI List.not_mem_nil hG0 hS ⟨_, hG0⟩ 16 (by decide) (hts _ (tb_c wd_1249)) rfl rfl (by decide +kernel) rfl rfl rfl (by omega) (by omega) dX12_readPart_52 (fun H locs hI hgP hS => ?_)
          have hg10 := hgP.2.2.1 15 _ (by decide) (by decide) hg10
          have hg13 := hgP.2.2.1 18 _ (by decide) (by decide) hg13
          have hg174 := hgP.2.1
          have hf2 := hgP.2.2.2 3 _ (by decide) (by decide) hf2
          have hf6 := hgP.2.2.2 12 _ (by decide) (by decide) hf6
          have hA4 := va_at.kept hA4 (hgP.1 _ (m_ne hq3 hG0 (by first | decide | (dsimp only; decide))))
          have hA8 := va_at.kept hA8 (hgP.1 _ (m_ne hq7 hG0 (by first | decide | (dsimp only; decide))))
          refine lv_aload_n hx hb dX12_readPart_55 rfl (lv_at hl 1 rfl) ?_
          refine lv_iload_n hx hb dX12_readPart_56 rfl (lv_at hl 2 rfl) ?_
          refine lv_iconst (v := 1) hx hb dX12_readPart_57 (by decide) ?_
          refine lv_iadd hx hb dX12_readPart_58 ?_
          refine lv_topi (fun v175 e176 => ?_)
          have tv175 : v175.toInt = x1.toInt + (1) := iv_add rfl (by decide) e176 (by omega) (by omega)
          refine mx_v (As := [.int v175]) (rest := []) (n := 1) (d := (5 + 3 * (k - 1))) ⟨hx, hb, hml, hown, hts⟩ (c_X12_readSum l E D G (k - 1) h0 hG0 v175 ff cd TT (pp + 1) bb (dd + 1) (by first | decide | omega) (by omega) (by omega) (ih (k - 1) (by omega))) wd_1595 wd_1597 wp_68 wd_13 wd_1598 (by decide +kernel) ⟨by rw [hR]; show (5 + 3 * (k - 1)) + 1 ≤ 3 + 3 * k; omega, by rw [hR]; show 8 + (2 + 11) + 40 * ((5 + 3 * (k - 1))) ≤ 40 * (3 + 3 * k); omega⟩ hI hN hK hS hG0 (⟨hkf, hT, hz0, by omega, ⟨a1, hf2, hq3, hA4⟩, ⟨a5, hf6, hq7, hA8⟩, ⟨w9, hg10, by omega⟩, ⟨v172, hg174, by omega⟩, hg13⟩) rfl hl.1 rfl (Nat.le_of_ble_eq_true rfl) dX12_readPart_59 ⟨Nat.zero_le _, Nat.zero_le _⟩ (fun H locs hI hp hS => ?_)
          obtain ⟨pn178, bn179, hE, k181, hi180⟩ := hp
          obtain ⟨hkf, hT, hz0, k195, ⟨a182, hf183, hq184, hA185⟩, ⟨a186, hf187, hq188, hA189⟩, ⟨w190, hg191, k196⟩, ⟨w192, hg193, k197⟩, hg194⟩ := hE
          refine lv_aload_n hx hb dX12_readPart_62 rfl (lv_at hl 1 rfl) ?_
          refine lv_bipush (v := 93) hx hb dX12_readPart_63 (by decide) ?_
          refine th_cSs (As := [.int 93]) (rest := [.ref h0]) (n := 1) (d := 0) ⟨hx, hb, hml, hown, hts⟩ (c_X12_sign l H 93) wd_1495 wd_1496 wd_13 wd_1497 (by decide +kernel) ⟨by rw [hR]; show 0 + 1 ≤ 3 + 3 * k; omega, by rw [hR]; show 8 + (1 + 11) + 40 * (0) ≤ 40 * (3 + 3 * k); omega⟩ hN hS rfl hl.1 rfl (Nat.le_of_ble_eq_true rfl) dX12_readPart_65 ⟨Nat.zero_le _, Nat.zero_le _⟩ (fun r198 locs hp hS => ?_)
          obtain rfl : r198 = 193 := hp.trans (by decide)
          refine mx_v (As := [.int 193]) (rest := []) (n := 1) (d := 2) ⟨hx, hb, hml, hown, hts⟩ (c_X12_must l E D G h0 hG0 193 ff cd TT pn178 bn179 (by first | decide | omega)) wd_1611 wd_1613 wp_72 wd_13 wd_1614 (by decide +kernel) ⟨by rw [hR]; show 2 + 1 ≤ 3 + 3 * k; omega, by rw [hR]; show 8 + (2 + 11) + 40 * (2) ≤ 40 * (3 + 3 * k); omega⟩ hI hN hK hS hG0 (⟨hkf, hT, hz0, by omega, ⟨a182, hf183, hq184, hA185⟩, ⟨a186, hf187, hq188, hA189⟩, ⟨w190, hg191, by omega⟩, ⟨w192, hg193, by omega⟩, hg194⟩) rfl hl.1 rfl (Nat.le_of_ble_eq_true rfl) dX12_readPart_68 ⟨Nat.zero_le _, Nat.zero_le _⟩ (fun H locs hI hp hS => ?_)
          obtain ⟨pn200, bn201, hE, k203, hi202⟩ := hp
          obtain ⟨hkf, hT, hz0, k217, ⟨a204, hf205, hq206, hA207⟩, ⟨a208, hf209, hq210, hA211⟩, ⟨w212, hg213, k218⟩, ⟨w214, hg215, k219⟩, hg216⟩ := hE
          rw [show (193 : Int32).toInt = 193 from by decide] at hi202
          refine lv_goto (tgt := 118) hx hb dX12_readPart_71 (by decide) ?_
          have hpost : ∃ (p2 : Nat) (b2 : Int32), RD E D G h0 ff cd TT p2 b2 H ∧ pp ≤ p2 ∧ (b2.toInt = -1 → bb.toInt = -1 ∧ Gr (rC cd TT) 0 dd pp p2) := ⟨pn200, bn201, ⟨hkf, hT, hz0, by omega, ⟨a204, hf205, hq206, hA207⟩, ⟨a208, hf209, hq210, hA211⟩, ⟨w212, hg213, by omega⟩, ⟨w214, hg215, by omega⟩, hg216⟩, by omega, fun h => ⟨by omega, r0_br (by omega) (by omega) (hi180 (hi202 h).1).2 (hi202 h).2.1 (hi202 h).2.2⟩⟩
          rw [hQ]
          exact W.vret hx hb hr (fun t ht hW => ⟨⟨(), rfl, trivial, ⟨by rw [ht]; exact hI, hN.warm hW, va_K.moved hW.alike hK⟩, by first | (rw [ht]; exact hpost) | exact hpost⟩, hS.F ht⟩) hS.2.2 dX12_readPart_118
        · skip
          try simp only [rg, not_and, Int.not_le] at hp
          have hp220 := hp
          refine lv_if_ne (tgt := 45) hx hb dX12_readPart_41 (by decide) (fun c => absurd c (by decide)) (fun _ => ?_)
          have hpost : ∃ (p2 : Nat) (b2 : Int32), RD E D G h0 ff cd TT p2 b2 s.heap ∧ pp ≤ p2 ∧ (b2.toInt = -1 → bb.toInt = -1 ∧ Gr (rC cd TT) 0 dd pp p2) := ⟨pp, bb, ⟨hkf, hT, hz0, by omega, ⟨a1, hf2, hq3, hA4⟩, ⟨a5, hf6, hq7, hA8⟩, ⟨w9, hg10, by omega⟩, ⟨w11, hg12, by omega⟩, hg13⟩, by omega, fun h => absurd h (by omega)⟩
          rw [hQ]
          exact W.vret hx hb hr (fun t ht hW => ⟨⟨(), rfl, trivial, ⟨by rw [ht]; exact hI, hN.warm hW, va_K.moved hW.alike hK⟩, by first | (rw [ht]; exact hpost) | exact hpost⟩, hS.F ht⟩) hS.2.2 dX12_readPart_44
      · skip
        have k221 := iv_eq (X := x1.toInt) (Y := (8)) rfl (by decide) c164
        refine lv_aload_n hx hb dX12_readPart_33 rfl (lv_at hl 1 rfl) ?_
        refine mx_v (As := []) (rest := []) (n := 0) (d := 1) ⟨hx, hb, hml, hown, hts⟩ (c_X12_faults l E D G h0 hG0  ff cd TT pp bb) wd_1607 wd_1609 wp_71 wd_13 wd_1610 (by decide +kernel) ⟨by rw [hR]; show 1 + 1 ≤ 3 + 3 * k; omega, by rw [hR]; show 8 + (1 + 11) + 40 * (1) ≤ 40 * (3 + 3 * k); omega⟩ hI hN hK hS hG0 (⟨hkf, hT, hz0, by omega, ⟨a1, hf2, hq3, hA4⟩, ⟨a5, hf6, hq7, hA8⟩, ⟨w9, hg10, by omega⟩, ⟨w11, hg12, by omega⟩, hg13⟩) rfl hl.1 rfl (Nat.le_of_ble_eq_true rfl) dX12_readPart_34 ⟨Nat.zero_le _, Nat.zero_le _⟩ (fun H locs hI hp hS => ?_)
        obtain ⟨bn223, hb224, hE⟩ := hp
        obtain ⟨hkf, hT, hz0, k238, ⟨a225, hf226, hq227, hA228⟩, ⟨a229, hf230, hq231, hA232⟩, ⟨w233, hg234, k239⟩, ⟨w235, hg236, k240⟩, hg237⟩ := hE
        refine lv_aload_n hx hb dX12_readPart_37 rfl (lv_at hl 1 rfl) ?_
        refine mr_i (As := []) (rest := []) (n := 0) (d := 0) ⟨hx, hb, hml, hown, hts⟩ (c_X12_fine l E D G H h0 hG0  ff cd TT pp bn223 ⟨hkf, hT, hz0, by omega, ⟨a225, hf226, hq227, hA228⟩, ⟨a229, hf230, hq231, hA232⟩, ⟨w233, hg234, by omega⟩, ⟨w235, hg236, by omega⟩, hg237⟩) wd_1591 wd_1593 wp_67 wd_13 wd_1594 (by decide +kernel) ⟨by rw [hR]; show 0 + 1 ≤ 3 + 3 * k; omega, by rw [hR]; show 8 + (1 + 11) + 40 * (0) ≤ 40 * (3 + 3 * k); omega⟩ hI hN hK hS hG0 rfl hl.1 rfl (Nat.le_of_ble_eq_true rfl) dX12_readPart_38 ⟨Nat.zero_le _, Nat.zero_le _⟩ (fun r241 locs hp hS => ?_)
        rcases hp with ⟨rfl, hp⟩ | ⟨rfl, hp⟩
        · skip
          try simp only [rg, not_and, Int.not_le] at hp
          have hp242 := hp
          refine lv_if_ne (tgt := 45) hx hb dX12_readPart_41 (by decide) (fun _ => ?_) (fun c => absurd c (by decide))
          have hlt9 : pp < TT := rC_lt (cd := cd) (by omega)
          refine lv_aload_n hx hb dX12_readPart_45 rfl (lv_at hl 1 rfl) ?_
          refine lv_dup hx hb dX12_readPart_46 rfl ?_
          refine gmI hx hb hts inT12 hown hK hI List.not_mem_nil hG0 16 (by decide) (hts _ (tb_c wd_1249)) rfl rfl dX12_readPart_47 (fun w243 hg244 k245 k246 => ?_)
          obtain rfl := gf.uniq (by decide) hg236 hg244
          refine lv_iconst (v := 1) hx hb dX12_readPart_50 (by decide) ?_
          refine lv_iadd hx hb dX12_readPart_51 ?_
          refine lv_topi (fun v247 e248 => ?_)
          have tv247 : v247.toInt = w235.toInt + (1) := iv_add rfl (by decide) e248 (by omega) (by omega)
          refine pmI (ty := .int) hx hb hts inT12 hown hK hI List.not_mem_nil hG0 hS ⟨_, hG0⟩ 16 (by decide) (hts _ (tb_c wd_1249)) rfl rfl (by decide +kernel) rfl rfl rfl (by omega) (by omega) dX12_readPart_52 (fun H locs hI hgP hS => ?_)
          have hg234 := hgP.2.2.1 15 _ (by decide) (by decide) hg234
          have hg237 := hgP.2.2.1 18 _ (by decide) (by decide) hg237
          have hg249 := hgP.2.1
          have hf226 := hgP.2.2.2 3 _ (by decide) (by decide) hf226
          have hf230 := hgP.2.2.2 12 _ (by decide) (by decide) hf230
          have hA228 := va_at.kept hA228 (hgP.1 _ (m_ne hq227 hG0 (by first | decide | (dsimp only; decide))))
          have hA232 := va_at.kept hA232 (hgP.1 _ (m_ne hq231 hG0 (by first | decide | (dsimp only; decide))))
          refine lv_aload_n hx hb dX12_readPart_55 rfl (lv_at hl 1 rfl) ?_
          refine lv_iload_n hx hb dX12_readPart_56 rfl (lv_at hl 2 rfl) ?_
          refine lv_iconst (v := 1) hx hb dX12_readPart_57 (by decide) ?_
          refine lv_iadd hx hb dX12_readPart_58 ?_
          refine lv_topi (fun v250 e251 => ?_)
          have tv250 : v250.toInt = x1.toInt + (1) := iv_add rfl (by decide) e251 (by omega) (by omega)
          refine mx_v (As := [.int v250]) (rest := []) (n := 1) (d := (5 + 3 * (k - 1))) ⟨hx, hb, hml, hown, hts⟩ (c_X12_readSum l E D G (k - 1) h0 hG0 v250 ff cd TT (pp + 1) bn223 (dd + 1) (by first | decide | omega) (by omega) (by omega) (ih (k - 1) (by omega))) wd_1595 wd_1597 wp_68 wd_13 wd_1598 (by decide +kernel) ⟨by rw [hR]; show (5 + 3 * (k - 1)) + 1 ≤ 3 + 3 * k; omega, by rw [hR]; show 8 + (2 + 11) + 40 * ((5 + 3 * (k - 1))) ≤ 40 * (3 + 3 * k); omega⟩ hI hN hK hS hG0 (⟨hkf, hT, hz0, by omega, ⟨a225, hf226, hq227, hA228⟩, ⟨a229, hf230, hq231, hA232⟩, ⟨w233, hg234, by omega⟩, ⟨v247, hg249, by omega⟩, hg237⟩) rfl hl.1 rfl (Nat.le_of_ble_eq_true rfl) dX12_readPart_59 ⟨Nat.zero_le _, Nat.zero_le _⟩ (fun H locs hI hp hS => ?_)
          obtain ⟨pn253, bn254, hE, k256, hi255⟩ := hp
          obtain ⟨hkf, hT, hz0, k270, ⟨a257, hf258, hq259, hA260⟩, ⟨a261, hf262, hq263, hA264⟩, ⟨w265, hg266, k271⟩, ⟨w267, hg268, k272⟩, hg269⟩ := hE
          refine lv_aload_n hx hb dX12_readPart_62 rfl (lv_at hl 1 rfl) ?_
          refine lv_bipush (v := 93) hx hb dX12_readPart_63 (by decide) ?_
          refine th_cSs (As := [.int 93]) (rest := [.ref h0]) (n := 1) (d := 0) ⟨hx, hb, hml, hown, hts⟩ (c_X12_sign l H 93) wd_1495 wd_1496 wd_13 wd_1497 (by decide +kernel) ⟨by rw [hR]; show 0 + 1 ≤ 3 + 3 * k; omega, by rw [hR]; show 8 + (1 + 11) + 40 * (0) ≤ 40 * (3 + 3 * k); omega⟩ hN hS rfl hl.1 rfl (Nat.le_of_ble_eq_true rfl) dX12_readPart_65 ⟨Nat.zero_le _, Nat.zero_le _⟩ (fun r273 locs hp hS => ?_)
          obtain rfl : r273 = 193 := hp.trans (by decide)
          refine mx_v (As := [.int 193]) (rest := []) (n := 1) (d := 2) ⟨hx, hb, hml, hown, hts⟩ (c_X12_must l E D G h0 hG0 193 ff cd TT pn253 bn254 (by first | decide | omega)) wd_1611 wd_1613 wp_72 wd_13 wd_1614 (by decide +kernel) ⟨by rw [hR]; show 2 + 1 ≤ 3 + 3 * k; omega, by rw [hR]; show 8 + (2 + 11) + 40 * (2) ≤ 40 * (3 + 3 * k); omega⟩ hI hN hK hS hG0 (⟨hkf, hT, hz0, by omega, ⟨a257, hf258, hq259, hA260⟩, ⟨a261, hf262, hq263, hA264⟩, ⟨w265, hg266, by omega⟩, ⟨w267, hg268, by omega⟩, hg269⟩) rfl hl.1 rfl (Nat.le_of_ble_eq_true rfl) dX12_readPart_68 ⟨Nat.zero_le _, Nat.zero_le _⟩ (fun H locs hI hp hS => ?_)
          obtain ⟨pn275, bn276, hE, k278, hi277⟩ := hp
          obtain ⟨hkf, hT, hz0, k292, ⟨a279, hf280, hq281, hA282⟩, ⟨a283, hf284, hq285, hA286⟩, ⟨w287, hg288, k293⟩, ⟨w289, hg290, k294⟩, hg291⟩ := hE
          rw [show (193 : Int32).toInt = 193 from by decide] at hi277
          refine lv_goto (tgt := 118) hx hb dX12_readPart_71 (by decide) ?_
          have hpost : ∃ (p2 : Nat) (b2 : Int32), RD E D G h0 ff cd TT p2 b2 H ∧ pp ≤ p2 ∧ (b2.toInt = -1 → bb.toInt = -1 ∧ Gr (rC cd TT) 0 dd pp p2) := ⟨pn275, bn276, ⟨hkf, hT, hz0, by omega, ⟨a279, hf280, hq281, hA282⟩, ⟨a283, hf284, hq285, hA286⟩, ⟨w287, hg288, by omega⟩, ⟨w289, hg290, by omega⟩, hg291⟩, by omega, fun h => ⟨by omega, r0_br (by omega) (by omega) (hi255 (hi277 h).1).2 (hi277 h).2.1 (hi277 h).2.2⟩⟩
          rw [hQ]
          exact W.vret hx hb hr (fun t ht hW => ⟨⟨(), rfl, trivial, ⟨by rw [ht]; exact hI, hN.warm hW, va_K.moved hW.alike hK⟩, by first | (rw [ht]; exact hpost) | exact hpost⟩, hS.F ht⟩) hS.2.2 dX12_readPart_118
        · skip
          try simp only [rg, not_and, Int.not_le] at hp
          have hp295 := hp
          refine lv_if_ne (tgt := 45) hx hb dX12_readPart_41 (by decide) (fun c => absurd c (by decide)) (fun _ => ?_)
          have hpost : ∃ (p2 : Nat) (b2 : Int32), RD E D G h0 ff cd TT p2 b2 H ∧ pp ≤ p2 ∧ (b2.toInt = -1 → bb.toInt = -1 ∧ Gr (rC cd TT) 0 dd pp p2) := ⟨pp, bn223, ⟨hkf, hT, hz0, by omega, ⟨a225, hf226, hq227, hA228⟩, ⟨a229, hf230, hq231, hA232⟩, ⟨w233, hg234, by omega⟩, ⟨w235, hg236, by omega⟩, hg237⟩, by omega, fun h => absurd h (by omega)⟩
          rw [hQ]
          exact W.vret hx hb hr (fun t ht hW => ⟨⟨(), rfl, trivial, ⟨by rw [ht]; exact hI, hN.warm hW, va_K.moved hW.alike hK⟩, by first | (rw [ht]; exact hpost) | exact hpost⟩, hS.F ht⟩) hS.2.2 dX12_readPart_44
  · skip
    try simp only [rg, not_and, Int.not_le] at hp
    have hp296 := hp
    refine lv_if_ne (tgt := 8) hx hb dX12_readPart_4 (by decide) (fun c => absurd c (by decide)) (fun _ => ?_)
    have hpost : ∃ (p2 : Nat) (b2 : Int32), RD E D G h0 ff cd TT p2 b2 s.heap ∧ pp ≤ p2 ∧ (b2.toInt = -1 → bb.toInt = -1 ∧ Gr (rC cd TT) 0 dd pp p2) := ⟨pp, bb, ⟨hkf, hT, hz0, by omega, ⟨a1, hf2, hq3, hA4⟩, ⟨a5, hf6, hq7, hA8⟩, ⟨w9, hg10, by omega⟩, ⟨w11, hg12, by omega⟩, hg13⟩, by omega, fun h => absurd h (by omega)⟩
    rw [hQ]
    exact W.vret hx hb hr (fun t ht hW => ⟨⟨(), rfl, trivial, ⟨by rw [ht]; exact hI, hN.warm hW, va_K.moved hW.alike hK⟩, by first | (rw [ht]; exact hpost) | exact hpost⟩, hS.F ht⟩) hS.2.2 dX12_readPart_7
theorem dX12_readBoth_0g : (decode cX12_readBoth 0 = .ok (.aload_n 0, 1)) ∧ (decode cX12_readBoth 1 = .ok (.iload_n 1, 1)) ∧ (decode cX12_readBoth 2 = .ok (.invokevirtual 191, 3)) ∧ (decode cX12_readBoth 5 = .ok (.aload_n 0, 1)) ∧ (decode cX12_readBoth 6 = .ok (.bipush 7, 2)) ∧ (decode cX12_readBoth 8 = .ok (.invokevirtual 169, 3)) ∧ (decode cX12_readBoth 11 = .ok (.ifCond .eq 11, 3)) ∧ (decode cX12_readBoth 14 = .ok (.aload_n 0, 1)) ∧ (decode cX12_readBoth 15 = .ok (.iload_n 1, 1)) ∧ (decode cX12_readBoth 16 = .ok (.invokevirtual 191, 3)) := by decide +kernel
theorem dX12_readBoth_0 : decode cX12_readBoth 0 = .ok (.aload_n 0, 1) := dX12_readBoth_0g.1
theorem dX12_readBoth_1 : decode cX12_readBoth 1 = .ok (.iload_n 1, 1) := dX12_readBoth_0g.2.1
theorem dX12_readBoth_2 : decode cX12_readBoth 2 = .ok (.invokevirtual 191, 3) := dX12_readBoth_0g.2.2.1
theorem dX12_readBoth_5 : decode cX12_readBoth 5 = .ok (.aload_n 0, 1) := dX12_readBoth_0g.2.2.2.1
theorem dX12_readBoth_6 : decode cX12_readBoth 6 = .ok (.bipush 7, 2) := dX12_readBoth_0g.2.2.2.2.1
theorem dX12_readBoth_8 : decode cX12_readBoth 8 = .ok (.invokevirtual 169, 3) := dX12_readBoth_0g.2.2.2.2.2.1
theorem dX12_readBoth_11 : decode cX12_readBoth 11 = .ok (.ifCond .eq 11, 3) := dX12_readBoth_0g.2.2.2.2.2.2.1
theorem dX12_readBoth_14 : decode cX12_readBoth 14 = .ok (.aload_n 0, 1) := dX12_readBoth_0g.2.2.2.2.2.2.2.1
theorem dX12_readBoth_15 : decode cX12_readBoth 15 = .ok (.iload_n 1, 1) := dX12_readBoth_0g.2.2.2.2.2.2.2.2.1
theorem dX12_readBoth_16 : decode cX12_readBoth 16 = .ok (.invokevirtual 191, 3) := dX12_readBoth_0g.2.2.2.2.2.2.2.2.2
theorem dX12_readBoth_19g : (decode cX12_readBoth 19 = .ok (.goto (-14), 3)) ∧ (decode cX12_readBoth 22 = .ok (.return_, 1)) := by decide +kernel
theorem dX12_readBoth_19 : decode cX12_readBoth 19 = .ok (.goto (-14), 3) := dX12_readBoth_19g.1
theorem dX12_readBoth_22 : decode cX12_readBoth 22 = .ok (.return_, 1) := dX12_readBoth_19g.2
set_option maxHeartbeats 4000000 in
set_option maxRecDepth 100000 in
theorem c_X12_readBoth (l : Launch) (E : Nat → Nat) (D : va_G) (G : th_G) (k : Nat) (h0 : Nat) (hG0 : G h0 = some (10, 0)) (x1 : Int32) (ff cd : Nat → Int32) (TT pp : Nat) (bb : Int32) (dd : Nat) (hdd : x1.toInt = (dd : Int)) (hd8 : dd ≤ 8) (hk : 8 ≤ dd + k) (hpl : ∀ (h0 : Nat) (hG0 : G h0 = some (10, 0)) (x1 : Int32) (ff cd : Nat → Int32) (TT pp : Nat) (bb : Int32) (dd : Nat) (hdd : x1.toInt = (dd : Int)) (hd8 : dd ≤ 8) (hk : 8 ≤ dd + k), Met l yX12_readPlain (tb (.code yX12_readPlain cX12_readPlain 4 none)) (rm (30 + 3 * k)) (va_Pc [.ref h0, .int x1] (PX E D G (fun H => RD E D G h0 ff cd TT pp bb H))) (QXv E D G (fun H => ∃ (p2 : Nat) (b2 : Int32), RD E D G h0 ff cd TT p2 b2 H ∧ pp ≤ p2 ∧ (b2.toInt = -1 → bb.toInt = -1 ∧ Gr (rC cd TT) 3 dd pp p2))) 0 0 (th_A G)) : Met l yX12_readBoth (tb (.code yX12_readBoth cX12_readBoth 2 none)) (rm (31 + 3 * k)) (va_Pc [.ref h0, .int x1] (PX E D G (fun H => RD E D G h0 ff cd TT pp bb H))) (QXv E D G (fun H => ∃ (p2 : Nat) (b2 : Int32), RD E D G h0 ff cd TT p2 b2 H ∧ pp ≤ p2 ∧ (b2.toInt = -1 → bb.toInt = -1 ∧ Gr (rC cd TT) 4 dd pp p2))) 0 0 (th_A G) := by
  refine Met.ofW (cc := cX12_readBoth) (maxL := 2) (ret := none) (by decide) rfl ?_
  intro p e s m args below meth c s₁ B hml hv
  obtain ⟨hav, ⟨hI, hN, hK⟩, hX⟩ := hv
  have hx := B.exec
  have hb := B.bytes
  have hr := B.returns
  have hts := atoms_spec (ws := tb (.code yX12_readBoth cX12_readBoth 2 none)) B.pre
  have hown : s.vm.findClass RX12 = some m.cls := findClass_of_methodNamed B.named
  have hlocks := B.notSynchronized
  have hS : va_S (th_A G) s.heap s.heap [] := va_S.rf
  have hl := lv_entry ([.ref h0, .int x1]) (n := 2) (Nat.le_of_ble_eq_true rfl)
  rw [show entryFrame m args 2 = entryFrame m ([.ref h0, .int x1] : List Value).toArray 2 from by rw [hav], lg_entry_eq]
  generalize (lg_sl ([.ref h0, .int x1]) ++ List.replicate (2 - (lg_sl ([.ref h0, .int x1])).length) Slot.unset).toArray = ls at hl ⊢
  have hl : lv_has ls 2 [(0, .ref h0), (1, .int x1)] := hl
  generalize hR : (headSpec (tb (.code yX12_readBoth cX12_readBoth 2 none)) (rm (31 + 3 * k))).room = R
  have hR := hR.symm
  generalize hQ : MQ below (QXv E D G (fun H => ∃ (p2 : Nat) (b2 : Int32), RD E D G h0 ff cd TT p2 b2 H ∧ pp ≤ p2 ∧ (b2.toInt = -1 → bb.toInt = -1 ∧ Gr (rC cd TT) 4 dd pp p2))) args s 0 0 (th_A G) = QF
  have hQ := hQ.symm
  obtain ⟨hkf, hT, hz0, k14, ⟨a1, hf2, hq3, hA4⟩, ⟨a5, hf6, hq7, hA8⟩, ⟨w9, hg10, k15⟩, ⟨w11, hg12, k16⟩, hg13⟩ := hX
  have J_5 : ∀ (nn : Nat) (H : Heap) (locs : List Loc) (ls : Array Slot)  (p1 : Nat) (b1 : Int32), (Int.toNat (((TT : Nat) : Int) - ((p1 : Nat) : Int)) = nn) → lv_has ls 2 [(0, .ref h0), (1, .int x1)] → ((0 : Int) ≤ x1.toInt ∧ x1.toInt ≤ 8) → (pp ≤ p1) → (b1.toInt = -1 → bb.toInt = -1 ∧ ∀ r, Gr (rC cd TT) 9 dd p1 r → Gr (rC cd TT) 4 dd pp r) → (RD E D G h0 ff cd TT p1 b1 H) → th_I (okM E) D G [] H → va_S (th_A G) s.heap H locs → W p l e R s m args below meth c H locs 0 0 QF (F0 m 5 ls []) := by
    intro nn
    induction nn using Nat.strongRecOn with
    | ind nn ih_5 =>
      intro H locs ls  p1 b1 hm hl k717 hle1 hInv hE hI hS
      obtain ⟨hkf, hT, hz0, k731, ⟨a718, hf719, hq720, hA721⟩, ⟨a722, hf723, hq724, hA725⟩, ⟨w726, hg727, k732⟩, ⟨w728, hg729, k733⟩, hg730⟩ := hE
      refine lv_aload_n hx hb dX12_readBoth_5 rfl (lv_at hl 0 rfl) ?_
      refine lv_bipush (v := 7) hx hb dX12_readBoth_6 (by decide) ?_
      refine mx_i (As := [.int 7]) (rest := []) (n := 1) (d := 1) ⟨hx, hb, hml, hown, hts⟩ (c_X12_takes0 l E D G h0 hG0 7 ff cd TT p1 b1 (by first | decide | omega)) wd_1587 wd_1589 wp_66 wd_13 wd_1590 (by decide +kernel) ⟨by rw [hR]; show 1 + 1 ≤ 31 + 3 * k; omega, by rw [hR]; show 8 + (3 + 11) + 40 * (1) ≤ 40 * (31 + 3 * k); omega⟩ hI hN hK hS hG0 (⟨hkf, hT, hz0, by omega, ⟨a718, hf719, hq720, hA721⟩, ⟨a722, hf723, hq724, hA725⟩, ⟨w726, hg727, by omega⟩, ⟨w728, hg729, by omega⟩, hg730⟩) rfl hl.1 rfl (Nat.le_of_ble_eq_true rfl) dX12_readBoth_8 ⟨Nat.zero_le _, Nat.zero_le _⟩ (fun r734 H locs hI hp hS => ?_)
      rcases hp with ⟨rfl, hp⟩ | ⟨rfl, hp⟩
      · skip
        try simp only [rg, not_and, Int.not_le] at hp
        have hp735 := hp
        obtain ⟨hb736, hc737, k738, hE⟩ := hp735
        have hp735 : True := trivial
        rw [show (7 : Int32).toInt = 7 from by decide] at hc737
        obtain ⟨hkf, hT, hz0, k752, ⟨a739, hf740, hq741, hA742⟩, ⟨a743, hf744, hq745, hA746⟩, ⟨w747, hg748, k753⟩, ⟨w749, hg750, k754⟩, hg751⟩ := hE
        try rw [show (7 : Int32).toInt = 7 from by decide] at hp735
        refine lv_if_eq (tgt := 22) hx hb dX12_readBoth_11 (by decide) (fun c => absurd c (by decide)) (fun _ => ?_)
        refine lv_aload_n hx hb dX12_readBoth_14 rfl (lv_at hl 0 rfl) ?_
        refine lv_iload_n hx hb dX12_readBoth_15 rfl (lv_at hl 1 rfl) ?_
        refine mx_v (As := [.int x1]) (rest := []) (n := 1) (d := (30 + 3 * k)) ⟨hx, hb, hml, hown, hts⟩ (hpl h0 hG0 x1 ff cd TT (p1 + 1) b1 dd (by first | decide | omega) (by omega) (by omega)) wd_1627 wd_1629 wp_76 wd_13 wd_1630 (by decide +kernel) ⟨by rw [hR]; show (30 + 3 * k) + 1 ≤ 31 + 3 * k; omega, by rw [hR]; show 8 + (4 + 11) + 40 * ((30 + 3 * k)) ≤ 40 * (31 + 3 * k); omega⟩ hI hN hK hS hG0 (⟨hkf, hT, hz0, by omega, ⟨a739, hf740, hq741, hA742⟩, ⟨a743, hf744, hq745, hA746⟩, ⟨w747, hg748, by omega⟩, ⟨w749, hg750, by omega⟩, hg751⟩) rfl hl.1 rfl (Nat.le_of_ble_eq_true rfl) dX12_readBoth_16 ⟨Nat.zero_le _, Nat.zero_le _⟩ (fun H locs hI hp hS => ?_)
        obtain ⟨pn756, bn757, hE, k759, hi758⟩ := hp
        obtain ⟨hkf, hT, hz0, k773, ⟨a760, hf761, hq762, hA763⟩, ⟨a764, hf765, hq766, hA767⟩, ⟨w768, hg769, k774⟩, ⟨w770, hg771, k775⟩, hg772⟩ := hE
        have hInv2 : bn757.toInt = -1 → bb.toInt = -1 ∧ ∀ r, Gr (rC cd TT) 9 dd pn756 r → Gr (rC cd TT) 4 dd pp r := fun h => ⟨(hInv hb736).1, r9_m (hInv hb736).2 (by omega) (hi758 h).2⟩
        refine lv_goto (tgt := 5) hx hb dX12_readBoth_19 (by decide) ?_
        exact ih_5 _ (by omega) H locs ls  pn756 bn757 rfl (lv_sub hl [0, 1] rfl) ⟨by omega, by omega⟩ (by omega) (hInv2) (⟨hkf, hT, hz0, by omega, ⟨a760, hf761, hq762, hA763⟩, ⟨a764, hf765, hq766, hA767⟩, ⟨w768, hg769, by omega⟩, ⟨w770, hg771, by omega⟩, hg772⟩) hI hS
      · skip
        try simp only [rg, not_and, Int.not_le] at hp
        have hp776 := hp
        obtain ⟨hc777, hE⟩ := hp776
        have hp776 : True := trivial
        rw [show (7 : Int32).toInt = 7 from by decide] at hc777
        obtain ⟨hkf, hT, hz0, k791, ⟨a778, hf779, hq780, hA781⟩, ⟨a782, hf783, hq784, hA785⟩, ⟨w786, hg787, k792⟩, ⟨w788, hg789, k793⟩, hg790⟩ := hE
        try rw [show (7 : Int32).toInt = 7 from by decide] at hp776
        refine lv_if_eq (tgt := 22) hx hb dX12_readBoth_11 (by decide) (fun _ => ?_) (fun c => absurd c (by decide))
        have hpost : ∃ (p2 : Nat) (b2 : Int32), RD E D G h0 ff cd TT p2 b2 H ∧ pp ≤ p2 ∧ (b2.toInt = -1 → bb.toInt = -1 ∧ Gr (rC cd TT) 4 dd pp p2) := ⟨p1, b1, ⟨hkf, hT, hz0, by omega, ⟨a778, hf779, hq780, hA781⟩, ⟨a782, hf783, hq784, hA785⟩, ⟨w786, hg787, by omega⟩, ⟨w788, hg789, by omega⟩, hg790⟩, by omega, fun h => ⟨(hInv h).1, r9_x (hInv h).2 (by omega)⟩⟩
        rw [hQ]
        exact W.vret hx hb hr (fun t ht hW => ⟨⟨(), rfl, trivial, ⟨by rw [ht]; exact hI, hN.warm hW, va_K.moved hW.alike hK⟩, by first | (rw [ht]; exact hpost) | exact hpost⟩, hS.F ht⟩) hS.2.2 dX12_readBoth_22
  refine lv_aload_n hx hb dX12_readBoth_0 rfl (lv_at hl 0 rfl) ?_
  refine lv_iload_n hx hb dX12_readBoth_1 rfl (lv_at hl 1 rfl) ?_
  refine mx_v (As := [.int x1]) (rest := []) (n := 1) (d := (30 + 3 * k)) ⟨hx, hb, hml, hown, hts⟩ (hpl h0 hG0 x1 ff cd TT pp bb dd (by first | decide | omega) (by omega) (by omega)) wd_1627 wd_1629 wp_76 wd_13 wd_1630 (by decide +kernel) ⟨by rw [hR]; show (30 + 3 * k) + 1 ≤ 31 + 3 * k; omega, by rw [hR]; show 8 + (4 + 11) + 40 * ((30 + 3 * k)) ≤ 40 * (31 + 3 * k); omega⟩ hI hN hK hS hG0 (⟨hkf, hT, hz0, by omega, ⟨a1, hf2, hq3, hA4⟩, ⟨a5, hf6, hq7, hA8⟩, ⟨w9, hg10, by omega⟩, ⟨w11, hg12, by omega⟩, hg13⟩) rfl hl.1 rfl (Nat.le_of_ble_eq_true rfl) dX12_readBoth_2 ⟨Nat.zero_le _, Nat.zero_le _⟩ (fun H locs hI hp hS => ?_)
  obtain ⟨pn795, bn796, hE, k798, hi797⟩ := hp
  obtain ⟨hkf, hT, hz0, k812, ⟨a799, hf800, hq801, hA802⟩, ⟨a803, hf804, hq805, hA806⟩, ⟨w807, hg808, k813⟩, ⟨w809, hg810, k814⟩, hg811⟩ := hE
  have hInv0 : bn796.toInt = -1 → bb.toInt = -1 ∧ ∀ r, Gr (rC cd TT) 9 dd pn795 r → Gr (rC cd TT) 4 dd pp r := fun h => ⟨(hi797 h).1, r9_i (hi797 h).2⟩
  exact J_5 _ H locs ls  pn795 bn796 rfl (lv_sub hl [0, 1] rfl) ⟨by omega, by omega⟩ (by omega) (hInv0) (⟨hkf, hT, hz0, by omega, ⟨a799, hf800, hq801, hA802⟩, ⟨a803, hf804, hq805, hA806⟩, ⟨w807, hg808, by omega⟩, ⟨w809, hg810, by omega⟩, hg811⟩) hI hS
theorem dX12_readTest_0g : (decode cX12_readTest 0 = .ok (.aload_n 0, 1)) ∧ (decode cX12_readTest 1 = .ok (.iload_n 1, 1)) ∧ (decode cX12_readTest 2 = .ok (.invokevirtual 188, 3)) ∧ (decode cX12_readTest 5 = .ok (.aload_n 0, 1)) ∧ (decode cX12_readTest 6 = .ok (.bipush 6, 2)) ∧ (decode cX12_readTest 8 = .ok (.invokevirtual 169, 3)) ∧ (decode cX12_readTest 11 = .ok (.ifCond .eq 11, 3)) ∧ (decode cX12_readTest 14 = .ok (.aload_n 0, 1)) ∧ (decode cX12_readTest 15 = .ok (.iload_n 1, 1)) ∧ (decode cX12_readTest 16 = .ok (.invokevirtual 188, 3)) := by decide +kernel
theorem dX12_readTest_0 : decode cX12_readTest 0 = .ok (.aload_n 0, 1) := dX12_readTest_0g.1
theorem dX12_readTest_1 : decode cX12_readTest 1 = .ok (.iload_n 1, 1) := dX12_readTest_0g.2.1
theorem dX12_readTest_2 : decode cX12_readTest 2 = .ok (.invokevirtual 188, 3) := dX12_readTest_0g.2.2.1
theorem dX12_readTest_5 : decode cX12_readTest 5 = .ok (.aload_n 0, 1) := dX12_readTest_0g.2.2.2.1
theorem dX12_readTest_6 : decode cX12_readTest 6 = .ok (.bipush 6, 2) := dX12_readTest_0g.2.2.2.2.1
theorem dX12_readTest_8 : decode cX12_readTest 8 = .ok (.invokevirtual 169, 3) := dX12_readTest_0g.2.2.2.2.2.1
theorem dX12_readTest_11 : decode cX12_readTest 11 = .ok (.ifCond .eq 11, 3) := dX12_readTest_0g.2.2.2.2.2.2.1
theorem dX12_readTest_14 : decode cX12_readTest 14 = .ok (.aload_n 0, 1) := dX12_readTest_0g.2.2.2.2.2.2.2.1
theorem dX12_readTest_15 : decode cX12_readTest 15 = .ok (.iload_n 1, 1) := dX12_readTest_0g.2.2.2.2.2.2.2.2.1
theorem dX12_readTest_16 : decode cX12_readTest 16 = .ok (.invokevirtual 188, 3) := dX12_readTest_0g.2.2.2.2.2.2.2.2.2
theorem dX12_readTest_19g : (decode cX12_readTest 19 = .ok (.goto (-14), 3)) ∧ (decode cX12_readTest 22 = .ok (.return_, 1)) := by decide +kernel
theorem dX12_readTest_19 : decode cX12_readTest 19 = .ok (.goto (-14), 3) := dX12_readTest_19g.1
theorem dX12_readTest_22 : decode cX12_readTest 22 = .ok (.return_, 1) := dX12_readTest_19g.2
set_option maxHeartbeats 4000000 in
set_option maxRecDepth 100000 in
theorem c_X12_readTest (l : Launch) (E : Nat → Nat) (D : va_G) (G : th_G) (k : Nat) (h0 : Nat) (hG0 : G h0 = some (10, 0)) (x1 : Int32) (ff cd : Nat → Int32) (TT pp : Nat) (bb : Int32) (dd : Nat) (hdd : x1.toInt = (dd : Int)) (hd8 : dd ≤ 8) (hk : 8 ≤ dd + k) (hpl : ∀ (h0 : Nat) (hG0 : G h0 = some (10, 0)) (x1 : Int32) (ff cd : Nat → Int32) (TT pp : Nat) (bb : Int32) (dd : Nat) (hdd : x1.toInt = (dd : Int)) (hd8 : dd ≤ 8) (hk : 8 ≤ dd + k), Met l yX12_readPlain (tb (.code yX12_readPlain cX12_readPlain 4 none)) (rm (30 + 3 * k)) (va_Pc [.ref h0, .int x1] (PX E D G (fun H => RD E D G h0 ff cd TT pp bb H))) (QXv E D G (fun H => ∃ (p2 : Nat) (b2 : Int32), RD E D G h0 ff cd TT p2 b2 H ∧ pp ≤ p2 ∧ (b2.toInt = -1 → bb.toInt = -1 ∧ Gr (rC cd TT) 3 dd pp p2))) 0 0 (th_A G)) : Met l yX12_readTest (tb (.code yX12_readTest cX12_readTest 2 none)) (rm (32 + 3 * k)) (va_Pc [.ref h0, .int x1] (PX E D G (fun H => RD E D G h0 ff cd TT pp bb H))) (QXv E D G (fun H => ∃ (p2 : Nat) (b2 : Int32), RD E D G h0 ff cd TT p2 b2 H ∧ pp ≤ p2 ∧ (b2.toInt = -1 → bb.toInt = -1 ∧ Gr (rC cd TT) 5 dd pp p2))) 0 0 (th_A G) := by
  refine Met.ofW (cc := cX12_readTest) (maxL := 2) (ret := none) (by decide) rfl ?_
  intro p e s m args below meth c s₁ B hml hv
  obtain ⟨hav, ⟨hI, hN, hK⟩, hX⟩ := hv
  have hx := B.exec
  have hb := B.bytes
  have hr := B.returns
  have hts := atoms_spec (ws := tb (.code yX12_readTest cX12_readTest 2 none)) B.pre
  have hown : s.vm.findClass RX12 = some m.cls := findClass_of_methodNamed B.named
  have hlocks := B.notSynchronized
  have hS : va_S (th_A G) s.heap s.heap [] := va_S.rf
  have hl := lv_entry ([.ref h0, .int x1]) (n := 2) (Nat.le_of_ble_eq_true rfl)
  rw [show entryFrame m args 2 = entryFrame m ([.ref h0, .int x1] : List Value).toArray 2 from by rw [hav], lg_entry_eq]
  generalize (lg_sl ([.ref h0, .int x1]) ++ List.replicate (2 - (lg_sl ([.ref h0, .int x1])).length) Slot.unset).toArray = ls at hl ⊢
  have hl : lv_has ls 2 [(0, .ref h0), (1, .int x1)] := hl
  generalize hR : (headSpec (tb (.code yX12_readTest cX12_readTest 2 none)) (rm (32 + 3 * k))).room = R
  have hR := hR.symm
  generalize hQ : MQ below (QXv E D G (fun H => ∃ (p2 : Nat) (b2 : Int32), RD E D G h0 ff cd TT p2 b2 H ∧ pp ≤ p2 ∧ (b2.toInt = -1 → bb.toInt = -1 ∧ Gr (rC cd TT) 5 dd pp p2))) args s 0 0 (th_A G) = QF
  have hQ := hQ.symm
  obtain ⟨hkf, hT, hz0, k14, ⟨a1, hf2, hq3, hA4⟩, ⟨a5, hf6, hq7, hA8⟩, ⟨w9, hg10, k15⟩, ⟨w11, hg12, k16⟩, hg13⟩ := hX
  have J_5 : ∀ (nn : Nat) (H : Heap) (locs : List Loc) (ls : Array Slot)  (p1 : Nat) (b1 : Int32), (Int.toNat (((TT : Nat) : Int) - ((p1 : Nat) : Int)) = nn) → lv_has ls 2 [(0, .ref h0), (1, .int x1)] → ((0 : Int) ≤ x1.toInt ∧ x1.toInt ≤ 8) → (pp ≤ p1) → (b1.toInt = -1 → bb.toInt = -1 ∧ ∀ r, Gr (rC cd TT) 10 dd p1 r → Gr (rC cd TT) 5 dd pp r) → (RD E D G h0 ff cd TT p1 b1 H) → th_I (okM E) D G [] H → va_S (th_A G) s.heap H locs → W p l e R s m args below meth c H locs 0 0 QF (F0 m 5 ls []) := by
    intro nn
    induction nn using Nat.strongRecOn with
    | ind nn ih_5 =>
      intro H locs ls  p1 b1 hm hl k717 hle1 hInv hE hI hS
      obtain ⟨hkf, hT, hz0, k731, ⟨a718, hf719, hq720, hA721⟩, ⟨a722, hf723, hq724, hA725⟩, ⟨w726, hg727, k732⟩, ⟨w728, hg729, k733⟩, hg730⟩ := hE
      refine lv_aload_n hx hb dX12_readTest_5 rfl (lv_at hl 0 rfl) ?_
      refine lv_bipush (v := 6) hx hb dX12_readTest_6 (by decide) ?_
      refine mx_i (As := [.int 6]) (rest := []) (n := 1) (d := 1) ⟨hx, hb, hml, hown, hts⟩ (c_X12_takes0 l E D G h0 hG0 6 ff cd TT p1 b1 (by first | decide | omega)) wd_1587 wd_1589 wp_66 wd_13 wd_1590 (by decide +kernel) ⟨by rw [hR]; show 1 + 1 ≤ 32 + 3 * k; omega, by rw [hR]; show 8 + (3 + 11) + 40 * (1) ≤ 40 * (32 + 3 * k); omega⟩ hI hN hK hS hG0 (⟨hkf, hT, hz0, by omega, ⟨a718, hf719, hq720, hA721⟩, ⟨a722, hf723, hq724, hA725⟩, ⟨w726, hg727, by omega⟩, ⟨w728, hg729, by omega⟩, hg730⟩) rfl hl.1 rfl (Nat.le_of_ble_eq_true rfl) dX12_readTest_8 ⟨Nat.zero_le _, Nat.zero_le _⟩ (fun r734 H locs hI hp hS => ?_)
      rcases hp with ⟨rfl, hp⟩ | ⟨rfl, hp⟩
      · skip
        try simp only [rg, not_and, Int.not_le] at hp
        have hp735 := hp
        obtain ⟨hb736, hc737, k738, hE⟩ := hp735
        have hp735 : True := trivial
        rw [show (6 : Int32).toInt = 6 from by decide] at hc737
        obtain ⟨hkf, hT, hz0, k752, ⟨a739, hf740, hq741, hA742⟩, ⟨a743, hf744, hq745, hA746⟩, ⟨w747, hg748, k753⟩, ⟨w749, hg750, k754⟩, hg751⟩ := hE
        try rw [show (6 : Int32).toInt = 6 from by decide] at hp735
        refine lv_if_eq (tgt := 22) hx hb dX12_readTest_11 (by decide) (fun c => absurd c (by decide)) (fun _ => ?_)
        refine lv_aload_n hx hb dX12_readTest_14 rfl (lv_at hl 0 rfl) ?_
        refine lv_iload_n hx hb dX12_readTest_15 rfl (lv_at hl 1 rfl) ?_
        refine mx_v (As := [.int x1]) (rest := []) (n := 1) (d := (31 + 3 * k)) ⟨hx, hb, hml, hown, hts⟩ (c_X12_readBoth l E D G k h0 hG0 x1 ff cd TT (p1 + 1) b1 dd (by first | decide | omega) (by omega) (by omega) hpl) wd_1623 wd_1625 wp_75 wd_13 wd_1626 (by decide +kernel) ⟨by rw [hR]; show (31 + 3 * k) + 1 ≤ 32 + 3 * k; omega, by rw [hR]; show 8 + (2 + 11) + 40 * ((31 + 3 * k)) ≤ 40 * (32 + 3 * k); omega⟩ hI hN hK hS hG0 (⟨hkf, hT, hz0, by omega, ⟨a739, hf740, hq741, hA742⟩, ⟨a743, hf744, hq745, hA746⟩, ⟨w747, hg748, by omega⟩, ⟨w749, hg750, by omega⟩, hg751⟩) rfl hl.1 rfl (Nat.le_of_ble_eq_true rfl) dX12_readTest_16 ⟨Nat.zero_le _, Nat.zero_le _⟩ (fun H locs hI hp hS => ?_)
        obtain ⟨pn756, bn757, hE, k759, hi758⟩ := hp
        obtain ⟨hkf, hT, hz0, k773, ⟨a760, hf761, hq762, hA763⟩, ⟨a764, hf765, hq766, hA767⟩, ⟨w768, hg769, k774⟩, ⟨w770, hg771, k775⟩, hg772⟩ := hE
        have hInv2 : bn757.toInt = -1 → bb.toInt = -1 ∧ ∀ r, Gr (rC cd TT) 10 dd pn756 r → Gr (rC cd TT) 5 dd pp r := fun h => ⟨(hInv hb736).1, r10_m (hInv hb736).2 (by omega) (hi758 h).2⟩
        refine lv_goto (tgt := 5) hx hb dX12_readTest_19 (by decide) ?_
        exact ih_5 _ (by omega) H locs ls  pn756 bn757 rfl (lv_sub hl [0, 1] rfl) ⟨by omega, by omega⟩ (by omega) (hInv2) (⟨hkf, hT, hz0, by omega, ⟨a760, hf761, hq762, hA763⟩, ⟨a764, hf765, hq766, hA767⟩, ⟨w768, hg769, by omega⟩, ⟨w770, hg771, by omega⟩, hg772⟩) hI hS
      · skip
        try simp only [rg, not_and, Int.not_le] at hp
        have hp776 := hp
        obtain ⟨hc777, hE⟩ := hp776
        have hp776 : True := trivial
        rw [show (6 : Int32).toInt = 6 from by decide] at hc777
        obtain ⟨hkf, hT, hz0, k791, ⟨a778, hf779, hq780, hA781⟩, ⟨a782, hf783, hq784, hA785⟩, ⟨w786, hg787, k792⟩, ⟨w788, hg789, k793⟩, hg790⟩ := hE
        try rw [show (6 : Int32).toInt = 6 from by decide] at hp776
        refine lv_if_eq (tgt := 22) hx hb dX12_readTest_11 (by decide) (fun _ => ?_) (fun c => absurd c (by decide))
        have hpost : ∃ (p2 : Nat) (b2 : Int32), RD E D G h0 ff cd TT p2 b2 H ∧ pp ≤ p2 ∧ (b2.toInt = -1 → bb.toInt = -1 ∧ Gr (rC cd TT) 5 dd pp p2) := ⟨p1, b1, ⟨hkf, hT, hz0, by omega, ⟨a778, hf779, hq780, hA781⟩, ⟨a782, hf783, hq784, hA785⟩, ⟨w786, hg787, by omega⟩, ⟨w788, hg789, by omega⟩, hg790⟩, by omega, fun h => ⟨(hInv h).1, r10_x (hInv h).2 (by omega)⟩⟩
        rw [hQ]
        exact W.vret hx hb hr (fun t ht hW => ⟨⟨(), rfl, trivial, ⟨by rw [ht]; exact hI, hN.warm hW, va_K.moved hW.alike hK⟩, by first | (rw [ht]; exact hpost) | exact hpost⟩, hS.F ht⟩) hS.2.2 dX12_readTest_22
  refine lv_aload_n hx hb dX12_readTest_0 rfl (lv_at hl 0 rfl) ?_
  refine lv_iload_n hx hb dX12_readTest_1 rfl (lv_at hl 1 rfl) ?_
  refine mx_v (As := [.int x1]) (rest := []) (n := 1) (d := (31 + 3 * k)) ⟨hx, hb, hml, hown, hts⟩ (c_X12_readBoth l E D G k h0 hG0 x1 ff cd TT pp bb dd (by first | decide | omega) (by omega) (by omega) hpl) wd_1623 wd_1625 wp_75 wd_13 wd_1626 (by decide +kernel) ⟨by rw [hR]; show (31 + 3 * k) + 1 ≤ 32 + 3 * k; omega, by rw [hR]; show 8 + (2 + 11) + 40 * ((31 + 3 * k)) ≤ 40 * (32 + 3 * k); omega⟩ hI hN hK hS hG0 (⟨hkf, hT, hz0, by omega, ⟨a1, hf2, hq3, hA4⟩, ⟨a5, hf6, hq7, hA8⟩, ⟨w9, hg10, by omega⟩, ⟨w11, hg12, by omega⟩, hg13⟩) rfl hl.1 rfl (Nat.le_of_ble_eq_true rfl) dX12_readTest_2 ⟨Nat.zero_le _, Nat.zero_le _⟩ (fun H locs hI hp hS => ?_)
  obtain ⟨pn795, bn796, hE, k798, hi797⟩ := hp
  obtain ⟨hkf, hT, hz0, k812, ⟨a799, hf800, hq801, hA802⟩, ⟨a803, hf804, hq805, hA806⟩, ⟨w807, hg808, k813⟩, ⟨w809, hg810, k814⟩, hg811⟩ := hE
  have hInv0 : bn796.toInt = -1 → bb.toInt = -1 ∧ ∀ r, Gr (rC cd TT) 10 dd pn795 r → Gr (rC cd TT) 5 dd pp r := fun h => ⟨(hi797 h).1, r10_i (hi797 h).2⟩
  exact J_5 _ H locs ls  pn795 bn796 rfl (lv_sub hl [0, 1] rfl) ⟨by omega, by omega⟩ (by omega) (hInv0) (⟨hkf, hT, hz0, by omega, ⟨a799, hf800, hq801, hA802⟩, ⟨a803, hf804, hq805, hA806⟩, ⟨w807, hg808, by omega⟩, ⟨w809, hg810, by omega⟩, hg811⟩) hI hS
theorem dX12_readPlain_0g : (decode cX12_readPlain 0 = .ok (.iconst 1, 1)) ∧ (decode cX12_readPlain 1 = .ok (.istore_n 2, 1)) ∧ (decode cX12_readPlain 2 = .ok (.iload_n 2, 1)) ∧ (decode cX12_readPlain 3 = .ok (.ifCond .eq 13, 3)) ∧ (decode cX12_readPlain 6 = .ok (.aload_n 0, 1)) ∧ (decode cX12_readPlain 7 = .ok (.bipush 8, 2)) ∧ (decode cX12_readPlain 9 = .ok (.invokevirtual 169, 3)) ∧ (decode cX12_readPlain 12 = .ok (.istore_n 2, 1)) ∧ (decode cX12_readPlain 13 = .ok (.goto (-11), 3)) ∧ (decode cX12_readPlain 16 = .ok (.aload_n 0, 1)) := by decide +kernel
theorem dX12_readPlain_0 : decode cX12_readPlain 0 = .ok (.iconst 1, 1) := dX12_readPlain_0g.1
theorem dX12_readPlain_1 : decode cX12_readPlain 1 = .ok (.istore_n 2, 1) := dX12_readPlain_0g.2.1
theorem dX12_readPlain_2 : decode cX12_readPlain 2 = .ok (.iload_n 2, 1) := dX12_readPlain_0g.2.2.1
theorem dX12_readPlain_3 : decode cX12_readPlain 3 = .ok (.ifCond .eq 13, 3) := dX12_readPlain_0g.2.2.2.1
theorem dX12_readPlain_6 : decode cX12_readPlain 6 = .ok (.aload_n 0, 1) := dX12_readPlain_0g.2.2.2.2.1
theorem dX12_readPlain_7 : decode cX12_readPlain 7 = .ok (.bipush 8, 2) := dX12_readPlain_0g.2.2.2.2.2.1
theorem dX12_readPlain_9 : decode cX12_readPlain 9 = .ok (.invokevirtual 169, 3) := dX12_readPlain_0g.2.2.2.2.2.2.1
theorem dX12_readPlain_12 : decode cX12_readPlain 12 = .ok (.istore_n 2, 1) := dX12_readPlain_0g.2.2.2.2.2.2.2.1
theorem dX12_readPlain_13 : decode cX12_readPlain 13 = .ok (.goto (-11), 3) := dX12_readPlain_0g.2.2.2.2.2.2.2.2.1
theorem dX12_readPlain_16 : decode cX12_readPlain 16 = .ok (.aload_n 0, 1) := dX12_readPlain_0g.2.2.2.2.2.2.2.2.2
theorem dX12_readPlain_17g : (decode cX12_readPlain 17 = .ok (.invokevirtual 162, 3)) ∧ (decode cX12_readPlain 20 = .ok (.ifCond .ne 4, 3)) ∧ (decode cX12_readPlain 23 = .ok (.return_, 1)) ∧ (decode cX12_readPlain 24 = .ok (.aload_n 0, 1)) ∧ (decode cX12_readPlain 25 = .ok (.getfield 43, 3)) ∧ (decode cX12_readPlain 28 = .ok (.aload_n 0, 1)) ∧ (decode cX12_readPlain 29 = .ok (.getfield 166, 3)) ∧ (decode cX12_readPlain 32 = .ok (.iaload, 1)) ∧ (decode cX12_readPlain 33 = .ok (.istore_n 3, 1)) ∧ (decode cX12_readPlain 34 = .ok (.iload_n 3, 1)) := by decide +kernel
theorem dX12_readPlain_17 : decode cX12_readPlain 17 = .ok (.invokevirtual 162, 3) := dX12_readPlain_17g.1
theorem dX12_readPlain_20 : decode cX12_readPlain 20 = .ok (.ifCond .ne 4, 3) := dX12_readPlain_17g.2.1
theorem dX12_readPlain_23 : decode cX12_readPlain 23 = .ok (.return_, 1) := dX12_readPlain_17g.2.2.1
theorem dX12_readPlain_24 : decode cX12_readPlain 24 = .ok (.aload_n 0, 1) := dX12_readPlain_17g.2.2.2.1
theorem dX12_readPlain_25 : decode cX12_readPlain 25 = .ok (.getfield 43, 3) := dX12_readPlain_17g.2.2.2.2.1
theorem dX12_readPlain_28 : decode cX12_readPlain 28 = .ok (.aload_n 0, 1) := dX12_readPlain_17g.2.2.2.2.2.1
theorem dX12_readPlain_29 : decode cX12_readPlain 29 = .ok (.getfield 166, 3) := dX12_readPlain_17g.2.2.2.2.2.2.1
theorem dX12_readPlain_32 : decode cX12_readPlain 32 = .ok (.iaload, 1) := dX12_readPlain_17g.2.2.2.2.2.2.2.1
theorem dX12_readPlain_33 : decode cX12_readPlain 33 = .ok (.istore_n 3, 1) := dX12_readPlain_17g.2.2.2.2.2.2.2.2.1
theorem dX12_readPlain_34 : decode cX12_readPlain 34 = .ok (.iload_n 3, 1) := dX12_readPlain_17g.2.2.2.2.2.2.2.2.2
theorem dX12_readPlain_35g : (decode cX12_readPlain 35 = .ok (.bipush 40, 2)) ∧ (decode cX12_readPlain 37 = .ok (.invokestatic 194, 3)) ∧ (decode cX12_readPlain 40 = .ok (.if_icmp .ne 50, 3)) ∧ (decode cX12_readPlain 43 = .ok (.iload_n 1, 1)) ∧ (decode cX12_readPlain 44 = .ok (.bipush 8, 2)) ∧ (decode cX12_readPlain 46 = .ok (.if_icmp .ne 7, 3)) ∧ (decode cX12_readPlain 49 = .ok (.aload_n 0, 1)) ∧ (decode cX12_readPlain 50 = .ok (.invokevirtual 172, 3)) ∧ (decode cX12_readPlain 53 = .ok (.aload_n 0, 1)) ∧ (decode cX12_readPlain 54 = .ok (.invokevirtual 162, 3)) := by decide +kernel
theorem dX12_readPlain_35 : decode cX12_readPlain 35 = .ok (.bipush 40, 2) := dX12_readPlain_35g.1
theorem dX12_readPlain_37 : decode cX12_readPlain 37 = .ok (.invokestatic 194, 3) := dX12_readPlain_35g.2.1
theorem dX12_readPlain_40 : decode cX12_readPlain 40 = .ok (.if_icmp .ne 50, 3) := dX12_readPlain_35g.2.2.1
theorem dX12_readPlain_43 : decode cX12_readPlain 43 = .ok (.iload_n 1, 1) := dX12_readPlain_35g.2.2.2.1
theorem dX12_readPlain_44 : decode cX12_readPlain 44 = .ok (.bipush 8, 2) := dX12_readPlain_35g.2.2.2.2.1
theorem dX12_readPlain_46 : decode cX12_readPlain 46 = .ok (.if_icmp .ne 7, 3) := dX12_readPlain_35g.2.2.2.2.2.1
theorem dX12_readPlain_49 : decode cX12_readPlain 49 = .ok (.aload_n 0, 1) := dX12_readPlain_35g.2.2.2.2.2.2.1
theorem dX12_readPlain_50 : decode cX12_readPlain 50 = .ok (.invokevirtual 172, 3) := dX12_readPlain_35g.2.2.2.2.2.2.2.1
theorem dX12_readPlain_53 : decode cX12_readPlain 53 = .ok (.aload_n 0, 1) := dX12_readPlain_35g.2.2.2.2.2.2.2.2.1
theorem dX12_readPlain_54 : decode cX12_readPlain 54 = .ok (.invokevirtual 162, 3) := dX12_readPlain_35g.2.2.2.2.2.2.2.2.2
theorem dX12_readPlain_57g : (decode cX12_readPlain 57 = .ok (.ifCond .ne 4, 3)) ∧ (decode cX12_readPlain 60 = .ok (.return_, 1)) ∧ (decode cX12_readPlain 61 = .ok (.aload_n 0, 1)) ∧ (decode cX12_readPlain 62 = .ok (.dup, 1)) ∧ (decode cX12_readPlain 63 = .ok (.getfield 166, 3)) ∧ (decode cX12_readPlain 66 = .ok (.iconst 1, 1)) ∧ (decode cX12_readPlain 67 = .ok (.iadd, 1)) ∧ (decode cX12_readPlain 68 = .ok (.putfield 166, 3)) ∧ (decode cX12_readPlain 71 = .ok (.aload_n 0, 1)) ∧ (decode cX12_readPlain 72 = .ok (.iload_n 1, 1)) := by decide +kernel
theorem dX12_readPlain_57 : decode cX12_readPlain 57 = .ok (.ifCond .ne 4, 3) := dX12_readPlain_57g.1
theorem dX12_readPlain_60 : decode cX12_readPlain 60 = .ok (.return_, 1) := dX12_readPlain_57g.2.1
theorem dX12_readPlain_61 : decode cX12_readPlain 61 = .ok (.aload_n 0, 1) := dX12_readPlain_57g.2.2.1
theorem dX12_readPlain_62 : decode cX12_readPlain 62 = .ok (.dup, 1) := dX12_readPlain_57g.2.2.2.1
theorem dX12_readPlain_63 : decode cX12_readPlain 63 = .ok (.getfield 166, 3) := dX12_readPlain_57g.2.2.2.2.1
theorem dX12_readPlain_66 : decode cX12_readPlain 66 = .ok (.iconst 1, 1) := dX12_readPlain_57g.2.2.2.2.2.1
theorem dX12_readPlain_67 : decode cX12_readPlain 67 = .ok (.iadd, 1) := dX12_readPlain_57g.2.2.2.2.2.2.1
theorem dX12_readPlain_68 : decode cX12_readPlain 68 = .ok (.putfield 166, 3) := dX12_readPlain_57g.2.2.2.2.2.2.2.1
theorem dX12_readPlain_71 : decode cX12_readPlain 71 = .ok (.aload_n 0, 1) := dX12_readPlain_57g.2.2.2.2.2.2.2.2.1
theorem dX12_readPlain_72 : decode cX12_readPlain 72 = .ok (.iload_n 1, 1) := dX12_readPlain_57g.2.2.2.2.2.2.2.2.2
theorem dX12_readPlain_73g : (decode cX12_readPlain 73 = .ok (.iconst 1, 1)) ∧ (decode cX12_readPlain 74 = .ok (.iadd, 1)) ∧ (decode cX12_readPlain 75 = .ok (.invokevirtual 185, 3)) ∧ (decode cX12_readPlain 78 = .ok (.aload_n 0, 1)) ∧ (decode cX12_readPlain 79 = .ok (.bipush 41, 2)) ∧ (decode cX12_readPlain 81 = .ok (.invokestatic 194, 3)) ∧ (decode cX12_readPlain 84 = .ok (.invokevirtual 182, 3)) ∧ (decode cX12_readPlain 87 = .ok (.goto 46, 3)) ∧ (decode cX12_readPlain 90 = .ok (.aload_n 0, 1)) ∧ (decode cX12_readPlain 91 = .ok (.iload_n 1, 1)) := by decide +kernel
theorem dX12_readPlain_73 : decode cX12_readPlain 73 = .ok (.iconst 1, 1) := dX12_readPlain_73g.1
theorem dX12_readPlain_74 : decode cX12_readPlain 74 = .ok (.iadd, 1) := dX12_readPlain_73g.2.1
theorem dX12_readPlain_75 : decode cX12_readPlain 75 = .ok (.invokevirtual 185, 3) := dX12_readPlain_73g.2.2.1
theorem dX12_readPlain_78 : decode cX12_readPlain 78 = .ok (.aload_n 0, 1) := dX12_readPlain_73g.2.2.2.1
theorem dX12_readPlain_79 : decode cX12_readPlain 79 = .ok (.bipush 41, 2) := dX12_readPlain_73g.2.2.2.2.1
theorem dX12_readPlain_81 : decode cX12_readPlain 81 = .ok (.invokestatic 194, 3) := dX12_readPlain_73g.2.2.2.2.2.1
theorem dX12_readPlain_84 : decode cX12_readPlain 84 = .ok (.invokevirtual 182, 3) := dX12_readPlain_73g.2.2.2.2.2.2.1
theorem dX12_readPlain_87 : decode cX12_readPlain 87 = .ok (.goto 46, 3) := dX12_readPlain_73g.2.2.2.2.2.2.2.1
theorem dX12_readPlain_90 : decode cX12_readPlain 90 = .ok (.aload_n 0, 1) := dX12_readPlain_73g.2.2.2.2.2.2.2.2.1
theorem dX12_readPlain_91 : decode cX12_readPlain 91 = .ok (.iload_n 1, 1) := dX12_readPlain_73g.2.2.2.2.2.2.2.2.2
theorem dX12_readPlain_92g : (decode cX12_readPlain 92 = .ok (.invokevirtual 178, 3)) ∧ (decode cX12_readPlain 95 = .ok (.aload_n 0, 1)) ∧ (decode cX12_readPlain 96 = .ok (.bipush 60, 2)) ∧ (decode cX12_readPlain 98 = .ok (.invokestatic 194, 3)) ∧ (decode cX12_readPlain 101 = .ok (.invokevirtual 169, 3)) ∧ (decode cX12_readPlain 104 = .ok (.ifCond .ne 24, 3)) ∧ (decode cX12_readPlain 107 = .ok (.aload_n 0, 1)) ∧ (decode cX12_readPlain 108 = .ok (.bipush 62, 2)) ∧ (decode cX12_readPlain 110 = .ok (.invokestatic 194, 3)) ∧ (decode cX12_readPlain 113 = .ok (.invokevirtual 169, 3)) := by decide +kernel
theorem dX12_readPlain_92 : decode cX12_readPlain 92 = .ok (.invokevirtual 178, 3) := dX12_readPlain_92g.1
theorem dX12_readPlain_95 : decode cX12_readPlain 95 = .ok (.aload_n 0, 1) := dX12_readPlain_92g.2.1
theorem dX12_readPlain_96 : decode cX12_readPlain 96 = .ok (.bipush 60, 2) := dX12_readPlain_92g.2.2.1
theorem dX12_readPlain_98 : decode cX12_readPlain 98 = .ok (.invokestatic 194, 3) := dX12_readPlain_92g.2.2.2.1
theorem dX12_readPlain_101 : decode cX12_readPlain 101 = .ok (.invokevirtual 169, 3) := dX12_readPlain_92g.2.2.2.2.1
theorem dX12_readPlain_104 : decode cX12_readPlain 104 = .ok (.ifCond .ne 24, 3) := dX12_readPlain_92g.2.2.2.2.2.1
theorem dX12_readPlain_107 : decode cX12_readPlain 107 = .ok (.aload_n 0, 1) := dX12_readPlain_92g.2.2.2.2.2.2.1
theorem dX12_readPlain_108 : decode cX12_readPlain 108 = .ok (.bipush 62, 2) := dX12_readPlain_92g.2.2.2.2.2.2.2.1
theorem dX12_readPlain_110 : decode cX12_readPlain 110 = .ok (.invokestatic 194, 3) := dX12_readPlain_92g.2.2.2.2.2.2.2.2.1
theorem dX12_readPlain_113 : decode cX12_readPlain 113 = .ok (.invokevirtual 169, 3) := dX12_readPlain_92g.2.2.2.2.2.2.2.2.2
theorem dX12_readPlain_116g : (decode cX12_readPlain 116 = .ok (.ifCond .ne 12, 3)) ∧ (decode cX12_readPlain 119 = .ok (.aload_n 0, 1)) ∧ (decode cX12_readPlain 120 = .ok (.bipush 61, 2)) ∧ (decode cX12_readPlain 122 = .ok (.invokestatic 194, 3)) ∧ (decode cX12_readPlain 125 = .ok (.invokevirtual 182, 3)) ∧ (decode cX12_readPlain 128 = .ok (.aload_n 0, 1)) ∧ (decode cX12_readPlain 129 = .ok (.iload_n 1, 1)) ∧ (decode cX12_readPlain 130 = .ok (.invokevirtual 178, 3)) ∧ (decode cX12_readPlain 133 = .ok (.return_, 1)) := by decide +kernel
theorem dX12_readPlain_116 : decode cX12_readPlain 116 = .ok (.ifCond .ne 12, 3) := dX12_readPlain_116g.1
theorem dX12_readPlain_119 : decode cX12_readPlain 119 = .ok (.aload_n 0, 1) := dX12_readPlain_116g.2.1
theorem dX12_readPlain_120 : decode cX12_readPlain 120 = .ok (.bipush 61, 2) := dX12_readPlain_116g.2.2.1
theorem dX12_readPlain_122 : decode cX12_readPlain 122 = .ok (.invokestatic 194, 3) := dX12_readPlain_116g.2.2.2.1
theorem dX12_readPlain_125 : decode cX12_readPlain 125 = .ok (.invokevirtual 182, 3) := dX12_readPlain_116g.2.2.2.2.1
theorem dX12_readPlain_128 : decode cX12_readPlain 128 = .ok (.aload_n 0, 1) := dX12_readPlain_116g.2.2.2.2.2.1
theorem dX12_readPlain_129 : decode cX12_readPlain 129 = .ok (.iload_n 1, 1) := dX12_readPlain_116g.2.2.2.2.2.2.1
theorem dX12_readPlain_130 : decode cX12_readPlain 130 = .ok (.invokevirtual 178, 3) := dX12_readPlain_116g.2.2.2.2.2.2.2.1
theorem dX12_readPlain_133 : decode cX12_readPlain 133 = .ok (.return_, 1) := dX12_readPlain_116g.2.2.2.2.2.2.2.2
set_option maxHeartbeats 4000000 in
set_option maxRecDepth 100000 in
theorem c_X12_readPlain (l : Launch) (E : Nat → Nat) (D : va_G) (G : th_G) (k : Nat) : ∀ (h0 : Nat) (hG0 : G h0 = some (10, 0)) (x1 : Int32) (ff cd : Nat → Int32) (TT pp : Nat) (bb : Int32) (dd : Nat) (hdd : x1.toInt = (dd : Int)) (hd8 : dd ≤ 8) (hk : 8 ≤ dd + k), Met l yX12_readPlain (tb (.code yX12_readPlain cX12_readPlain 4 none)) (rm (30 + 3 * k)) (va_Pc [.ref h0, .int x1] (PX E D G (fun H => RD E D G h0 ff cd TT pp bb H))) (QXv E D G (fun H => ∃ (p2 : Nat) (b2 : Int32), RD E D G h0 ff cd TT p2 b2 H ∧ pp ≤ p2 ∧ (b2.toInt = -1 → bb.toInt = -1 ∧ Gr (rC cd TT) 3 dd pp p2))) 0 0 (th_A G) := by
  induction k using Nat.strongRecOn with
  | ind k ih =>
  intro h0 hG0 x1 ff cd TT pp bb dd hdd hd8 hk
  refine Met.ofW (cc := cX12_readPlain) (maxL := 4) (ret := none) (by decide) rfl ?_
  intro p e s m args below meth c s₁ B hml hv
  obtain ⟨hav, ⟨hI, hN, hK⟩, hX⟩ := hv
  have hx := B.exec
  have hb := B.bytes
  have hr := B.returns
  have hts := atoms_spec (ws := tb (.code yX12_readPlain cX12_readPlain 4 none)) B.pre
  have hown : s.vm.findClass RX12 = some m.cls := findClass_of_methodNamed B.named
  have hlocks := B.notSynchronized
  have hS : va_S (th_A G) s.heap s.heap [] := va_S.rf
  have hl := lv_entry ([.ref h0, .int x1]) (n := 4) (Nat.le_of_ble_eq_true rfl)
  rw [show entryFrame m args 4 = entryFrame m ([.ref h0, .int x1] : List Value).toArray 4 from by rw [hav], lg_entry_eq]
  generalize (lg_sl ([.ref h0, .int x1]) ++ List.replicate (4 - (lg_sl ([.ref h0, .int x1])).length) Slot.unset).toArray = ls at hl ⊢
  have hl : lv_has ls 4 [(0, .ref h0), (1, .int x1)] := hl
  generalize hR : (headSpec (tb (.code yX12_readPlain cX12_readPlain 4 none)) (rm (30 + 3 * k))).room = R
  have hR := hR.symm
  generalize hQ : MQ below (QXv E D G (fun H => ∃ (p2 : Nat) (b2 : Int32), RD E D G h0 ff cd TT p2 b2 H ∧ pp ≤ p2 ∧ (b2.toInt = -1 → bb.toInt = -1 ∧ Gr (rC cd TT) 3 dd pp p2))) args s 0 0 (th_A G) = QF
  have hQ := hQ.symm
  obtain ⟨hkf, hT, hz0, k14, ⟨a1, hf2, hq3, hA4⟩, ⟨a5, hf6, hq7, hA8⟩, ⟨w9, hg10, k15⟩, ⟨w11, hg12, k16⟩, hg13⟩ := hX
  have hInv0 : bb.toInt = -1 → bb.toInt = -1 ∧ ∀ r, Gr (rC cd TT) 3 dd pp r → Gr (rC cd TT) 3 dd pp r := fun h => ⟨h, fun r hr => hr⟩
  have J_2 : ∀ (nn : Nat) (H : Heap) (locs : List Loc) (ls : Array Slot) (v2837 : Int32) (p1 : Nat) (b1 : Int32), (Int.toNat (2 * (((TT : Nat) : Int) - ((p1 : Nat) : Int)) + v2837.toInt) = nn) → lv_has ls 4 [(2, .int v2837), (0, .ref h0), (1, .int x1)] → ((0 : Int) ≤ v2837.toInt ∧ v2837.toInt ≤ 1) → ((0 : Int) ≤ x1.toInt ∧ x1.toInt ≤ 8) → (pp ≤ p1) → (v2837.toInt = 1 ∨ b1.toInt ≠ -1 ∨ rC cd TT p1 ≠ 8) → (b1.toInt = -1 → bb.toInt = -1 ∧ ∀ r, Gr (rC cd TT) 3 dd p1 r → Gr (rC cd TT) 3 dd pp r) → (RD E D G h0 ff cd TT p1 b1 H) → th_I (okM E) D G [] H → va_S (th_A G) s.heap H locs → W p l e R s m args below meth c H locs 0 0 QF (F0 m 2 ls []) := by
    intro nn
    induction nn using Nat.strongRecOn with
    | ind nn ih_2 =>
      intro H locs ls v2837 p1 b1 hm hl k2838 k2839 hle1 hno hInv hE hI hS
      obtain ⟨hkf, hT, hz0, k2853, ⟨a2840, hf2841, hq2842, hA2843⟩, ⟨a2844, hf2845, hq2846, hA2847⟩, ⟨w2848, hg2849, k2854⟩, ⟨w2850, hg2851, k2855⟩, hg2852⟩ := hE
      refine lv_iload_n hx hb dX12_readPlain_2 rfl (lv_at hl 0 rfl) ?_
      refine lv_if_eq (tgt := 16) hx hb dX12_readPlain_3 (by decide) (fun c2856 => ?_) (fun c2856 => ?_)
      · skip
        have k2857 := iv_eq (X := v2837.toInt) (Y := (0)) rfl (by decide) c2856
        refine lv_aload_n hx hb dX12_readPlain_16 rfl (lv_at hl 1 rfl) ?_
        refine mr_i (As := []) (rest := []) (n := 0) (d := 0) ⟨hx, hb, hml, hown, hts⟩ (c_X12_fine l E D G H h0 hG0  ff cd TT p1 b1 ⟨hkf, hT, hz0, by omega, ⟨a2840, hf2841, hq2842, hA2843⟩, ⟨a2844, hf2845, hq2846, hA2847⟩, ⟨w2848, hg2849, by omega⟩, ⟨w2850, hg2851, by omega⟩, hg2852⟩) wd_1591 wd_1593 wp_67 wd_13 wd_1594 (by decide +kernel) ⟨by rw [hR]; show 0 + 1 ≤ 30 + 3 * k; omega, by rw [hR]; show 8 + (1 + 11) + 40 * (0) ≤ 40 * (30 + 3 * k); omega⟩ hI hN hK hS hG0 rfl hl.1 rfl (Nat.le_of_ble_eq_true rfl) dX12_readPlain_17 ⟨Nat.zero_le _, Nat.zero_le _⟩ (fun r2858 locs hp hS => ?_)
        rcases hp with ⟨rfl, hp⟩ | ⟨rfl, hp⟩
        · skip
          try simp only [rg, not_and, Int.not_le] at hp
          have hp2859 := hp
          refine lv_if_ne (tgt := 24) hx hb dX12_readPlain_20 (by decide) (fun _ => ?_) (fun c => absurd c (by decide))
          refine lv_aload_n hx hb dX12_readPlain_24 rfl (lv_at hl 1 rfl) ?_
          refine gmA hx hb hts inT12 hown hK hI List.not_mem_nil hG0 12 (by decide) (hts _ (tb_c wd_1245)) rfl rfl dX12_readPlain_25 (fun a2860 hq2861 hf2862 => ?_)
          obtain rfl := fr.uniq (by decide) hf2845 hf2862
          refine lv_aload_n hx hb dX12_readPlain_28 rfl (lv_at hl 1 rfl) ?_
          refine gmI hx hb hts inT12 hown hK hI List.not_mem_nil hG0 16 (by decide) (hts _ (tb_c wd_1249)) rfl rfl dX12_readPlain_29 (fun w2863 hg2864 k2865 k2866 => ?_)
          obtain rfl := gf.uniq (by decide) hg2851 hg2864
          refine th_iald hx hb hK hA2847 0 rfl (iv_in (X := w2850.toInt) rfl (by omega) (by omega)) dX12_readPlain_32 (fun v2867 e2868 => ?_)
          have hrc := rC_rd (TT := TT) e2868 (j := p1) (by omega) (by omega) hz0
          refine lv_istore_n (lv' := [(3, .int v2867), (2, .int v2837), (0, .ref h0), (1, .int x1)]) hx hb dX12_readPlain_33 rfl hl (by decide) rfl (fun ls hl => ?_)
          refine lv_iload_n hx hb dX12_readPlain_34 rfl (lv_at hl 0 rfl) ?_
          refine lv_bipush (v := 40) hx hb dX12_readPlain_35 (by decide) ?_
          refine th_cSs (As := [.int 40]) (rest := [.int v2867]) (n := 1) (d := 0) ⟨hx, hb, hml, hown, hts⟩ (c_X12_sign l H 40) wd_1495 wd_1496 wd_13 wd_1497 (by decide +kernel) ⟨by rw [hR]; show 0 + 1 ≤ 30 + 3 * k; omega, by rw [hR]; show 8 + (1 + 11) + 40 * (0) ≤ 40 * (30 + 3 * k); omega⟩ hN hS rfl hl.1 rfl (Nat.le_of_ble_eq_true rfl) dX12_readPlain_37 ⟨Nat.zero_le _, Nat.zero_le _⟩ (fun r2869 locs hp hS => ?_)
          obtain rfl : r2869 = 140 := hp.trans (by decide)
          have k2870 := iv_lo v2867
          have k2871 := iv_hi v2867
          refine lv_icmp_ne (tgt := 90) hx hb dX12_readPlain_40 (by decide) (fun c2872 => ?_) (fun c2872 => ?_)
          · skip
            have k2873 := iv_ne (X := v2867.toInt) (Y := (140)) rfl (by decide) c2872
            refine lv_aload_n hx hb dX12_readPlain_90 rfl (lv_at hl 2 rfl) ?_
            refine lv_iload_n hx hb dX12_readPlain_91 rfl (lv_at hl 3 rfl) ?_
            refine mx_v (As := [.int x1]) (rest := []) (n := 1) (d := 29) ⟨hx, hb, hml, hown, hts⟩ (c_X12_readSum l E D G 8 h0 hG0 x1 ff cd TT p1 b1 dd (by first | decide | omega) (by omega) (by omega) (c_X12_readPart l E D G 8)) wd_1595 wd_1597 wp_68 wd_13 wd_1598 (by decide +kernel) ⟨by rw [hR]; show 29 + 1 ≤ 30 + 3 * k; omega, by rw [hR]; show 8 + (2 + 11) + 40 * (29) ≤ 40 * (30 + 3 * k); omega⟩ hI hN hK hS hG0 (⟨hkf, hT, hz0, by omega, ⟨a2840, hf2841, hq2842, hA2843⟩, ⟨a2844, hf2845, hq2846, hA2847⟩, ⟨w2848, hg2849, by omega⟩, ⟨w2850, hg2851, by omega⟩, hg2852⟩) rfl hl.1 rfl (Nat.le_of_ble_eq_true rfl) dX12_readPlain_92 ⟨Nat.zero_le _, Nat.zero_le _⟩ (fun H locs hI hp hS => ?_)
            obtain ⟨pn2875, bn2876, hE, k2878, hi2877⟩ := hp
            obtain ⟨hkf, hT, hz0, k2892, ⟨a2879, hf2880, hq2881, hA2882⟩, ⟨a2883, hf2884, hq2885, hA2886⟩, ⟨w2887, hg2888, k2893⟩, ⟨w2889, hg2890, k2894⟩, hg2891⟩ := hE
            refine lv_aload_n hx hb dX12_readPlain_95 rfl (lv_at hl 2 rfl) ?_
            refine lv_bipush (v := 60) hx hb dX12_readPlain_96 (by decide) ?_
            refine th_cSs (As := [.int 60]) (rest := [.ref h0]) (n := 1) (d := 0) ⟨hx, hb, hml, hown, hts⟩ (c_X12_sign l H 60) wd_1495 wd_1496 wd_13 wd_1497 (by decide +kernel) ⟨by rw [hR]; show 0 + 1 ≤ 30 + 3 * k; omega, by rw [hR]; show 8 + (1 + 11) + 40 * (0) ≤ 40 * (30 + 3 * k); omega⟩ hN hS rfl hl.1 rfl (Nat.le_of_ble_eq_true rfl) dX12_readPlain_98 ⟨Nat.zero_le _, Nat.zero_le _⟩ (fun r2895 locs hp hS => ?_)
            obtain rfl : r2895 = 160 := hp.trans (by decide)
            refine mx_i (As := [.int 160]) (rest := []) (n := 1) (d := 1) ⟨hx, hb, hml, hown, hts⟩ (c_X12_takes0 l E D G h0 hG0 160 ff cd TT pn2875 bn2876 (by first | decide | omega)) wd_1587 wd_1589 wp_66 wd_13 wd_1590 (by decide +kernel) ⟨by rw [hR]; show 1 + 1 ≤ 30 + 3 * k; omega, by rw [hR]; show 8 + (3 + 11) + 40 * (1) ≤ 40 * (30 + 3 * k); omega⟩ hI hN hK hS hG0 (⟨hkf, hT, hz0, by omega, ⟨a2879, hf2880, hq2881, hA2882⟩, ⟨a2883, hf2884, hq2885, hA2886⟩, ⟨w2887, hg2888, by omega⟩, ⟨w2889, hg2890, by omega⟩, hg2891⟩) rfl hl.1 rfl (Nat.le_of_ble_eq_true rfl) dX12_readPlain_101 ⟨Nat.zero_le _, Nat.zero_le _⟩ (fun r2896 H locs hI hp hS => ?_)
            rcases hp with ⟨rfl, hp⟩ | ⟨rfl, hp⟩
            · skip
              try simp only [rg, not_and, Int.not_le] at hp
              have hp2897 := hp
              obtain ⟨hb2898, hc2899, k2900, hE⟩ := hp2897
              have hp2897 : True := trivial
              rw [show (160 : Int32).toInt = 160 from by decide] at hc2899
              obtain ⟨hkf, hT, hz0, k2914, ⟨a2901, hf2902, hq2903, hA2904⟩, ⟨a2905, hf2906, hq2907, hA2908⟩, ⟨w2909, hg2910, k2915⟩, ⟨w2911, hg2912, k2916⟩, hg2913⟩ := hE
              try rw [show (160 : Int32).toInt = 160 from by decide] at hp2897
              refine lv_if_ne (tgt := 128) hx hb dX12_readPlain_104 (by decide) (fun _ => ?_) (fun c => absurd c (by decide))
              refine lv_aload_n hx hb dX12_readPlain_128 rfl (lv_at hl 2 rfl) ?_
              refine lv_iload_n hx hb dX12_readPlain_129 rfl (lv_at hl 3 rfl) ?_
              refine mx_v (As := [.int x1]) (rest := []) (n := 1) (d := 29) ⟨hx, hb, hml, hown, hts⟩ (c_X12_readSum l E D G 8 h0 hG0 x1 ff cd TT (pn2875 + 1) bn2876 dd (by first | decide | omega) (by omega) (by omega) (c_X12_readPart l E D G 8)) wd_1595 wd_1597 wp_68 wd_13 wd_1598 (by decide +kernel) ⟨by rw [hR]; show 29 + 1 ≤ 30 + 3 * k; omega, by rw [hR]; show 8 + (2 + 11) + 40 * (29) ≤ 40 * (30 + 3 * k); omega⟩ hI hN hK hS hG0 (⟨hkf, hT, hz0, by omega, ⟨a2901, hf2902, hq2903, hA2904⟩, ⟨a2905, hf2906, hq2907, hA2908⟩, ⟨w2909, hg2910, by omega⟩, ⟨w2911, hg2912, by omega⟩, hg2913⟩) rfl hl.1 rfl (Nat.le_of_ble_eq_true rfl) dX12_readPlain_130 ⟨Nat.zero_le _, Nat.zero_le _⟩ (fun H locs hI hp hS => ?_)
              obtain ⟨pn2918, bn2919, hE, k2921, hi2920⟩ := hp
              obtain ⟨hkf, hT, hz0, k2935, ⟨a2922, hf2923, hq2924, hA2925⟩, ⟨a2926, hf2927, hq2928, hA2929⟩, ⟨w2930, hg2931, k2936⟩, ⟨w2932, hg2933, k2937⟩, hg2934⟩ := hE
              have hpost : ∃ (p2 : Nat) (b2 : Int32), RD E D G h0 ff cd TT p2 b2 H ∧ pp ≤ p2 ∧ (b2.toInt = -1 → bb.toInt = -1 ∧ Gr (rC cd TT) 3 dd pp p2) := ⟨pn2918, bn2919, ⟨hkf, hT, hz0, by omega, ⟨a2922, hf2923, hq2924, hA2925⟩, ⟨a2926, hf2927, hq2928, hA2929⟩, ⟨w2930, hg2931, by omega⟩, ⟨w2932, hg2933, by omega⟩, hg2934⟩, by omega, fun h => ⟨(hInv (by omega)).1, r3_x (hInv (by omega)).2 (by omega) (by omega) (hi2877 hb2898).2 (by omega) (hi2920 h).2⟩⟩
              rw [hQ]
              exact W.vret hx hb hr (fun t ht hW => ⟨⟨(), rfl, trivial, ⟨by rw [ht]; exact hI, hN.warm hW, va_K.moved hW.alike hK⟩, by first | (rw [ht]; exact hpost) | exact hpost⟩, hS.F ht⟩) hS.2.2 dX12_readPlain_133
            · skip
              try simp only [rg, not_and, Int.not_le] at hp
              have hp2938 := hp
              obtain ⟨hc2939, hE⟩ := hp2938
              have hp2938 : True := trivial
              rw [show (160 : Int32).toInt = 160 from by decide] at hc2939
              obtain ⟨hkf, hT, hz0, k2953, ⟨a2940, hf2941, hq2942, hA2943⟩, ⟨a2944, hf2945, hq2946, hA2947⟩, ⟨w2948, hg2949, k2954⟩, ⟨w2950, hg2951, k2955⟩, hg2952⟩ := hE
              try rw [show (160 : Int32).toInt = 160 from by decide] at hp2938
              refine lv_if_ne (tgt := 128) hx hb dX12_readPlain_104 (by decide) (fun c => absurd c (by decide)) (fun _ => ?_)
              refine lv_aload_n hx hb dX12_readPlain_107 rfl (lv_at hl 2 rfl) ?_
              refine lv_bipush (v := 62) hx hb dX12_readPlain_108 (by decide) ?_
              refine th_cSs (As := [.int 62]) (rest := [.ref h0]) (n := 1) (d := 0) ⟨hx, hb, hml, hown, hts⟩ (c_X12_sign l H 62) wd_1495 wd_1496 wd_13 wd_1497 (by decide +kernel) ⟨by rw [hR]; show 0 + 1 ≤ 30 + 3 * k; omega, by rw [hR]; show 8 + (1 + 11) + 40 * (0) ≤ 40 * (30 + 3 * k); omega⟩ hN hS rfl hl.1 rfl (Nat.le_of_ble_eq_true rfl) dX12_readPlain_110 ⟨Nat.zero_le _, Nat.zero_le _⟩ (fun r2956 locs hp hS => ?_)
              obtain rfl : r2956 = 162 := hp.trans (by decide)
              refine mx_i (As := [.int 162]) (rest := []) (n := 1) (d := 1) ⟨hx, hb, hml, hown, hts⟩ (c_X12_takes0 l E D G h0 hG0 162 ff cd TT pn2875 bn2876 (by first | decide | omega)) wd_1587 wd_1589 wp_66 wd_13 wd_1590 (by decide +kernel) ⟨by rw [hR]; show 1 + 1 ≤ 30 + 3 * k; omega, by rw [hR]; show 8 + (3 + 11) + 40 * (1) ≤ 40 * (30 + 3 * k); omega⟩ hI hN hK hS hG0 (⟨hkf, hT, hz0, by omega, ⟨a2940, hf2941, hq2942, hA2943⟩, ⟨a2944, hf2945, hq2946, hA2947⟩, ⟨w2948, hg2949, by omega⟩, ⟨w2950, hg2951, by omega⟩, hg2952⟩) rfl hl.1 rfl (Nat.le_of_ble_eq_true rfl) dX12_readPlain_113 ⟨Nat.zero_le _, Nat.zero_le _⟩ (fun r2957 H locs hI hp hS => ?_)
              rcases hp with ⟨rfl, hp⟩ | ⟨rfl, hp⟩
              · skip
                try simp only [rg, not_and, Int.not_le] at hp
                have hp2958 := hp
                obtain ⟨hb2959, hc2960, k2961, hE⟩ := hp2958
                have hp2958 : True := trivial
                rw [show (162 : Int32).toInt = 162 from by decide] at hc2960
                obtain ⟨hkf, hT, hz0, k2975, ⟨a2962, hf2963, hq2964, hA2965⟩, ⟨a2966, hf2967, hq2968, hA2969⟩, ⟨w2970, hg2971, k2976⟩, ⟨w2972, hg2973, k2977⟩, hg2974⟩ := hE
                try rw [show (162 : Int32).toInt = 162 from by decide] at hp2958
                refine lv_if_ne (tgt := 128) hx hb dX12_readPlain_116 (by decide) (fun _ => ?_) (fun c => absurd c (by decide))
                refine lv_aload_n hx hb dX12_readPlain_128 rfl (lv_at hl 2 rfl) ?_
                refine lv_iload_n hx hb dX12_readPlain_129 rfl (lv_at hl 3 rfl) ?_
                refine mx_v (As := [.int x1]) (rest := []) (n := 1) (d := 29) ⟨hx, hb, hml, hown, hts⟩ (c_X12_readSum l E D G 8 h0 hG0 x1 ff cd TT (pn2875 + 1) bn2876 dd (by first | decide | omega) (by omega) (by omega) (c_X12_readPart l E D G 8)) wd_1595 wd_1597 wp_68 wd_13 wd_1598 (by decide +kernel) ⟨by rw [hR]; show 29 + 1 ≤ 30 + 3 * k; omega, by rw [hR]; show 8 + (2 + 11) + 40 * (29) ≤ 40 * (30 + 3 * k); omega⟩ hI hN hK hS hG0 (⟨hkf, hT, hz0, by omega, ⟨a2962, hf2963, hq2964, hA2965⟩, ⟨a2966, hf2967, hq2968, hA2969⟩, ⟨w2970, hg2971, by omega⟩, ⟨w2972, hg2973, by omega⟩, hg2974⟩) rfl hl.1 rfl (Nat.le_of_ble_eq_true rfl) dX12_readPlain_130 ⟨Nat.zero_le _, Nat.zero_le _⟩ (fun H locs hI hp hS => ?_)
                obtain ⟨pn2979, bn2980, hE, k2982, hi2981⟩ := hp
                obtain ⟨hkf, hT, hz0, k2996, ⟨a2983, hf2984, hq2985, hA2986⟩, ⟨a2987, hf2988, hq2989, hA2990⟩, ⟨w2991, hg2992, k2997⟩, ⟨w2993, hg2994, k2998⟩, hg2995⟩ := hE
                have hpost : ∃ (p2 : Nat) (b2 : Int32), RD E D G h0 ff cd TT p2 b2 H ∧ pp ≤ p2 ∧ (b2.toInt = -1 → bb.toInt = -1 ∧ Gr (rC cd TT) 3 dd pp p2) := ⟨pn2979, bn2980, ⟨hkf, hT, hz0, by omega, ⟨a2983, hf2984, hq2985, hA2986⟩, ⟨a2987, hf2988, hq2989, hA2990⟩, ⟨w2991, hg2992, by omega⟩, ⟨w2993, hg2994, by omega⟩, hg2995⟩, by omega, fun h => ⟨(hInv (by omega)).1, r3_x (hInv (by omega)).2 (by omega) (by omega) (hi2877 hb2959).2 (by omega) (hi2981 h).2⟩⟩
                rw [hQ]
                exact W.vret hx hb hr (fun t ht hW => ⟨⟨(), rfl, trivial, ⟨by rw [ht]; exact hI, hN.warm hW, va_K.moved hW.alike hK⟩, by first | (rw [ht]; exact hpost) | exact hpost⟩, hS.F ht⟩) hS.2.2 dX12_readPlain_133
              · skip
                try simp only [rg, not_and, Int.not_le] at hp
                have hp2999 := hp
                obtain ⟨hc3000, hE⟩ := hp2999
                have hp2999 : True := trivial
                rw [show (162 : Int32).toInt = 162 from by decide] at hc3000
                obtain ⟨hkf, hT, hz0, k3014, ⟨a3001, hf3002, hq3003, hA3004⟩, ⟨a3005, hf3006, hq3007, hA3008⟩, ⟨w3009, hg3010, k3015⟩, ⟨w3011, hg3012, k3016⟩, hg3013⟩ := hE
                try rw [show (162 : Int32).toInt = 162 from by decide] at hp2999
                refine lv_if_ne (tgt := 128) hx hb dX12_readPlain_116 (by decide) (fun c => absurd c (by decide)) (fun _ => ?_)
                refine lv_aload_n hx hb dX12_readPlain_119 rfl (lv_at hl 2 rfl) ?_
                refine lv_bipush (v := 61) hx hb dX12_readPlain_120 (by decide) ?_
                refine th_cSs (As := [.int 61]) (rest := [.ref h0]) (n := 1) (d := 0) ⟨hx, hb, hml, hown, hts⟩ (c_X12_sign l H 61) wd_1495 wd_1496 wd_13 wd_1497 (by decide +kernel) ⟨by rw [hR]; show 0 + 1 ≤ 30 + 3 * k; omega, by rw [hR]; show 8 + (1 + 11) + 40 * (0) ≤ 40 * (30 + 3 * k); omega⟩ hN hS rfl hl.1 rfl (Nat.le_of_ble_eq_true rfl) dX12_readPlain_122 ⟨Nat.zero_le _, Nat.zero_le _⟩ (fun r3017 locs hp hS => ?_)
                obtain rfl : r3017 = 161 := hp.trans (by decide)
                refine mx_v (As := [.int 161]) (rest := []) (n := 1) (d := 2) ⟨hx, hb, hml, hown, hts⟩ (c_X12_must l E D G h0 hG0 161 ff cd TT pn2875 bn2876 (by first | decide | omega)) wd_1611 wd_1613 wp_72 wd_13 wd_1614 (by decide +kernel) ⟨by rw [hR]; show 2 + 1 ≤ 30 + 3 * k; omega, by rw [hR]; show 8 + (2 + 11) + 40 * (2) ≤ 40 * (30 + 3 * k); omega⟩ hI hN hK hS hG0 (⟨hkf, hT, hz0, by omega, ⟨a3001, hf3002, hq3003, hA3004⟩, ⟨a3005, hf3006, hq3007, hA3008⟩, ⟨w3009, hg3010, by omega⟩, ⟨w3011, hg3012, by omega⟩, hg3013⟩) rfl hl.1 rfl (Nat.le_of_ble_eq_true rfl) dX12_readPlain_125 ⟨Nat.zero_le _, Nat.zero_le _⟩ (fun H locs hI hp hS => ?_)
                obtain ⟨pn3019, bn3020, hE, k3022, hi3021⟩ := hp
                obtain ⟨hkf, hT, hz0, k3036, ⟨a3023, hf3024, hq3025, hA3026⟩, ⟨a3027, hf3028, hq3029, hA3030⟩, ⟨w3031, hg3032, k3037⟩, ⟨w3033, hg3034, k3038⟩, hg3035⟩ := hE
                rw [show (161 : Int32).toInt = 161 from by decide] at hi3021
                refine lv_aload_n hx hb dX12_readPlain_128 rfl (lv_at hl 2 rfl) ?_
                refine lv_iload_n hx hb dX12_readPlain_129 rfl (lv_at hl 3 rfl) ?_
                refine mx_v (As := [.int x1]) (rest := []) (n := 1) (d := 29) ⟨hx, hb, hml, hown, hts⟩ (c_X12_readSum l E D G 8 h0 hG0 x1 ff cd TT pn3019 bn3020 dd (by first | decide | omega) (by omega) (by omega) (c_X12_readPart l E D G 8)) wd_1595 wd_1597 wp_68 wd_13 wd_1598 (by decide +kernel) ⟨by rw [hR]; show 29 + 1 ≤ 30 + 3 * k; omega, by rw [hR]; show 8 + (2 + 11) + 40 * (29) ≤ 40 * (30 + 3 * k); omega⟩ hI hN hK hS hG0 (⟨hkf, hT, hz0, by omega, ⟨a3023, hf3024, hq3025, hA3026⟩, ⟨a3027, hf3028, hq3029, hA3030⟩, ⟨w3031, hg3032, by omega⟩, ⟨w3033, hg3034, by omega⟩, hg3035⟩) rfl hl.1 rfl (Nat.le_of_ble_eq_true rfl) dX12_readPlain_130 ⟨Nat.zero_le _, Nat.zero_le _⟩ (fun H locs hI hp hS => ?_)
                obtain ⟨pn3040, bn3041, hE, k3043, hi3042⟩ := hp
                obtain ⟨hkf, hT, hz0, k3057, ⟨a3044, hf3045, hq3046, hA3047⟩, ⟨a3048, hf3049, hq3050, hA3051⟩, ⟨w3052, hg3053, k3058⟩, ⟨w3054, hg3055, k3059⟩, hg3056⟩ := hE
                have hpost : ∃ (p2 : Nat) (b2 : Int32), RD E D G h0 ff cd TT p2 b2 H ∧ pp ≤ p2 ∧ (b2.toInt = -1 → bb.toInt = -1 ∧ Gr (rC cd TT) 3 dd pp p2) := by
                    refine ⟨pn3040, bn3041, ⟨hkf, hT, hz0, by omega, ⟨a3044, hf3045, hq3046, hA3047⟩, ⟨a3048, hf3049, hq3050, hA3051⟩, ⟨w3052, hg3053, by omega⟩, ⟨w3054, hg3055, by omega⟩, hg3056⟩, by omega, ?_⟩
                    intro h
                    obtain ⟨hz1, hz2⟩ := hi3042 h
                    obtain ⟨hm1, hm2, hm3⟩ := hi3021 hz1
                    obtain ⟨ha1, ha2⟩ := hi2877 hm1
                    rw [hm3] at hz2
                    exact ⟨(hInv ha1).1, r3_x (hInv ha1).2 (by omega) (by omega) ha2 (by omega) hz2⟩
                rw [hQ]
                exact W.vret hx hb hr (fun t ht hW => ⟨⟨(), rfl, trivial, ⟨by rw [ht]; exact hI, hN.warm hW, va_K.moved hW.alike hK⟩, by first | (rw [ht]; exact hpost) | exact hpost⟩, hS.F ht⟩) hS.2.2 dX12_readPlain_133
          · skip
            have k3060 := iv_eq (X := v2867.toInt) (Y := (140)) rfl (by decide) c2872
            refine lv_iload_n hx hb dX12_readPlain_43 rfl (lv_at hl 3 rfl) ?_
            refine lv_bipush (v := 8) hx hb dX12_readPlain_44 (by decide) ?_
            refine lv_icmp_ne (tgt := 53) hx hb dX12_readPlain_46 (by decide) (fun c3061 => ?_) (fun c3061 => ?_)
            · skip
              have k3062 := iv_ne (X := x1.toInt) (Y := (8)) rfl (by decide) c3061
              refine lv_aload_n hx hb dX12_readPlain_53 rfl (lv_at hl 2 rfl) ?_
              refine mr_i (As := []) (rest := []) (n := 0) (d := 0) ⟨hx, hb, hml, hown, hts⟩ (c_X12_fine l E D G H h0 hG0  ff cd TT p1 b1 ⟨hkf, hT, hz0, by omega, ⟨a2840, hf2841, hq2842, hA2843⟩, ⟨a2844, hf2845, hq2846, hA2847⟩, ⟨w2848, hg2849, by omega⟩, ⟨w2850, hg2851, by omega⟩, hg2852⟩) wd_1591 wd_1593 wp_67 wd_13 wd_1594 (by decide +kernel) ⟨by rw [hR]; show 0 + 1 ≤ 30 + 3 * k; omega, by rw [hR]; show 8 + (1 + 11) + 40 * (0) ≤ 40 * (30 + 3 * k); omega⟩ hI hN hK hS hG0 rfl hl.1 rfl (Nat.le_of_ble_eq_true rfl) dX12_readPlain_54 ⟨Nat.zero_le _, Nat.zero_le _⟩ (fun r3063 locs hp hS => ?_)
              rcases hp with ⟨rfl, hp⟩ | ⟨rfl, hp⟩
              · skip
                try simp only [rg, not_and, Int.not_le] at hp
                have hp3064 := hp
                refine lv_if_ne (tgt := 61) hx hb dX12_readPlain_57 (by decide) (fun _ => ?_) (fun c => absurd c (by decide))
                have hlt9 : p1 < TT := rC_lt (cd := cd) (by omega)
                refine lv_aload_n hx hb dX12_readPlain_61 rfl (lv_at hl 2 rfl) ?_
                refine lv_dup hx hb dX12_readPlain_62 rfl ?_
                refine gmI hx hb hts inT12 hown hK hI List.not_mem_nil hG0 16 (by decide) (hts _ (tb_c wd_1249)) rfl rfl dX12_readPlain_63 (fun w3065 hg3066 k3067 k3068 => ?_)
                obtain rfl := gf.uniq (by decide) hg2851 hg3066
                refine lv_iconst (v := 1) hx hb dX12_readPlain_66 (by decide) ?_
                refine lv_iadd hx hb dX12_readPlain_67 ?_
                refine lv_topi (fun v3069 e3070 => ?_)
                have tv3069 : v3069.toInt = w2850.toInt + (1) := iv_add rfl (by decide) e3070 (by omega) (by omega)
                refine pmI (ty := .int) hx hb hts inT12 hown hK hI List.not_mem_nil hG0 hS ⟨_, hG0⟩ 16 (by decide) (hts _ (tb_c wd_1249)) rfl rfl (by decide +kernel) rfl rfl rfl (by omega) (by omega) dX12_readPlain_68 (fun H locs hI hgP hS => ?_)
                have hg2849 := hgP.2.2.1 15 _ (by decide) (by decide) hg2849
                have hg2852 := hgP.2.2.1 18 _ (by decide) (by decide) hg2852
                have hg3071 := hgP.2.1
                have hf2841 := hgP.2.2.2 3 _ (by decide) (by decide) hf2841
                have hf2845 := hgP.2.2.2 12 _ (by decide) (by decide) hf2845
                have hA2843 := va_at.kept hA2843 (hgP.1 _ (m_ne hq2842 hG0 (by first | decide | (dsimp only; decide))))
                have hA2847 := va_at.kept hA2847 (hgP.1 _ (m_ne hq2846 hG0 (by first | decide | (dsimp only; decide))))
                refine lv_aload_n hx hb dX12_readPlain_71 rfl (lv_at hl 2 rfl) ?_
                refine lv_iload_n hx hb dX12_readPlain_72 rfl (lv_at hl 3 rfl) ?_
                refine lv_iconst (v := 1) hx hb dX12_readPlain_73 (by decide) ?_
                refine lv_iadd hx hb dX12_readPlain_74 ?_
                refine lv_topi (fun v3072 e3073 => ?_)
                have tv3072 : v3072.toInt = x1.toInt + (1) := iv_add rfl (by decide) e3073 (by omega) (by omega)
                refine mx_v (As := [.int v3072]) (rest := []) (n := 1) (d := (32 + 3 * (k - 1))) ⟨hx, hb, hml, hown, hts⟩ (c_X12_readTest l E D G (k - 1) h0 hG0 v3072 ff cd TT (p1 + 1) b1 (dd + 1) (by first | decide | omega) (by omega) (by omega) (ih (k - 1) (by omega))) wd_1619 wd_1621 wp_74 wd_13 wd_1622 (by decide +kernel) ⟨by rw [hR]; show (32 + 3 * (k - 1)) + 1 ≤ 30 + 3 * k; omega, by rw [hR]; show 8 + (2 + 11) + 40 * ((32 + 3 * (k - 1))) ≤ 40 * (30 + 3 * k); omega⟩ hI hN hK hS hG0 (⟨hkf, hT, hz0, by omega, ⟨a2840, hf2841, hq2842, hA2843⟩, ⟨a2844, hf2845, hq2846, hA2847⟩, ⟨w2848, hg2849, by omega⟩, ⟨v3069, hg3071, by omega⟩, hg2852⟩) rfl hl.1 rfl (Nat.le_of_ble_eq_true rfl) dX12_readPlain_75 ⟨Nat.zero_le _, Nat.zero_le _⟩ (fun H locs hI hp hS => ?_)
                obtain ⟨pn3075, bn3076, hE, k3078, hi3077⟩ := hp
                obtain ⟨hkf, hT, hz0, k3092, ⟨a3079, hf3080, hq3081, hA3082⟩, ⟨a3083, hf3084, hq3085, hA3086⟩, ⟨w3087, hg3088, k3093⟩, ⟨w3089, hg3090, k3094⟩, hg3091⟩ := hE
                refine lv_aload_n hx hb dX12_readPlain_78 rfl (lv_at hl 2 rfl) ?_
                refine lv_bipush (v := 41) hx hb dX12_readPlain_79 (by decide) ?_
                refine th_cSs (As := [.int 41]) (rest := [.ref h0]) (n := 1) (d := 0) ⟨hx, hb, hml, hown, hts⟩ (c_X12_sign l H 41) wd_1495 wd_1496 wd_13 wd_1497 (by decide +kernel) ⟨by rw [hR]; show 0 + 1 ≤ 30 + 3 * k; omega, by rw [hR]; show 8 + (1 + 11) + 40 * (0) ≤ 40 * (30 + 3 * k); omega⟩ hN hS rfl hl.1 rfl (Nat.le_of_ble_eq_true rfl) dX12_readPlain_81 ⟨Nat.zero_le _, Nat.zero_le _⟩ (fun r3095 locs hp hS => ?_)
                obtain rfl : r3095 = 141 := hp.trans (by decide)
                refine mx_v (As := [.int 141]) (rest := []) (n := 1) (d := 2) ⟨hx, hb, hml, hown, hts⟩ (c_X12_must l E D G h0 hG0 141 ff cd TT pn3075 bn3076 (by first | decide | omega)) wd_1611 wd_1613 wp_72 wd_13 wd_1614 (by decide +kernel) ⟨by rw [hR]; show 2 + 1 ≤ 30 + 3 * k; omega, by rw [hR]; show 8 + (2 + 11) + 40 * (2) ≤ 40 * (30 + 3 * k); omega⟩ hI hN hK hS hG0 (⟨hkf, hT, hz0, by omega, ⟨a3079, hf3080, hq3081, hA3082⟩, ⟨a3083, hf3084, hq3085, hA3086⟩, ⟨w3087, hg3088, by omega⟩, ⟨w3089, hg3090, by omega⟩, hg3091⟩) rfl hl.1 rfl (Nat.le_of_ble_eq_true rfl) dX12_readPlain_84 ⟨Nat.zero_le _, Nat.zero_le _⟩ (fun H locs hI hp hS => ?_)
                obtain ⟨pn3097, bn3098, hE, k3100, hi3099⟩ := hp
                obtain ⟨hkf, hT, hz0, k3114, ⟨a3101, hf3102, hq3103, hA3104⟩, ⟨a3105, hf3106, hq3107, hA3108⟩, ⟨w3109, hg3110, k3115⟩, ⟨w3111, hg3112, k3116⟩, hg3113⟩ := hE
                rw [show (141 : Int32).toInt = 141 from by decide] at hi3099
                refine lv_goto (tgt := 133) hx hb dX12_readPlain_87 (by decide) ?_
                have hpost : ∃ (p2 : Nat) (b2 : Int32), RD E D G h0 ff cd TT p2 b2 H ∧ pp ≤ p2 ∧ (b2.toInt = -1 → bb.toInt = -1 ∧ Gr (rC cd TT) 3 dd pp p2) := ⟨pn3097, bn3098, ⟨hkf, hT, hz0, by omega, ⟨a3101, hf3102, hq3103, hA3104⟩, ⟨a3105, hf3106, hq3107, hA3108⟩, ⟨w3109, hg3110, by omega⟩, ⟨w3111, hg3112, by omega⟩, hg3113⟩, by omega, fun h => ⟨(hInv (by omega)).1, r3_br (hInv (by omega)).2 (by omega) (by omega) (hi3077 (hi3099 h).1).2 (hi3099 h).2.1 (hi3099 h).2.2⟩⟩
                rw [hQ]
                exact W.vret hx hb hr (fun t ht hW => ⟨⟨(), rfl, trivial, ⟨by rw [ht]; exact hI, hN.warm hW, va_K.moved hW.alike hK⟩, by first | (rw [ht]; exact hpost) | exact hpost⟩, hS.F ht⟩) hS.2.2 dX12_readPlain_133
              · skip
                try simp only [rg, not_and, Int.not_le] at hp
                have hp3117 := hp
                refine lv_if_ne (tgt := 61) hx hb dX12_readPlain_57 (by decide) (fun c => absurd c (by decide)) (fun _ => ?_)
                have hpost : ∃ (p2 : Nat) (b2 : Int32), RD E D G h0 ff cd TT p2 b2 H ∧ pp ≤ p2 ∧ (b2.toInt = -1 → bb.toInt = -1 ∧ Gr (rC cd TT) 3 dd pp p2) := ⟨p1, b1, ⟨hkf, hT, hz0, by omega, ⟨a2840, hf2841, hq2842, hA2843⟩, ⟨a2844, hf2845, hq2846, hA2847⟩, ⟨w2848, hg2849, by omega⟩, ⟨w2850, hg2851, by omega⟩, hg2852⟩, by omega, fun h => absurd h (by omega)⟩
                rw [hQ]
                exact W.vret hx hb hr (fun t ht hW => ⟨⟨(), rfl, trivial, ⟨by rw [ht]; exact hI, hN.warm hW, va_K.moved hW.alike hK⟩, by first | (rw [ht]; exact hpost) | exact hpost⟩, hS.F ht⟩) hS.2.2 dX12_readPlain_60
            · skip
              have k3118 := iv_eq (X := x1.toInt) (Y := (8)) rfl (by decide) c3061
              refine lv_aload_n hx hb dX12_readPlain_49 rfl (lv_at hl 2 rfl) ?_
              refine mx_v (As := []) (rest := []) (n := 0) (d := 1) ⟨hx, hb, hml, hown, hts⟩ (c_X12_faults l E D G h0 hG0  ff cd TT p1 b1) wd_1607 wd_1609 wp_71 wd_13 wd_1610 (by decide +kernel) ⟨by rw [hR]; show 1 + 1 ≤ 30 + 3 * k; omega, by rw [hR]; show 8 + (1 + 11) + 40 * (1) ≤ 40 * (30 + 3 * k); omega⟩ hI hN hK hS hG0 (⟨hkf, hT, hz0, by omega, ⟨a2840, hf2841, hq2842, hA2843⟩, ⟨a2844, hf2845, hq2846, hA2847⟩, ⟨w2848, hg2849, by omega⟩, ⟨w2850, hg2851, by omega⟩, hg2852⟩) rfl hl.1 rfl (Nat.le_of_ble_eq_true rfl) dX12_readPlain_50 ⟨Nat.zero_le _, Nat.zero_le _⟩ (fun H locs hI hp hS => ?_)
              obtain ⟨bn3120, hb3121, hE⟩ := hp
              obtain ⟨hkf, hT, hz0, k3135, ⟨a3122, hf3123, hq3124, hA3125⟩, ⟨a3126, hf3127, hq3128, hA3129⟩, ⟨w3130, hg3131, k3136⟩, ⟨w3132, hg3133, k3137⟩, hg3134⟩ := hE
              refine lv_aload_n hx hb dX12_readPlain_53 rfl (lv_at hl 2 rfl) ?_
              refine mr_i (As := []) (rest := []) (n := 0) (d := 0) ⟨hx, hb, hml, hown, hts⟩ (c_X12_fine l E D G H h0 hG0  ff cd TT p1 bn3120 ⟨hkf, hT, hz0, by omega, ⟨a3122, hf3123, hq3124, hA3125⟩, ⟨a3126, hf3127, hq3128, hA3129⟩, ⟨w3130, hg3131, by omega⟩, ⟨w3132, hg3133, by omega⟩, hg3134⟩) wd_1591 wd_1593 wp_67 wd_13 wd_1594 (by decide +kernel) ⟨by rw [hR]; show 0 + 1 ≤ 30 + 3 * k; omega, by rw [hR]; show 8 + (1 + 11) + 40 * (0) ≤ 40 * (30 + 3 * k); omega⟩ hI hN hK hS hG0 rfl hl.1 rfl (Nat.le_of_ble_eq_true rfl) dX12_readPlain_54 ⟨Nat.zero_le _, Nat.zero_le _⟩ (fun r3138 locs hp hS => ?_)
              rcases hp with ⟨rfl, hp⟩ | ⟨rfl, hp⟩
              · skip
                try simp only [rg, not_and, Int.not_le] at hp
                have hp3139 := hp
                refine lv_if_ne (tgt := 61) hx hb dX12_readPlain_57 (by decide) (fun _ => ?_) (fun c => absurd c (by decide))
                have hlt9 : p1 < TT := rC_lt (cd := cd) (by omega)
                refine lv_aload_n hx hb dX12_readPlain_61 rfl (lv_at hl 2 rfl) ?_
                refine lv_dup hx hb dX12_readPlain_62 rfl ?_
                refine gmI hx hb hts inT12 hown hK hI List.not_mem_nil hG0 16 (by decide) (hts _ (tb_c wd_1249)) rfl rfl dX12_readPlain_63 (fun w3140 hg3141 k3142 k3143 => ?_)
                obtain rfl := gf.uniq (by decide) hg3133 hg3141
                refine lv_iconst (v := 1) hx hb dX12_readPlain_66 (by decide) ?_
                refine lv_iadd hx hb dX12_readPlain_67 ?_
                refine lv_topi (fun v3144 e3145 => ?_)
                have tv3144 : v3144.toInt = w3132.toInt + (1) := iv_add rfl (by decide) e3145 (by omega) (by omega)
                refine pmI (ty := .int) hx hb hts inT12 hown hK hI List.not_mem_nil hG0 hS ⟨_, hG0⟩ 16 (by decide) (hts _ (tb_c wd_1249)) rfl rfl (by decide +kernel) rfl rfl rfl (by omega) (by omega) dX12_readPlain_68 (fun H locs hI hgP hS => ?_)
                have hg3131 := hgP.2.2.1 15 _ (by decide) (by decide) hg3131
                have hg3134 := hgP.2.2.1 18 _ (by decide) (by decide) hg3134
                have hg3146 := hgP.2.1
                have hf3123 := hgP.2.2.2 3 _ (by decide) (by decide) hf3123
                have hf3127 := hgP.2.2.2 12 _ (by decide) (by decide) hf3127
                have hA3125 := va_at.kept hA3125 (hgP.1 _ (m_ne hq3124 hG0 (by first | decide | (dsimp only; decide))))
                have hA3129 := va_at.kept hA3129 (hgP.1 _ (m_ne hq3128 hG0 (by first | decide | (dsimp only; decide))))
                refine lv_aload_n hx hb dX12_readPlain_71 rfl (lv_at hl 2 rfl) ?_
                refine lv_iload_n hx hb dX12_readPlain_72 rfl (lv_at hl 3 rfl) ?_
                refine lv_iconst (v := 1) hx hb dX12_readPlain_73 (by decide) ?_
                refine lv_iadd hx hb dX12_readPlain_74 ?_
                refine lv_topi (fun v3147 e3148 => ?_)
                have tv3147 : v3147.toInt = x1.toInt + (1) := iv_add rfl (by decide) e3148 (by omega) (by omega)
                refine mx_v (As := [.int v3147]) (rest := []) (n := 1) (d := (32 + 3 * (k - 1))) ⟨hx, hb, hml, hown, hts⟩ (c_X12_readTest l E D G (k - 1) h0 hG0 v3147 ff cd TT (p1 + 1) bn3120 (dd + 1) (by first | decide | omega) (by omega) (by omega) (ih (k - 1) (by omega))) wd_1619 wd_1621 wp_74 wd_13 wd_1622 (by decide +kernel) ⟨by rw [hR]; show (32 + 3 * (k - 1)) + 1 ≤ 30 + 3 * k; omega, by rw [hR]; show 8 + (2 + 11) + 40 * ((32 + 3 * (k - 1))) ≤ 40 * (30 + 3 * k); omega⟩ hI hN hK hS hG0 (⟨hkf, hT, hz0, by omega, ⟨a3122, hf3123, hq3124, hA3125⟩, ⟨a3126, hf3127, hq3128, hA3129⟩, ⟨w3130, hg3131, by omega⟩, ⟨v3144, hg3146, by omega⟩, hg3134⟩) rfl hl.1 rfl (Nat.le_of_ble_eq_true rfl) dX12_readPlain_75 ⟨Nat.zero_le _, Nat.zero_le _⟩ (fun H locs hI hp hS => ?_)
                obtain ⟨pn3150, bn3151, hE, k3153, hi3152⟩ := hp
                obtain ⟨hkf, hT, hz0, k3167, ⟨a3154, hf3155, hq3156, hA3157⟩, ⟨a3158, hf3159, hq3160, hA3161⟩, ⟨w3162, hg3163, k3168⟩, ⟨w3164, hg3165, k3169⟩, hg3166⟩ := hE
                refine lv_aload_n hx hb dX12_readPlain_78 rfl (lv_at hl 2 rfl) ?_
                refine lv_bipush (v := 41) hx hb dX12_readPlain_79 (by decide) ?_
                refine th_cSs (As := [.int 41]) (rest := [.ref h0]) (n := 1) (d := 0) ⟨hx, hb, hml, hown, hts⟩ (c_X12_sign l H 41) wd_1495 wd_1496 wd_13 wd_1497 (by decide +kernel) ⟨by rw [hR]; show 0 + 1 ≤ 30 + 3 * k; omega, by rw [hR]; show 8 + (1 + 11) + 40 * (0) ≤ 40 * (30 + 3 * k); omega⟩ hN hS rfl hl.1 rfl (Nat.le_of_ble_eq_true rfl) dX12_readPlain_81 ⟨Nat.zero_le _, Nat.zero_le _⟩ (fun r3170 locs hp hS => ?_)
                obtain rfl : r3170 = 141 := hp.trans (by decide)
                refine mx_v (As := [.int 141]) (rest := []) (n := 1) (d := 2) ⟨hx, hb, hml, hown, hts⟩ (c_X12_must l E D G h0 hG0 141 ff cd TT pn3150 bn3151 (by first | decide | omega)) wd_1611 wd_1613 wp_72 wd_13 wd_1614 (by decide +kernel) ⟨by rw [hR]; show 2 + 1 ≤ 30 + 3 * k; omega, by rw [hR]; show 8 + (2 + 11) + 40 * (2) ≤ 40 * (30 + 3 * k); omega⟩ hI hN hK hS hG0 (⟨hkf, hT, hz0, by omega, ⟨a3154, hf3155, hq3156, hA3157⟩, ⟨a3158, hf3159, hq3160, hA3161⟩, ⟨w3162, hg3163, by omega⟩, ⟨w3164, hg3165, by omega⟩, hg3166⟩) rfl hl.1 rfl (Nat.le_of_ble_eq_true rfl) dX12_readPlain_84 ⟨Nat.zero_le _, Nat.zero_le _⟩ (fun H locs hI hp hS => ?_)
                obtain ⟨pn3172, bn3173, hE, k3175, hi3174⟩ := hp
                obtain ⟨hkf, hT, hz0, k3189, ⟨a3176, hf3177, hq3178, hA3179⟩, ⟨a3180, hf3181, hq3182, hA3183⟩, ⟨w3184, hg3185, k3190⟩, ⟨w3186, hg3187, k3191⟩, hg3188⟩ := hE
                rw [show (141 : Int32).toInt = 141 from by decide] at hi3174
                refine lv_goto (tgt := 133) hx hb dX12_readPlain_87 (by decide) ?_
                have hpost : ∃ (p2 : Nat) (b2 : Int32), RD E D G h0 ff cd TT p2 b2 H ∧ pp ≤ p2 ∧ (b2.toInt = -1 → bb.toInt = -1 ∧ Gr (rC cd TT) 3 dd pp p2) := ⟨pn3172, bn3173, ⟨hkf, hT, hz0, by omega, ⟨a3176, hf3177, hq3178, hA3179⟩, ⟨a3180, hf3181, hq3182, hA3183⟩, ⟨w3184, hg3185, by omega⟩, ⟨w3186, hg3187, by omega⟩, hg3188⟩, by omega, fun h => ⟨(hInv (by omega)).1, r3_br (hInv (by omega)).2 (by omega) (by omega) (hi3152 (hi3174 h).1).2 (hi3174 h).2.1 (hi3174 h).2.2⟩⟩
                rw [hQ]
                exact W.vret hx hb hr (fun t ht hW => ⟨⟨(), rfl, trivial, ⟨by rw [ht]; exact hI, hN.warm hW, va_K.moved hW.alike hK⟩, by first | (rw [ht]; exact hpost) | exact hpost⟩, hS.F ht⟩) hS.2.2 dX12_readPlain_133
              · skip
                try simp only [rg, not_and, Int.not_le] at hp
                have hp3192 := hp
                refine lv_if_ne (tgt := 61) hx hb dX12_readPlain_57 (by decide) (fun c => absurd c (by decide)) (fun _ => ?_)
                have hpost : ∃ (p2 : Nat) (b2 : Int32), RD E D G h0 ff cd TT p2 b2 H ∧ pp ≤ p2 ∧ (b2.toInt = -1 → bb.toInt = -1 ∧ Gr (rC cd TT) 3 dd pp p2) := ⟨p1, bn3120, ⟨hkf, hT, hz0, by omega, ⟨a3122, hf3123, hq3124, hA3125⟩, ⟨a3126, hf3127, hq3128, hA3129⟩, ⟨w3130, hg3131, by omega⟩, ⟨w3132, hg3133, by omega⟩, hg3134⟩, by omega, fun h => absurd h (by omega)⟩
                rw [hQ]
                exact W.vret hx hb hr (fun t ht hW => ⟨⟨(), rfl, trivial, ⟨by rw [ht]; exact hI, hN.warm hW, va_K.moved hW.alike hK⟩, by first | (rw [ht]; exact hpost) | exact hpost⟩, hS.F ht⟩) hS.2.2 dX12_readPlain_60
        · skip
          try simp only [rg, not_and, Int.not_le] at hp
          have hp3193 := hp
          refine lv_if_ne (tgt := 24) hx hb dX12_readPlain_20 (by decide) (fun c => absurd c (by decide)) (fun _ => ?_)
          have hpost : ∃ (p2 : Nat) (b2 : Int32), RD E D G h0 ff cd TT p2 b2 H ∧ pp ≤ p2 ∧ (b2.toInt = -1 → bb.toInt = -1 ∧ Gr (rC cd TT) 3 dd pp p2) := ⟨p1, b1, ⟨hkf, hT, hz0, by omega, ⟨a2840, hf2841, hq2842, hA2843⟩, ⟨a2844, hf2845, hq2846, hA2847⟩, ⟨w2848, hg2849, by omega⟩, ⟨w2850, hg2851, by omega⟩, hg2852⟩, by omega, fun h => absurd h (by omega)⟩
          rw [hQ]
          exact W.vret hx hb hr (fun t ht hW => ⟨⟨(), rfl, trivial, ⟨by rw [ht]; exact hI, hN.warm hW, va_K.moved hW.alike hK⟩, by first | (rw [ht]; exact hpost) | exact hpost⟩, hS.F ht⟩) hS.2.2 dX12_readPlain_23
      · skip
        have k3194 := iv_ne (X := v2837.toInt) (Y := (0)) rfl (by decide) c2856
        refine lv_aload_n hx hb dX12_readPlain_6 rfl (lv_at hl 1 rfl) ?_
        refine lv_bipush (v := 8) hx hb dX12_readPlain_7 (by decide) ?_
        refine mx_i (As := [.int 8]) (rest := []) (n := 1) (d := 1) ⟨hx, hb, hml, hown, hts⟩ (c_X12_takes0 l E D G h0 hG0 8 ff cd TT p1 b1 (by first | decide | omega)) wd_1587 wd_1589 wp_66 wd_13 wd_1590 (by decide +kernel) ⟨by rw [hR]; show 1 + 1 ≤ 30 + 3 * k; omega, by rw [hR]; show 8 + (3 + 11) + 40 * (1) ≤ 40 * (30 + 3 * k); omega⟩ hI hN hK hS hG0 (⟨hkf, hT, hz0, by omega, ⟨a2840, hf2841, hq2842, hA2843⟩, ⟨a2844, hf2845, hq2846, hA2847⟩, ⟨w2848, hg2849, by omega⟩, ⟨w2850, hg2851, by omega⟩, hg2852⟩) rfl hl.1 rfl (Nat.le_of_ble_eq_true rfl) dX12_readPlain_9 ⟨Nat.zero_le _, Nat.zero_le _⟩ (fun r3195 H locs hI hp hS => ?_)
        rcases hp with ⟨rfl, hp⟩ | ⟨rfl, hp⟩
        · skip
          try simp only [rg, not_and, Int.not_le] at hp
          have hp3196 := hp
          obtain ⟨hb3197, hc3198, k3199, hE⟩ := hp3196
          have hp3196 : True := trivial
          rw [show (8 : Int32).toInt = 8 from by decide] at hc3198
          obtain ⟨hkf, hT, hz0, k3213, ⟨a3200, hf3201, hq3202, hA3203⟩, ⟨a3204, hf3205, hq3206, hA3207⟩, ⟨w3208, hg3209, k3214⟩, ⟨w3210, hg3211, k3215⟩, hg3212⟩ := hE
          have hInv2 : b1.toInt = -1 → bb.toInt = -1 ∧ ∀ r, Gr (rC cd TT) 3 dd (p1 + 1) r → Gr (rC cd TT) 3 dd pp r := fun h => ⟨(hInv h).1, r3_m (hInv h).2 hc3198⟩
          try rw [show (8 : Int32).toInt = 8 from by decide] at hp3196
          refine lv_istore_n (lv' := [(2, .int 1), (0, .ref h0), (1, .int x1)]) hx hb dX12_readPlain_12 rfl hl (by decide) rfl (fun ls hl => ?_)
          refine lv_goto (tgt := 2) hx hb dX12_readPlain_13 (by decide) ?_
          have zl : (1 : Int32).toInt = 1 := by decide
          exact ih_2 _ (by omega) H locs ls 1 (p1 + 1) b1 rfl (lv_sub hl [0, 1, 2] rfl) ⟨by decide, by decide⟩ ⟨by omega, by omega⟩ (by omega) (by first | omega | exact Or.inl (by decide)) (hInv2) (⟨hkf, hT, hz0, by omega, ⟨a3200, hf3201, hq3202, hA3203⟩, ⟨a3204, hf3205, hq3206, hA3207⟩, ⟨w3208, hg3209, by omega⟩, ⟨w3210, hg3211, by omega⟩, hg3212⟩) hI hS
        · skip
          try simp only [rg, not_and, Int.not_le] at hp
          have hp3216 := hp
          obtain ⟨hc3217, hE⟩ := hp3216
          have hp3216 : True := trivial
          rw [show (8 : Int32).toInt = 8 from by decide] at hc3217
          obtain ⟨hkf, hT, hz0, k3231, ⟨a3218, hf3219, hq3220, hA3221⟩, ⟨a3222, hf3223, hq3224, hA3225⟩, ⟨w3226, hg3227, k3232⟩, ⟨w3228, hg3229, k3233⟩, hg3230⟩ := hE
          try rw [show (8 : Int32).toInt = 8 from by decide] at hp3216
          refine lv_istore_n (lv' := [(2, .int 0), (0, .ref h0), (1, .int x1)]) hx hb dX12_readPlain_12 rfl hl (by decide) rfl (fun ls hl => ?_)
          refine lv_goto (tgt := 2) hx hb dX12_readPlain_13 (by decide) ?_
          have zl : (0 : Int32).toInt = 0 := by decide
          exact ih_2 _ (by omega) H locs ls 0 p1 b1 rfl (lv_sub hl [0, 1, 2] rfl) ⟨by decide, by decide⟩ ⟨by omega, by omega⟩ (by omega) (by first | omega | exact Or.inl (by decide)) (hInv) (⟨hkf, hT, hz0, by omega, ⟨a3218, hf3219, hq3220, hA3221⟩, ⟨a3222, hf3223, hq3224, hA3225⟩, ⟨w3226, hg3227, by omega⟩, ⟨w3228, hg3229, by omega⟩, hg3230⟩) hI hS
  refine lv_iconst (v := 1) hx hb dX12_readPlain_0 (by decide) ?_
  refine lv_istore_n (lv' := [(2, .int 1), (0, .ref h0), (1, .int x1)]) hx hb dX12_readPlain_1 rfl hl (by decide) rfl (fun ls hl => ?_)
  have zl : (1 : Int32).toInt = 1 := by decide
  exact J_2 _ s.heap [] ls 1 pp bb rfl (lv_sub hl [0, 1, 2] rfl) ⟨by decide, by decide⟩ ⟨by omega, by omega⟩ (by omega) (by first | omega | exact Or.inl (by decide)) (hInv0) (⟨hkf, hT, hz0, by omega, ⟨a1, hf2, hq3, hA4⟩, ⟨a5, hf6, hq7, hA8⟩, ⟨w9, hg10, by omega⟩, ⟨w11, hg12, by omega⟩, hg13⟩) hI hS
theorem dX12_readClause_0g : (decode cX12_readClause 0 = .ok (.aload_n 0, 1)) ∧ (decode cX12_readClause 1 = .ok (.iconst 1, 1)) ∧ (decode cX12_readClause 2 = .ok (.invokevirtual 169, 3)) ∧ (decode cX12_readClause 5 = .ok (.ifCond .ne 19, 3)) ∧ (decode cX12_readClause 8 = .ok (.aload_n 0, 1)) ∧ (decode cX12_readClause 9 = .ok (.iconst 2, 1)) ∧ (decode cX12_readClause 10 = .ok (.invokevirtual 169, 3)) ∧ (decode cX12_readClause 13 = .ok (.ifCond .ne 11, 3)) ∧ (decode cX12_readClause 16 = .ok (.aload_n 0, 1)) ∧ (decode cX12_readClause 17 = .ok (.iconst 3, 1)) := by decide +kernel
theorem dX12_readClause_0 : decode cX12_readClause 0 = .ok (.aload_n 0, 1) := dX12_readClause_0g.1
theorem dX12_readClause_1 : decode cX12_readClause 1 = .ok (.iconst 1, 1) := dX12_readClause_0g.2.1
theorem dX12_readClause_2 : decode cX12_readClause 2 = .ok (.invokevirtual 169, 3) := dX12_readClause_0g.2.2.1
theorem dX12_readClause_5 : decode cX12_readClause 5 = .ok (.ifCond .ne 19, 3) := dX12_readClause_0g.2.2.2.1
theorem dX12_readClause_8 : decode cX12_readClause 8 = .ok (.aload_n 0, 1) := dX12_readClause_0g.2.2.2.2.1
theorem dX12_readClause_9 : decode cX12_readClause 9 = .ok (.iconst 2, 1) := dX12_readClause_0g.2.2.2.2.2.1
theorem dX12_readClause_10 : decode cX12_readClause 10 = .ok (.invokevirtual 169, 3) := dX12_readClause_0g.2.2.2.2.2.2.1
theorem dX12_readClause_13 : decode cX12_readClause 13 = .ok (.ifCond .ne 11, 3) := dX12_readClause_0g.2.2.2.2.2.2.2.1
theorem dX12_readClause_16 : decode cX12_readClause 16 = .ok (.aload_n 0, 1) := dX12_readClause_0g.2.2.2.2.2.2.2.2.1
theorem dX12_readClause_17 : decode cX12_readClause 17 = .ok (.iconst 3, 1) := dX12_readClause_0g.2.2.2.2.2.2.2.2.2
theorem dX12_readClause_18g : (decode cX12_readClause 18 = .ok (.invokevirtual 169, 3)) ∧ (decode cX12_readClause 21 = .ok (.ifCond .eq 11, 3)) ∧ (decode cX12_readClause 24 = .ok (.aload_n 0, 1)) ∧ (decode cX12_readClause 25 = .ok (.iconst 0, 1)) ∧ (decode cX12_readClause 26 = .ok (.invokevirtual 178, 3)) ∧ (decode cX12_readClause 29 = .ok (.goto 8, 3)) ∧ (decode cX12_readClause 32 = .ok (.aload_n 0, 1)) ∧ (decode cX12_readClause 33 = .ok (.iconst 4, 1)) ∧ (decode cX12_readClause 34 = .ok (.invokevirtual 182, 3)) ∧ (decode cX12_readClause 37 = .ok (.aload_n 0, 1)) := by decide +kernel
theorem dX12_readClause_18 : decode cX12_readClause 18 = .ok (.invokevirtual 169, 3) := dX12_readClause_18g.1
theorem dX12_readClause_21 : decode cX12_readClause 21 = .ok (.ifCond .eq 11, 3) := dX12_readClause_18g.2.1
theorem dX12_readClause_24 : decode cX12_readClause 24 = .ok (.aload_n 0, 1) := dX12_readClause_18g.2.2.1
theorem dX12_readClause_25 : decode cX12_readClause 25 = .ok (.iconst 0, 1) := dX12_readClause_18g.2.2.2.1
theorem dX12_readClause_26 : decode cX12_readClause 26 = .ok (.invokevirtual 178, 3) := dX12_readClause_18g.2.2.2.2.1
theorem dX12_readClause_29 : decode cX12_readClause 29 = .ok (.goto 8, 3) := dX12_readClause_18g.2.2.2.2.2.1
theorem dX12_readClause_32 : decode cX12_readClause 32 = .ok (.aload_n 0, 1) := dX12_readClause_18g.2.2.2.2.2.2.1
theorem dX12_readClause_33 : decode cX12_readClause 33 = .ok (.iconst 4, 1) := dX12_readClause_18g.2.2.2.2.2.2.2.1
theorem dX12_readClause_34 : decode cX12_readClause 34 = .ok (.invokevirtual 182, 3) := dX12_readClause_18g.2.2.2.2.2.2.2.2.1
theorem dX12_readClause_37 : decode cX12_readClause 37 = .ok (.aload_n 0, 1) := dX12_readClause_18g.2.2.2.2.2.2.2.2.2
theorem dX12_readClause_38g : (decode cX12_readClause 38 = .ok (.iconst 5, 1)) ∧ (decode cX12_readClause 39 = .ok (.invokevirtual 169, 3)) ∧ (decode cX12_readClause 42 = .ok (.ifCond .eq 8, 3)) ∧ (decode cX12_readClause 45 = .ok (.aload_n 0, 1)) ∧ (decode cX12_readClause 46 = .ok (.iconst 0, 1)) ∧ (decode cX12_readClause 47 = .ok (.invokevirtual 185, 3)) ∧ (decode cX12_readClause 50 = .ok (.return_, 1)) := by decide +kernel
theorem dX12_readClause_38 : decode cX12_readClause 38 = .ok (.iconst 5, 1) := dX12_readClause_38g.1
theorem dX12_readClause_39 : decode cX12_readClause 39 = .ok (.invokevirtual 169, 3) := dX12_readClause_38g.2.1
theorem dX12_readClause_42 : decode cX12_readClause 42 = .ok (.ifCond .eq 8, 3) := dX12_readClause_38g.2.2.1
theorem dX12_readClause_45 : decode cX12_readClause 45 = .ok (.aload_n 0, 1) := dX12_readClause_38g.2.2.2.1
theorem dX12_readClause_46 : decode cX12_readClause 46 = .ok (.iconst 0, 1) := dX12_readClause_38g.2.2.2.2.1
theorem dX12_readClause_47 : decode cX12_readClause 47 = .ok (.invokevirtual 185, 3) := dX12_readClause_38g.2.2.2.2.2.1
theorem dX12_readClause_50 : decode cX12_readClause 50 = .ok (.return_, 1) := dX12_readClause_38g.2.2.2.2.2.2
set_option maxHeartbeats 4000000 in
set_option maxRecDepth 100000 in
theorem c_X12_readClause (l : Launch) (E : Nat → Nat) (D : va_G) (G : th_G) (h0 : Nat) (hG0 : G h0 = some (10, 0)) (ff cd : Nat → Int32) (TT pp : Nat) (bb : Int32) : Met l yX12_readClause (tb (.code yX12_readClause cX12_readClause 1 none)) (rm 57) (va_Pc [.ref h0] (PX E D G (fun H => RD E D G h0 ff cd TT pp bb H))) (QXv E D G (fun H => ∃ (p2 : Nat) (b2 : Int32), RD E D G h0 ff cd TT p2 b2 H ∧ pp ≤ p2 ∧ (b2.toInt = -1 → bb.toInt = -1 ∧ g_cl (rC cd TT) pp p2))) 0 0 (th_A G) := by
  refine Met.ofW (cc := cX12_readClause) (maxL := 1) (ret := none) (by decide) rfl ?_
  intro p e s m args below meth c s₁ B hml hv
  obtain ⟨hav, ⟨hI, hN, hK⟩, hX⟩ := hv
  have hx := B.exec
  have hb := B.bytes
  have hr := B.returns
  have hts := atoms_spec (ws := tb (.code yX12_readClause cX12_readClause 1 none)) B.pre
  have hown : s.vm.findClass RX12 = some m.cls := findClass_of_methodNamed B.named
  have hlocks := B.notSynchronized
  have hS : va_S (th_A G) s.heap s.heap [] := va_S.rf
  have hl := lv_entry ([.ref h0]) (n := 1) (Nat.le_of_ble_eq_true rfl)
  rw [show entryFrame m args 1 = entryFrame m ([.ref h0] : List Value).toArray 1 from by rw [hav], lg_entry_eq]
  generalize (lg_sl ([.ref h0]) ++ List.replicate (1 - (lg_sl ([.ref h0])).length) Slot.unset).toArray = ls at hl ⊢
  have hl : lv_has ls 1 [(0, .ref h0)] := hl
  generalize hR : (headSpec (tb (.code yX12_readClause cX12_readClause 1 none)) (rm 57)).room = R
  have hR := hR.symm
  generalize hQ : MQ below (QXv E D G (fun H => ∃ (p2 : Nat) (b2 : Int32), RD E D G h0 ff cd TT p2 b2 H ∧ pp ≤ p2 ∧ (b2.toInt = -1 → bb.toInt = -1 ∧ g_cl (rC cd TT) pp p2))) args s 0 0 (th_A G) = QF
  have hQ := hQ.symm
  obtain ⟨hkf, hT, hz0, k14, ⟨a1, hf2, hq3, hA4⟩, ⟨a5, hf6, hq7, hA8⟩, ⟨w9, hg10, k15⟩, ⟨w11, hg12, k16⟩, hg13⟩ := hX
  refine lv_aload_n hx hb dX12_readClause_0 rfl (lv_at hl 0 rfl) ?_
  refine lv_iconst (v := 1) hx hb dX12_readClause_1 (by decide) ?_
  refine mx_i (As := [.int 1]) (rest := []) (n := 1) (d := 1) ⟨hx, hb, hml, hown, hts⟩ (c_X12_takes0 l E D G h0 hG0 1 ff cd TT pp bb (by first | decide | omega)) wd_1587 wd_1589 wp_66 wd_13 wd_1590 (by decide +kernel) ⟨by rw [hR]; exact Nat.le_of_ble_eq_true rfl, by rw [hR]; exact Nat.le_of_ble_eq_true rfl⟩ hI hN hK hS hG0 (⟨hkf, hT, hz0, by omega, ⟨a1, hf2, hq3, hA4⟩, ⟨a5, hf6, hq7, hA8⟩, ⟨w9, hg10, by omega⟩, ⟨w11, hg12, by omega⟩, hg13⟩) rfl hl.1 rfl (Nat.le_of_ble_eq_true rfl) dX12_readClause_2 ⟨Nat.zero_le _, Nat.zero_le _⟩ (fun r17 H locs hI hp hS => ?_)
  rcases hp with ⟨rfl, hp⟩ | ⟨rfl, hp⟩
  · skip
    try simp only [rg, not_and, Int.not_le] at hp
    have hp18 := hp
    obtain ⟨hb19, hc20, k21, hE⟩ := hp18
    have hp18 : True := trivial
    rw [show (1 : Int32).toInt = 1 from by decide] at hc20
    obtain ⟨hkf, hT, hz0, k35, ⟨a22, hf23, hq24, hA25⟩, ⟨a26, hf27, hq28, hA29⟩, ⟨w30, hg31, k36⟩, ⟨w32, hg33, k37⟩, hg34⟩ := hE
    try rw [show (1 : Int32).toInt = 1 from by decide] at hp18
    refine lv_if_ne (tgt := 24) hx hb dX12_readClause_5 (by decide) (fun _ => ?_) (fun c => absurd c (by decide))
    refine lv_aload_n hx hb dX12_readClause_24 rfl (lv_at hl 0 rfl) ?_
    refine lv_iconst (v := 0) hx hb dX12_readClause_25 (by decide) ?_
    refine mx_v (As := [.int 0]) (rest := []) (n := 1) (d := 29) ⟨hx, hb, hml, hown, hts⟩ (c_X12_readSum l E D G 8 h0 hG0 0 ff cd TT (pp + 1) bb 0 (by first | decide | omega) (by omega) (by omega) (c_X12_readPart l E D G 8)) wd_1595 wd_1597 wp_68 wd_13 wd_1598 (by decide +kernel) ⟨by rw [hR]; exact Nat.le_of_ble_eq_true rfl, by rw [hR]; exact Nat.le_of_ble_eq_true rfl⟩ hI hN hK hS hG0 (⟨hkf, hT, hz0, by omega, ⟨a22, hf23, hq24, hA25⟩, ⟨a26, hf27, hq28, hA29⟩, ⟨w30, hg31, by omega⟩, ⟨w32, hg33, by omega⟩, hg34⟩) rfl hl.1 rfl (Nat.le_of_ble_eq_true rfl) dX12_readClause_26 ⟨Nat.zero_le _, Nat.zero_le _⟩ (fun H locs hI hp hS => ?_)
    obtain ⟨pn39, bn40, hE, k42, hi41⟩ := hp
    obtain ⟨hkf, hT, hz0, k56, ⟨a43, hf44, hq45, hA46⟩, ⟨a47, hf48, hq49, hA50⟩, ⟨w51, hg52, k57⟩, ⟨w53, hg54, k58⟩, hg55⟩ := hE
    refine lv_goto (tgt := 37) hx hb dX12_readClause_29 (by decide) ?_
    refine lv_aload_n hx hb dX12_readClause_37 rfl (lv_at hl 0 rfl) ?_
    refine lv_iconst (v := 5) hx hb dX12_readClause_38 (by decide) ?_
    refine mx_i (As := [.int 5]) (rest := []) (n := 1) (d := 1) ⟨hx, hb, hml, hown, hts⟩ (c_X12_takes0 l E D G h0 hG0 5 ff cd TT pn39 bn40 (by first | decide | omega)) wd_1587 wd_1589 wp_66 wd_13 wd_1590 (by decide +kernel) ⟨by rw [hR]; exact Nat.le_of_ble_eq_true rfl, by rw [hR]; exact Nat.le_of_ble_eq_true rfl⟩ hI hN hK hS hG0 (⟨hkf, hT, hz0, by omega, ⟨a43, hf44, hq45, hA46⟩, ⟨a47, hf48, hq49, hA50⟩, ⟨w51, hg52, by omega⟩, ⟨w53, hg54, by omega⟩, hg55⟩) rfl hl.1 rfl (Nat.le_of_ble_eq_true rfl) dX12_readClause_39 ⟨Nat.zero_le _, Nat.zero_le _⟩ (fun r59 H locs hI hp hS => ?_)
    rcases hp with ⟨rfl, hp⟩ | ⟨rfl, hp⟩
    · skip
      try simp only [rg, not_and, Int.not_le] at hp
      have hp60 := hp
      obtain ⟨hb61, hc62, k63, hE⟩ := hp60
      have hp60 : True := trivial
      rw [show (5 : Int32).toInt = 5 from by decide] at hc62
      obtain ⟨hkf, hT, hz0, k77, ⟨a64, hf65, hq66, hA67⟩, ⟨a68, hf69, hq70, hA71⟩, ⟨w72, hg73, k78⟩, ⟨w74, hg75, k79⟩, hg76⟩ := hE
      try rw [show (5 : Int32).toInt = 5 from by decide] at hp60
      refine lv_if_eq (tgt := 50) hx hb dX12_readClause_42 (by decide) (fun c => absurd c (by decide)) (fun _ => ?_)
      refine lv_aload_n hx hb dX12_readClause_45 rfl (lv_at hl 0 rfl) ?_
      refine lv_iconst (v := 0) hx hb dX12_readClause_46 (by decide) ?_
      refine mx_v (As := [.int 0]) (rest := []) (n := 1) (d := 56) ⟨hx, hb, hml, hown, hts⟩ (c_X12_readTest l E D G 8 h0 hG0 0 ff cd TT (pn39 + 1) bn40 0 (by first | decide | omega) (by omega) (by omega) (c_X12_readPlain l E D G 8)) wd_1619 wd_1621 wp_74 wd_13 wd_1622 (by decide +kernel) ⟨by rw [hR]; exact Nat.le_of_ble_eq_true rfl, by rw [hR]; exact Nat.le_of_ble_eq_true rfl⟩ hI hN hK hS hG0 (⟨hkf, hT, hz0, by omega, ⟨a64, hf65, hq66, hA67⟩, ⟨a68, hf69, hq70, hA71⟩, ⟨w72, hg73, by omega⟩, ⟨w74, hg75, by omega⟩, hg76⟩) rfl hl.1 rfl (Nat.le_of_ble_eq_true rfl) dX12_readClause_47 ⟨Nat.zero_le _, Nat.zero_le _⟩ (fun H locs hI hp hS => ?_)
      obtain ⟨pn81, bn82, hE, k84, hi83⟩ := hp
      obtain ⟨hkf, hT, hz0, k98, ⟨a85, hf86, hq87, hA88⟩, ⟨a89, hf90, hq91, hA92⟩, ⟨w93, hg94, k99⟩, ⟨w95, hg96, k100⟩, hg97⟩ := hE
      have hpost : ∃ (p2 : Nat) (b2 : Int32), RD E D G h0 ff cd TT p2 b2 H ∧ pp ≤ p2 ∧ (b2.toInt = -1 → bb.toInt = -1 ∧ g_cl (rC cd TT) pp p2) := by
          refine ⟨pn81, bn82, ⟨hkf, hT, hz0, by omega, ⟨a85, hf86, hq87, hA88⟩, ⟨a89, hf90, hq91, hA92⟩, ⟨w93, hg94, by omega⟩, ⟨w95, hg96, by omega⟩, hg97⟩, by omega, ?_⟩
          intro h
          obtain ⟨hz1, hz2⟩ := hi83 h
          obtain ⟨ha1, ha2⟩ := hi41 hb61
          exact ⟨ha1, cl_1 (by omega) ha2 (Or.inr ⟨hc62, hz2⟩)⟩
      rw [hQ]
      exact W.vret hx hb hr (fun t ht hW => ⟨⟨(), rfl, trivial, ⟨by rw [ht]; exact hI, hN.warm hW, va_K.moved hW.alike hK⟩, by first | (rw [ht]; exact hpost) | exact hpost⟩, hS.F ht⟩) hS.2.2 dX12_readClause_50
    · skip
      try simp only [rg, not_and, Int.not_le] at hp
      have hp101 := hp
      obtain ⟨hc102, hE⟩ := hp101
      have hp101 : True := trivial
      rw [show (5 : Int32).toInt = 5 from by decide] at hc102
      obtain ⟨hkf, hT, hz0, k116, ⟨a103, hf104, hq105, hA106⟩, ⟨a107, hf108, hq109, hA110⟩, ⟨w111, hg112, k117⟩, ⟨w113, hg114, k118⟩, hg115⟩ := hE
      try rw [show (5 : Int32).toInt = 5 from by decide] at hp101
      refine lv_if_eq (tgt := 50) hx hb dX12_readClause_42 (by decide) (fun _ => ?_) (fun c => absurd c (by decide))
      have hpost : ∃ (p2 : Nat) (b2 : Int32), RD E D G h0 ff cd TT p2 b2 H ∧ pp ≤ p2 ∧ (b2.toInt = -1 → bb.toInt = -1 ∧ g_cl (rC cd TT) pp p2) := by
          refine ⟨pn39, bn40, ⟨hkf, hT, hz0, by omega, ⟨a103, hf104, hq105, hA106⟩, ⟨a107, hf108, hq109, hA110⟩, ⟨w111, hg112, by omega⟩, ⟨w113, hg114, by omega⟩, hg115⟩, by omega, ?_⟩
          intro h
          obtain ⟨ha1, ha2⟩ := hi41 h
          exact ⟨ha1, cl_1 (by omega) ha2 (Or.inl ⟨by omega, rfl⟩)⟩
      rw [hQ]
      exact W.vret hx hb hr (fun t ht hW => ⟨⟨(), rfl, trivial, ⟨by rw [ht]; exact hI, hN.warm hW, va_K.moved hW.alike hK⟩, by first | (rw [ht]; exact hpost) | exact hpost⟩, hS.F ht⟩) hS.2.2 dX12_readClause_50
  · skip
    try simp only [rg, not_and, Int.not_le] at hp
    have hp119 := hp
    obtain ⟨hc120, hE⟩ := hp119
    have hp119 : True := trivial
    rw [show (1 : Int32).toInt = 1 from by decide] at hc120
    obtain ⟨hkf, hT, hz0, k134, ⟨a121, hf122, hq123, hA124⟩, ⟨a125, hf126, hq127, hA128⟩, ⟨w129, hg130, k135⟩, ⟨w131, hg132, k136⟩, hg133⟩ := hE
    try rw [show (1 : Int32).toInt = 1 from by decide] at hp119
    refine lv_if_ne (tgt := 24) hx hb dX12_readClause_5 (by decide) (fun c => absurd c (by decide)) (fun _ => ?_)
    refine lv_aload_n hx hb dX12_readClause_8 rfl (lv_at hl 0 rfl) ?_
    refine lv_iconst (v := 2) hx hb dX12_readClause_9 (by decide) ?_
    refine mx_i (As := [.int 2]) (rest := []) (n := 1) (d := 1) ⟨hx, hb, hml, hown, hts⟩ (c_X12_takes0 l E D G h0 hG0 2 ff cd TT pp bb (by first | decide | omega)) wd_1587 wd_1589 wp_66 wd_13 wd_1590 (by decide +kernel) ⟨by rw [hR]; exact Nat.le_of_ble_eq_true rfl, by rw [hR]; exact Nat.le_of_ble_eq_true rfl⟩ hI hN hK hS hG0 (⟨hkf, hT, hz0, by omega, ⟨a121, hf122, hq123, hA124⟩, ⟨a125, hf126, hq127, hA128⟩, ⟨w129, hg130, by omega⟩, ⟨w131, hg132, by omega⟩, hg133⟩) rfl hl.1 rfl (Nat.le_of_ble_eq_true rfl) dX12_readClause_10 ⟨Nat.zero_le _, Nat.zero_le _⟩ (fun r137 H locs hI hp hS => ?_)
    rcases hp with ⟨rfl, hp⟩ | ⟨rfl, hp⟩
    · skip
      try simp only [rg, not_and, Int.not_le] at hp
      have hp138 := hp
      obtain ⟨hb139, hc140, k141, hE⟩ := hp138
      have hp138 : True := trivial
      rw [show (2 : Int32).toInt = 2 from by decide] at hc140
      obtain ⟨hkf, hT, hz0, k155, ⟨a142, hf143, hq144, hA145⟩, ⟨a146, hf147, hq148, hA149⟩, ⟨w150, hg151, k156⟩, ⟨w152, hg153, k157⟩, hg154⟩ := hE
      try rw [show (2 : Int32).toInt = 2 from by decide] at hp138
      refine lv_if_ne (tgt := 24) hx hb dX12_readClause_13 (by decide) (fun _ => ?_) (fun c => absurd c (by decide))
      refine lv_aload_n hx hb dX12_readClause_24 rfl (lv_at hl 0 rfl) ?_
      refine lv_iconst (v := 0) hx hb dX12_readClause_25 (by decide) ?_
      refine mx_v (As := [.int 0]) (rest := []) (n := 1) (d := 29) ⟨hx, hb, hml, hown, hts⟩ (c_X12_readSum l E D G 8 h0 hG0 0 ff cd TT (pp + 1) bb 0 (by first | decide | omega) (by omega) (by omega) (c_X12_readPart l E D G 8)) wd_1595 wd_1597 wp_68 wd_13 wd_1598 (by decide +kernel) ⟨by rw [hR]; exact Nat.le_of_ble_eq_true rfl, by rw [hR]; exact Nat.le_of_ble_eq_true rfl⟩ hI hN hK hS hG0 (⟨hkf, hT, hz0, by omega, ⟨a142, hf143, hq144, hA145⟩, ⟨a146, hf147, hq148, hA149⟩, ⟨w150, hg151, by omega⟩, ⟨w152, hg153, by omega⟩, hg154⟩) rfl hl.1 rfl (Nat.le_of_ble_eq_true rfl) dX12_readClause_26 ⟨Nat.zero_le _, Nat.zero_le _⟩ (fun H locs hI hp hS => ?_)
      obtain ⟨pn159, bn160, hE, k162, hi161⟩ := hp
      obtain ⟨hkf, hT, hz0, k176, ⟨a163, hf164, hq165, hA166⟩, ⟨a167, hf168, hq169, hA170⟩, ⟨w171, hg172, k177⟩, ⟨w173, hg174, k178⟩, hg175⟩ := hE
      refine lv_goto (tgt := 37) hx hb dX12_readClause_29 (by decide) ?_
      refine lv_aload_n hx hb dX12_readClause_37 rfl (lv_at hl 0 rfl) ?_
      refine lv_iconst (v := 5) hx hb dX12_readClause_38 (by decide) ?_
      refine mx_i (As := [.int 5]) (rest := []) (n := 1) (d := 1) ⟨hx, hb, hml, hown, hts⟩ (c_X12_takes0 l E D G h0 hG0 5 ff cd TT pn159 bn160 (by first | decide | omega)) wd_1587 wd_1589 wp_66 wd_13 wd_1590 (by decide +kernel) ⟨by rw [hR]; exact Nat.le_of_ble_eq_true rfl, by rw [hR]; exact Nat.le_of_ble_eq_true rfl⟩ hI hN hK hS hG0 (⟨hkf, hT, hz0, by omega, ⟨a163, hf164, hq165, hA166⟩, ⟨a167, hf168, hq169, hA170⟩, ⟨w171, hg172, by omega⟩, ⟨w173, hg174, by omega⟩, hg175⟩) rfl hl.1 rfl (Nat.le_of_ble_eq_true rfl) dX12_readClause_39 ⟨Nat.zero_le _, Nat.zero_le _⟩ (fun r179 H locs hI hp hS => ?_)
      rcases hp with ⟨rfl, hp⟩ | ⟨rfl, hp⟩
      · skip
        try simp only [rg, not_and, Int.not_le] at hp
        have hp180 := hp
        obtain ⟨hb181, hc182, k183, hE⟩ := hp180
        have hp180 : True := trivial
        rw [show (5 : Int32).toInt = 5 from by decide] at hc182
        obtain ⟨hkf, hT, hz0, k197, ⟨a184, hf185, hq186, hA187⟩, ⟨a188, hf189, hq190, hA191⟩, ⟨w192, hg193, k198⟩, ⟨w194, hg195, k199⟩, hg196⟩ := hE
        try rw [show (5 : Int32).toInt = 5 from by decide] at hp180
        refine lv_if_eq (tgt := 50) hx hb dX12_readClause_42 (by decide) (fun c => absurd c (by decide)) (fun _ => ?_)
        refine lv_aload_n hx hb dX12_readClause_45 rfl (lv_at hl 0 rfl) ?_
        refine lv_iconst (v := 0) hx hb dX12_readClause_46 (by decide) ?_
        refine mx_v (As := [.int 0]) (rest := []) (n := 1) (d := 56) ⟨hx, hb, hml, hown, hts⟩ (c_X12_readTest l E D G 8 h0 hG0 0 ff cd TT (pn159 + 1) bn160 0 (by first | decide | omega) (by omega) (by omega) (c_X12_readPlain l E D G 8)) wd_1619 wd_1621 wp_74 wd_13 wd_1622 (by decide +kernel) ⟨by rw [hR]; exact Nat.le_of_ble_eq_true rfl, by rw [hR]; exact Nat.le_of_ble_eq_true rfl⟩ hI hN hK hS hG0 (⟨hkf, hT, hz0, by omega, ⟨a184, hf185, hq186, hA187⟩, ⟨a188, hf189, hq190, hA191⟩, ⟨w192, hg193, by omega⟩, ⟨w194, hg195, by omega⟩, hg196⟩) rfl hl.1 rfl (Nat.le_of_ble_eq_true rfl) dX12_readClause_47 ⟨Nat.zero_le _, Nat.zero_le _⟩ (fun H locs hI hp hS => ?_)
        obtain ⟨pn201, bn202, hE, k204, hi203⟩ := hp
        obtain ⟨hkf, hT, hz0, k218, ⟨a205, hf206, hq207, hA208⟩, ⟨a209, hf210, hq211, hA212⟩, ⟨w213, hg214, k219⟩, ⟨w215, hg216, k220⟩, hg217⟩ := hE
        have hpost : ∃ (p2 : Nat) (b2 : Int32), RD E D G h0 ff cd TT p2 b2 H ∧ pp ≤ p2 ∧ (b2.toInt = -1 → bb.toInt = -1 ∧ g_cl (rC cd TT) pp p2) := by
            refine ⟨pn201, bn202, ⟨hkf, hT, hz0, by omega, ⟨a205, hf206, hq207, hA208⟩, ⟨a209, hf210, hq211, hA212⟩, ⟨w213, hg214, by omega⟩, ⟨w215, hg216, by omega⟩, hg217⟩, by omega, ?_⟩
            intro h
            obtain ⟨hz1, hz2⟩ := hi203 h
            obtain ⟨ha1, ha2⟩ := hi161 hb181
            exact ⟨ha1, cl_1 (by omega) ha2 (Or.inr ⟨hc182, hz2⟩)⟩
        rw [hQ]
        exact W.vret hx hb hr (fun t ht hW => ⟨⟨(), rfl, trivial, ⟨by rw [ht]; exact hI, hN.warm hW, va_K.moved hW.alike hK⟩, by first | (rw [ht]; exact hpost) | exact hpost⟩, hS.F ht⟩) hS.2.2 dX12_readClause_50
      · skip
        try simp only [rg, not_and, Int.not_le] at hp
        have hp221 := hp
        obtain ⟨hc222, hE⟩ := hp221
        have hp221 : True := trivial
        rw [show (5 : Int32).toInt = 5 from by decide] at hc222
        obtain ⟨hkf, hT, hz0, k236, ⟨a223, hf224, hq225, hA226⟩, ⟨a227, hf228, hq229, hA230⟩, ⟨w231, hg232, k237⟩, ⟨w233, hg234, k238⟩, hg235⟩ := hE
        try rw [show (5 : Int32).toInt = 5 from by decide] at hp221
        refine lv_if_eq (tgt := 50) hx hb dX12_readClause_42 (by decide) (fun _ => ?_) (fun c => absurd c (by decide))
        have hpost : ∃ (p2 : Nat) (b2 : Int32), RD E D G h0 ff cd TT p2 b2 H ∧ pp ≤ p2 ∧ (b2.toInt = -1 → bb.toInt = -1 ∧ g_cl (rC cd TT) pp p2) := by
            refine ⟨pn159, bn160, ⟨hkf, hT, hz0, by omega, ⟨a223, hf224, hq225, hA226⟩, ⟨a227, hf228, hq229, hA230⟩, ⟨w231, hg232, by omega⟩, ⟨w233, hg234, by omega⟩, hg235⟩, by omega, ?_⟩
            intro h
            obtain ⟨ha1, ha2⟩ := hi161 h
            exact ⟨ha1, cl_1 (by omega) ha2 (Or.inl ⟨by omega, rfl⟩)⟩
        rw [hQ]
        exact W.vret hx hb hr (fun t ht hW => ⟨⟨(), rfl, trivial, ⟨by rw [ht]; exact hI, hN.warm hW, va_K.moved hW.alike hK⟩, by first | (rw [ht]; exact hpost) | exact hpost⟩, hS.F ht⟩) hS.2.2 dX12_readClause_50
    · skip
      try simp only [rg, not_and, Int.not_le] at hp
      have hp239 := hp
      obtain ⟨hc240, hE⟩ := hp239
      have hp239 : True := trivial
      rw [show (2 : Int32).toInt = 2 from by decide] at hc240
      obtain ⟨hkf, hT, hz0, k254, ⟨a241, hf242, hq243, hA244⟩, ⟨a245, hf246, hq247, hA248⟩, ⟨w249, hg250, k255⟩, ⟨w251, hg252, k256⟩, hg253⟩ := hE
      try rw [show (2 : Int32).toInt = 2 from by decide] at hp239
      refine lv_if_ne (tgt := 24) hx hb dX12_readClause_13 (by decide) (fun c => absurd c (by decide)) (fun _ => ?_)
      refine lv_aload_n hx hb dX12_readClause_16 rfl (lv_at hl 0 rfl) ?_
      refine lv_iconst (v := 3) hx hb dX12_readClause_17 (by decide) ?_
      refine mx_i (As := [.int 3]) (rest := []) (n := 1) (d := 1) ⟨hx, hb, hml, hown, hts⟩ (c_X12_takes0 l E D G h0 hG0 3 ff cd TT pp bb (by first | decide | omega)) wd_1587 wd_1589 wp_66 wd_13 wd_1590 (by decide +kernel) ⟨by rw [hR]; exact Nat.le_of_ble_eq_true rfl, by rw [hR]; exact Nat.le_of_ble_eq_true rfl⟩ hI hN hK hS hG0 (⟨hkf, hT, hz0, by omega, ⟨a241, hf242, hq243, hA244⟩, ⟨a245, hf246, hq247, hA248⟩, ⟨w249, hg250, by omega⟩, ⟨w251, hg252, by omega⟩, hg253⟩) rfl hl.1 rfl (Nat.le_of_ble_eq_true rfl) dX12_readClause_18 ⟨Nat.zero_le _, Nat.zero_le _⟩ (fun r257 H locs hI hp hS => ?_)
      rcases hp with ⟨rfl, hp⟩ | ⟨rfl, hp⟩
      · skip
        try simp only [rg, not_and, Int.not_le] at hp
        have hp258 := hp
        obtain ⟨hb259, hc260, k261, hE⟩ := hp258
        have hp258 : True := trivial
        rw [show (3 : Int32).toInt = 3 from by decide] at hc260
        obtain ⟨hkf, hT, hz0, k275, ⟨a262, hf263, hq264, hA265⟩, ⟨a266, hf267, hq268, hA269⟩, ⟨w270, hg271, k276⟩, ⟨w272, hg273, k277⟩, hg274⟩ := hE
        try rw [show (3 : Int32).toInt = 3 from by decide] at hp258
        refine lv_if_eq (tgt := 32) hx hb dX12_readClause_21 (by decide) (fun c => absurd c (by decide)) (fun _ => ?_)
        refine lv_aload_n hx hb dX12_readClause_24 rfl (lv_at hl 0 rfl) ?_
        refine lv_iconst (v := 0) hx hb dX12_readClause_25 (by decide) ?_
        refine mx_v (As := [.int 0]) (rest := []) (n := 1) (d := 29) ⟨hx, hb, hml, hown, hts⟩ (c_X12_readSum l E D G 8 h0 hG0 0 ff cd TT (pp + 1) bb 0 (by first | decide | omega) (by omega) (by omega) (c_X12_readPart l E D G 8)) wd_1595 wd_1597 wp_68 wd_13 wd_1598 (by decide +kernel) ⟨by rw [hR]; exact Nat.le_of_ble_eq_true rfl, by rw [hR]; exact Nat.le_of_ble_eq_true rfl⟩ hI hN hK hS hG0 (⟨hkf, hT, hz0, by omega, ⟨a262, hf263, hq264, hA265⟩, ⟨a266, hf267, hq268, hA269⟩, ⟨w270, hg271, by omega⟩, ⟨w272, hg273, by omega⟩, hg274⟩) rfl hl.1 rfl (Nat.le_of_ble_eq_true rfl) dX12_readClause_26 ⟨Nat.zero_le _, Nat.zero_le _⟩ (fun H locs hI hp hS => ?_)
        obtain ⟨pn279, bn280, hE, k282, hi281⟩ := hp
        obtain ⟨hkf, hT, hz0, k296, ⟨a283, hf284, hq285, hA286⟩, ⟨a287, hf288, hq289, hA290⟩, ⟨w291, hg292, k297⟩, ⟨w293, hg294, k298⟩, hg295⟩ := hE
        refine lv_goto (tgt := 37) hx hb dX12_readClause_29 (by decide) ?_
        refine lv_aload_n hx hb dX12_readClause_37 rfl (lv_at hl 0 rfl) ?_
        refine lv_iconst (v := 5) hx hb dX12_readClause_38 (by decide) ?_
        refine mx_i (As := [.int 5]) (rest := []) (n := 1) (d := 1) ⟨hx, hb, hml, hown, hts⟩ (c_X12_takes0 l E D G h0 hG0 5 ff cd TT pn279 bn280 (by first | decide | omega)) wd_1587 wd_1589 wp_66 wd_13 wd_1590 (by decide +kernel) ⟨by rw [hR]; exact Nat.le_of_ble_eq_true rfl, by rw [hR]; exact Nat.le_of_ble_eq_true rfl⟩ hI hN hK hS hG0 (⟨hkf, hT, hz0, by omega, ⟨a283, hf284, hq285, hA286⟩, ⟨a287, hf288, hq289, hA290⟩, ⟨w291, hg292, by omega⟩, ⟨w293, hg294, by omega⟩, hg295⟩) rfl hl.1 rfl (Nat.le_of_ble_eq_true rfl) dX12_readClause_39 ⟨Nat.zero_le _, Nat.zero_le _⟩ (fun r299 H locs hI hp hS => ?_)
        rcases hp with ⟨rfl, hp⟩ | ⟨rfl, hp⟩
        · skip
          try simp only [rg, not_and, Int.not_le] at hp
          have hp300 := hp
          obtain ⟨hb301, hc302, k303, hE⟩ := hp300
          have hp300 : True := trivial
          rw [show (5 : Int32).toInt = 5 from by decide] at hc302
          obtain ⟨hkf, hT, hz0, k317, ⟨a304, hf305, hq306, hA307⟩, ⟨a308, hf309, hq310, hA311⟩, ⟨w312, hg313, k318⟩, ⟨w314, hg315, k319⟩, hg316⟩ := hE
          try rw [show (5 : Int32).toInt = 5 from by decide] at hp300
          refine lv_if_eq (tgt := 50) hx hb dX12_readClause_42 (by decide) (fun c => absurd c (by decide)) (fun _ => ?_)
          refine lv_aload_n hx hb dX12_readClause_45 rfl (lv_at hl 0 rfl) ?_
          refine lv_iconst (v := 0) hx hb dX12_readClause_46 (by decide) ?_
          refine mx_v (As := [.int 0]) (rest := []) (n := 1) (d := 56) ⟨hx, hb, hml, hown, hts⟩ (c_X12_readTest l E D G 8 h0 hG0 0 ff cd TT (pn279 + 1) bn280 0 (by first | decide | omega) (by omega) (by omega) (c_X12_readPlain l E D G 8)) wd_1619 wd_1621 wp_74 wd_13 wd_1622 (by decide +kernel) ⟨by rw [hR]; exact Nat.le_of_ble_eq_true rfl, by rw [hR]; exact Nat.le_of_ble_eq_true rfl⟩ hI hN hK hS hG0 (⟨hkf, hT, hz0, by omega, ⟨a304, hf305, hq306, hA307⟩, ⟨a308, hf309, hq310, hA311⟩, ⟨w312, hg313, by omega⟩, ⟨w314, hg315, by omega⟩, hg316⟩) rfl hl.1 rfl (Nat.le_of_ble_eq_true rfl) dX12_readClause_47 ⟨Nat.zero_le _, Nat.zero_le _⟩ (fun H locs hI hp hS => ?_)
          obtain ⟨pn321, bn322, hE, k324, hi323⟩ := hp
          obtain ⟨hkf, hT, hz0, k338, ⟨a325, hf326, hq327, hA328⟩, ⟨a329, hf330, hq331, hA332⟩, ⟨w333, hg334, k339⟩, ⟨w335, hg336, k340⟩, hg337⟩ := hE
          have hpost : ∃ (p2 : Nat) (b2 : Int32), RD E D G h0 ff cd TT p2 b2 H ∧ pp ≤ p2 ∧ (b2.toInt = -1 → bb.toInt = -1 ∧ g_cl (rC cd TT) pp p2) := by
              refine ⟨pn321, bn322, ⟨hkf, hT, hz0, by omega, ⟨a325, hf326, hq327, hA328⟩, ⟨a329, hf330, hq331, hA332⟩, ⟨w333, hg334, by omega⟩, ⟨w335, hg336, by omega⟩, hg337⟩, by omega, ?_⟩
              intro h
              obtain ⟨hz1, hz2⟩ := hi323 h
              obtain ⟨ha1, ha2⟩ := hi281 hb301
              exact ⟨ha1, cl_1 (by omega) ha2 (Or.inr ⟨hc302, hz2⟩)⟩
          rw [hQ]
          exact W.vret hx hb hr (fun t ht hW => ⟨⟨(), rfl, trivial, ⟨by rw [ht]; exact hI, hN.warm hW, va_K.moved hW.alike hK⟩, by first | (rw [ht]; exact hpost) | exact hpost⟩, hS.F ht⟩) hS.2.2 dX12_readClause_50
        · skip
          try simp only [rg, not_and, Int.not_le] at hp
          have hp341 := hp
          obtain ⟨hc342, hE⟩ := hp341
          have hp341 : True := trivial
          rw [show (5 : Int32).toInt = 5 from by decide] at hc342
          obtain ⟨hkf, hT, hz0, k356, ⟨a343, hf344, hq345, hA346⟩, ⟨a347, hf348, hq349, hA350⟩, ⟨w351, hg352, k357⟩, ⟨w353, hg354, k358⟩, hg355⟩ := hE
          try rw [show (5 : Int32).toInt = 5 from by decide] at hp341
          refine lv_if_eq (tgt := 50) hx hb dX12_readClause_42 (by decide) (fun _ => ?_) (fun c => absurd c (by decide))
          have hpost : ∃ (p2 : Nat) (b2 : Int32), RD E D G h0 ff cd TT p2 b2 H ∧ pp ≤ p2 ∧ (b2.toInt = -1 → bb.toInt = -1 ∧ g_cl (rC cd TT) pp p2) := by
              refine ⟨pn279, bn280, ⟨hkf, hT, hz0, by omega, ⟨a343, hf344, hq345, hA346⟩, ⟨a347, hf348, hq349, hA350⟩, ⟨w351, hg352, by omega⟩, ⟨w353, hg354, by omega⟩, hg355⟩, by omega, ?_⟩
              intro h
              obtain ⟨ha1, ha2⟩ := hi281 h
              exact ⟨ha1, cl_1 (by omega) ha2 (Or.inl ⟨by omega, rfl⟩)⟩
          rw [hQ]
          exact W.vret hx hb hr (fun t ht hW => ⟨⟨(), rfl, trivial, ⟨by rw [ht]; exact hI, hN.warm hW, va_K.moved hW.alike hK⟩, by first | (rw [ht]; exact hpost) | exact hpost⟩, hS.F ht⟩) hS.2.2 dX12_readClause_50
      · skip
        try simp only [rg, not_and, Int.not_le] at hp
        have hp359 := hp
        obtain ⟨hc360, hE⟩ := hp359
        have hp359 : True := trivial
        rw [show (3 : Int32).toInt = 3 from by decide] at hc360
        obtain ⟨hkf, hT, hz0, k374, ⟨a361, hf362, hq363, hA364⟩, ⟨a365, hf366, hq367, hA368⟩, ⟨w369, hg370, k375⟩, ⟨w371, hg372, k376⟩, hg373⟩ := hE
        try rw [show (3 : Int32).toInt = 3 from by decide] at hp359
        refine lv_if_eq (tgt := 32) hx hb dX12_readClause_21 (by decide) (fun _ => ?_) (fun c => absurd c (by decide))
        refine lv_aload_n hx hb dX12_readClause_32 rfl (lv_at hl 0 rfl) ?_
        refine lv_iconst (v := 4) hx hb dX12_readClause_33 (by decide) ?_
        refine mx_v (As := [.int 4]) (rest := []) (n := 1) (d := 2) ⟨hx, hb, hml, hown, hts⟩ (c_X12_must l E D G h0 hG0 4 ff cd TT pp bb (by first | decide | omega)) wd_1611 wd_1613 wp_72 wd_13 wd_1614 (by decide +kernel) ⟨by rw [hR]; exact Nat.le_of_ble_eq_true rfl, by rw [hR]; exact Nat.le_of_ble_eq_true rfl⟩ hI hN hK hS hG0 (⟨hkf, hT, hz0, by omega, ⟨a361, hf362, hq363, hA364⟩, ⟨a365, hf366, hq367, hA368⟩, ⟨w369, hg370, by omega⟩, ⟨w371, hg372, by omega⟩, hg373⟩) rfl hl.1 rfl (Nat.le_of_ble_eq_true rfl) dX12_readClause_34 ⟨Nat.zero_le _, Nat.zero_le _⟩ (fun H locs hI hp hS => ?_)
        obtain ⟨pn378, bn379, hE, k381, hi380⟩ := hp
        obtain ⟨hkf, hT, hz0, k395, ⟨a382, hf383, hq384, hA385⟩, ⟨a386, hf387, hq388, hA389⟩, ⟨w390, hg391, k396⟩, ⟨w392, hg393, k397⟩, hg394⟩ := hE
        rw [show (4 : Int32).toInt = 4 from by decide] at hi380
        refine lv_aload_n hx hb dX12_readClause_37 rfl (lv_at hl 0 rfl) ?_
        refine lv_iconst (v := 5) hx hb dX12_readClause_38 (by decide) ?_
        refine mx_i (As := [.int 5]) (rest := []) (n := 1) (d := 1) ⟨hx, hb, hml, hown, hts⟩ (c_X12_takes0 l E D G h0 hG0 5 ff cd TT pn378 bn379 (by first | decide | omega)) wd_1587 wd_1589 wp_66 wd_13 wd_1590 (by decide +kernel) ⟨by rw [hR]; exact Nat.le_of_ble_eq_true rfl, by rw [hR]; exact Nat.le_of_ble_eq_true rfl⟩ hI hN hK hS hG0 (⟨hkf, hT, hz0, by omega, ⟨a382, hf383, hq384, hA385⟩, ⟨a386, hf387, hq388, hA389⟩, ⟨w390, hg391, by omega⟩, ⟨w392, hg393, by omega⟩, hg394⟩) rfl hl.1 rfl (Nat.le_of_ble_eq_true rfl) dX12_readClause_39 ⟨Nat.zero_le _, Nat.zero_le _⟩ (fun r398 H locs hI hp hS => ?_)
        rcases hp with ⟨rfl, hp⟩ | ⟨rfl, hp⟩
        · skip
          try simp only [rg, not_and, Int.not_le] at hp
          have hp399 := hp
          obtain ⟨hb400, hc401, k402, hE⟩ := hp399
          have hp399 : True := trivial
          rw [show (5 : Int32).toInt = 5 from by decide] at hc401
          obtain ⟨hkf, hT, hz0, k416, ⟨a403, hf404, hq405, hA406⟩, ⟨a407, hf408, hq409, hA410⟩, ⟨w411, hg412, k417⟩, ⟨w413, hg414, k418⟩, hg415⟩ := hE
          try rw [show (5 : Int32).toInt = 5 from by decide] at hp399
          refine lv_if_eq (tgt := 50) hx hb dX12_readClause_42 (by decide) (fun c => absurd c (by decide)) (fun _ => ?_)
          refine lv_aload_n hx hb dX12_readClause_45 rfl (lv_at hl 0 rfl) ?_
          refine lv_iconst (v := 0) hx hb dX12_readClause_46 (by decide) ?_
          refine mx_v (As := [.int 0]) (rest := []) (n := 1) (d := 56) ⟨hx, hb, hml, hown, hts⟩ (c_X12_readTest l E D G 8 h0 hG0 0 ff cd TT (pn378 + 1) bn379 0 (by first | decide | omega) (by omega) (by omega) (c_X12_readPlain l E D G 8)) wd_1619 wd_1621 wp_74 wd_13 wd_1622 (by decide +kernel) ⟨by rw [hR]; exact Nat.le_of_ble_eq_true rfl, by rw [hR]; exact Nat.le_of_ble_eq_true rfl⟩ hI hN hK hS hG0 (⟨hkf, hT, hz0, by omega, ⟨a403, hf404, hq405, hA406⟩, ⟨a407, hf408, hq409, hA410⟩, ⟨w411, hg412, by omega⟩, ⟨w413, hg414, by omega⟩, hg415⟩) rfl hl.1 rfl (Nat.le_of_ble_eq_true rfl) dX12_readClause_47 ⟨Nat.zero_le _, Nat.zero_le _⟩ (fun H locs hI hp hS => ?_)
          obtain ⟨pn420, bn421, hE, k423, hi422⟩ := hp
          obtain ⟨hkf, hT, hz0, k437, ⟨a424, hf425, hq426, hA427⟩, ⟨a428, hf429, hq430, hA431⟩, ⟨w432, hg433, k438⟩, ⟨w434, hg435, k439⟩, hg436⟩ := hE
          have hpost : ∃ (p2 : Nat) (b2 : Int32), RD E D G h0 ff cd TT p2 b2 H ∧ pp ≤ p2 ∧ (b2.toInt = -1 → bb.toInt = -1 ∧ g_cl (rC cd TT) pp p2) := by
              refine ⟨pn420, bn421, ⟨hkf, hT, hz0, by omega, ⟨a424, hf425, hq426, hA427⟩, ⟨a428, hf429, hq430, hA431⟩, ⟨w432, hg433, by omega⟩, ⟨w434, hg435, by omega⟩, hg436⟩, by omega, ?_⟩
              intro h
              obtain ⟨hz1, hz2⟩ := hi422 h
              obtain ⟨ha1, ha2, ha3⟩ := hi380 hb400
              exact ⟨ha1, cl_2 ha2 ha3 (Or.inr ⟨hc401, hz2⟩)⟩
          rw [hQ]
          exact W.vret hx hb hr (fun t ht hW => ⟨⟨(), rfl, trivial, ⟨by rw [ht]; exact hI, hN.warm hW, va_K.moved hW.alike hK⟩, by first | (rw [ht]; exact hpost) | exact hpost⟩, hS.F ht⟩) hS.2.2 dX12_readClause_50
        · skip
          try simp only [rg, not_and, Int.not_le] at hp
          have hp440 := hp
          obtain ⟨hc441, hE⟩ := hp440
          have hp440 : True := trivial
          rw [show (5 : Int32).toInt = 5 from by decide] at hc441
          obtain ⟨hkf, hT, hz0, k455, ⟨a442, hf443, hq444, hA445⟩, ⟨a446, hf447, hq448, hA449⟩, ⟨w450, hg451, k456⟩, ⟨w452, hg453, k457⟩, hg454⟩ := hE
          try rw [show (5 : Int32).toInt = 5 from by decide] at hp440
          refine lv_if_eq (tgt := 50) hx hb dX12_readClause_42 (by decide) (fun _ => ?_) (fun c => absurd c (by decide))
          have hpost : ∃ (p2 : Nat) (b2 : Int32), RD E D G h0 ff cd TT p2 b2 H ∧ pp ≤ p2 ∧ (b2.toInt = -1 → bb.toInt = -1 ∧ g_cl (rC cd TT) pp p2) := by
              refine ⟨pn378, bn379, ⟨hkf, hT, hz0, by omega, ⟨a442, hf443, hq444, hA445⟩, ⟨a446, hf447, hq448, hA449⟩, ⟨w450, hg451, by omega⟩, ⟨w452, hg453, by omega⟩, hg454⟩, by omega, ?_⟩
              intro h
              obtain ⟨ha1, ha2, ha3⟩ := hi380 h
              exact ⟨ha1, cl_2 ha2 ha3 (Or.inl ⟨by omega, rfl⟩)⟩
          rw [hQ]
          exact W.vret hx hb hr (fun t ht hW => ⟨⟨(), rfl, trivial, ⟨by rw [ht]; exact hI, hN.warm hW, va_K.moved hW.alike hK⟩, by first | (rw [ht]; exact hpost) | exact hpost⟩, hS.F ht⟩) hS.2.2 dX12_readClause_50
theorem dX12_wordOf_0g : (decode cX12_wordOf 0 = .ok (.iconst 1, 1)) ∧ (decode cX12_wordOf 1 = .ok (.istore_n 3, 1)) ∧ (decode cX12_wordOf 2 = .ok (.iconst 0, 1)) ∧ (decode cX12_wordOf 3 = .ok (.istore 4, 2)) ∧ (decode cX12_wordOf 5 = .ok (.iload 4, 2)) ∧ (decode cX12_wordOf 7 = .ok (.aload_n 0, 1)) ∧ (decode cX12_wordOf 8 = .ok (.getfield 30, 3)) ∧ (decode cX12_wordOf 11 = .ok (.arraylength, 1)) ∧ (decode cX12_wordOf 12 = .ok (.if_icmp .ge 114, 3)) ∧ (decode cX12_wordOf 15 = .ok (.iconst 0, 1)) := by decide +kernel
theorem dX12_wordOf_0 : decode cX12_wordOf 0 = .ok (.iconst 1, 1) := dX12_wordOf_0g.1
theorem dX12_wordOf_1 : decode cX12_wordOf 1 = .ok (.istore_n 3, 1) := dX12_wordOf_0g.2.1
theorem dX12_wordOf_2 : decode cX12_wordOf 2 = .ok (.iconst 0, 1) := dX12_wordOf_0g.2.2.1
theorem dX12_wordOf_3 : decode cX12_wordOf 3 = .ok (.istore 4, 2) := dX12_wordOf_0g.2.2.2.1
theorem dX12_wordOf_5 : decode cX12_wordOf 5 = .ok (.iload 4, 2) := dX12_wordOf_0g.2.2.2.2.1
theorem dX12_wordOf_7 : decode cX12_wordOf 7 = .ok (.aload_n 0, 1) := dX12_wordOf_0g.2.2.2.2.2.1
theorem dX12_wordOf_8 : decode cX12_wordOf 8 = .ok (.getfield 30, 3) := dX12_wordOf_0g.2.2.2.2.2.2.1
theorem dX12_wordOf_11 : decode cX12_wordOf 11 = .ok (.arraylength, 1) := dX12_wordOf_0g.2.2.2.2.2.2.2.1
theorem dX12_wordOf_12 : decode cX12_wordOf 12 = .ok (.if_icmp .ge 114, 3) := dX12_wordOf_0g.2.2.2.2.2.2.2.2.1
theorem dX12_wordOf_15 : decode cX12_wordOf 15 = .ok (.iconst 0, 1) := dX12_wordOf_0g.2.2.2.2.2.2.2.2.2
theorem dX12_wordOf_16g : (decode cX12_wordOf 16 = .ok (.istore 5, 2)) ∧ (decode cX12_wordOf 18 = .ok (.aload_n 0, 1)) ∧ (decode cX12_wordOf 19 = .ok (.getfield 30, 3)) ∧ (decode cX12_wordOf 22 = .ok (.iload 4, 2)) ∧ (decode cX12_wordOf 24 = .ok (.iload 5, 2)) ∧ (decode cX12_wordOf 26 = .ok (.iadd, 1)) ∧ (decode cX12_wordOf 27 = .ok (.baload, 1)) ∧ (decode cX12_wordOf 28 = .ok (.bipush 32, 2)) ∧ (decode cX12_wordOf 30 = .ok (.if_icmp .eq 9, 3)) ∧ (decode cX12_wordOf 33 = .ok (.iinc 5 1, 3)) := by decide +kernel
theorem dX12_wordOf_16 : decode cX12_wordOf 16 = .ok (.istore 5, 2) := dX12_wordOf_16g.1
theorem dX12_wordOf_18 : decode cX12_wordOf 18 = .ok (.aload_n 0, 1) := dX12_wordOf_16g.2.1
theorem dX12_wordOf_19 : decode cX12_wordOf 19 = .ok (.getfield 30, 3) := dX12_wordOf_16g.2.2.1
theorem dX12_wordOf_22 : decode cX12_wordOf 22 = .ok (.iload 4, 2) := dX12_wordOf_16g.2.2.2.1
theorem dX12_wordOf_24 : decode cX12_wordOf 24 = .ok (.iload 5, 2) := dX12_wordOf_16g.2.2.2.2.1
theorem dX12_wordOf_26 : decode cX12_wordOf 26 = .ok (.iadd, 1) := dX12_wordOf_16g.2.2.2.2.2.1
theorem dX12_wordOf_27 : decode cX12_wordOf 27 = .ok (.baload, 1) := dX12_wordOf_16g.2.2.2.2.2.2.1
theorem dX12_wordOf_28 : decode cX12_wordOf 28 = .ok (.bipush 32, 2) := dX12_wordOf_16g.2.2.2.2.2.2.2.1
theorem dX12_wordOf_30 : decode cX12_wordOf 30 = .ok (.if_icmp .eq 9, 3) := dX12_wordOf_16g.2.2.2.2.2.2.2.2.1
theorem dX12_wordOf_33 : decode cX12_wordOf 33 = .ok (.iinc 5 1, 3) := dX12_wordOf_16g.2.2.2.2.2.2.2.2.2
theorem dX12_wordOf_36g : (decode cX12_wordOf 36 = .ok (.goto (-18), 3)) ∧ (decode cX12_wordOf 39 = .ok (.iload 5, 2)) ∧ (decode cX12_wordOf 41 = .ok (.iload_n 2, 1)) ∧ (decode cX12_wordOf 42 = .ok (.iload_n 1, 1)) ∧ (decode cX12_wordOf 43 = .ok (.isub, 1)) ∧ (decode cX12_wordOf 44 = .ok (.if_icmp .ne 7, 3)) ∧ (decode cX12_wordOf 47 = .ok (.iconst 1, 1)) ∧ (decode cX12_wordOf 48 = .ok (.goto 4, 3)) ∧ (decode cX12_wordOf 51 = .ok (.iconst 0, 1)) ∧ (decode cX12_wordOf 52 = .ok (.istore 6, 2)) := by decide +kernel
theorem dX12_wordOf_36 : decode cX12_wordOf 36 = .ok (.goto (-18), 3) := dX12_wordOf_36g.1
theorem dX12_wordOf_39 : decode cX12_wordOf 39 = .ok (.iload 5, 2) := dX12_wordOf_36g.2.1
theorem dX12_wordOf_41 : decode cX12_wordOf 41 = .ok (.iload_n 2, 1) := dX12_wordOf_36g.2.2.1
theorem dX12_wordOf_42 : decode cX12_wordOf 42 = .ok (.iload_n 1, 1) := dX12_wordOf_36g.2.2.2.1
theorem dX12_wordOf_43 : decode cX12_wordOf 43 = .ok (.isub, 1) := dX12_wordOf_36g.2.2.2.2.1
theorem dX12_wordOf_44 : decode cX12_wordOf 44 = .ok (.if_icmp .ne 7, 3) := dX12_wordOf_36g.2.2.2.2.2.1
theorem dX12_wordOf_47 : decode cX12_wordOf 47 = .ok (.iconst 1, 1) := dX12_wordOf_36g.2.2.2.2.2.2.1
theorem dX12_wordOf_48 : decode cX12_wordOf 48 = .ok (.goto 4, 3) := dX12_wordOf_36g.2.2.2.2.2.2.2.1
theorem dX12_wordOf_51 : decode cX12_wordOf 51 = .ok (.iconst 0, 1) := dX12_wordOf_36g.2.2.2.2.2.2.2.2.1
theorem dX12_wordOf_52 : decode cX12_wordOf 52 = .ok (.istore 6, 2) := dX12_wordOf_36g.2.2.2.2.2.2.2.2.2
theorem dX12_wordOf_54g : (decode cX12_wordOf 54 = .ok (.iconst 0, 1)) ∧ (decode cX12_wordOf 55 = .ok (.istore 7, 2)) ∧ (decode cX12_wordOf 57 = .ok (.iload 7, 2)) ∧ (decode cX12_wordOf 59 = .ok (.iload 5, 2)) ∧ (decode cX12_wordOf 61 = .ok (.if_icmp .ge 43, 3)) ∧ (decode cX12_wordOf 64 = .ok (.iload 6, 2)) ∧ (decode cX12_wordOf 66 = .ok (.ifCond .eq 38, 3)) ∧ (decode cX12_wordOf 69 = .ok (.aload_n 0, 1)) ∧ (decode cX12_wordOf 70 = .ok (.getfield 30, 3)) ∧ (decode cX12_wordOf 73 = .ok (.iload 4, 2)) := by decide +kernel
theorem dX12_wordOf_54 : decode cX12_wordOf 54 = .ok (.iconst 0, 1) := dX12_wordOf_54g.1
theorem dX12_wordOf_55 : decode cX12_wordOf 55 = .ok (.istore 7, 2) := dX12_wordOf_54g.2.1
theorem dX12_wordOf_57 : decode cX12_wordOf 57 = .ok (.iload 7, 2) := dX12_wordOf_54g.2.2.1
theorem dX12_wordOf_59 : decode cX12_wordOf 59 = .ok (.iload 5, 2) := dX12_wordOf_54g.2.2.2.1
theorem dX12_wordOf_61 : decode cX12_wordOf 61 = .ok (.if_icmp .ge 43, 3) := dX12_wordOf_54g.2.2.2.2.1
theorem dX12_wordOf_64 : decode cX12_wordOf 64 = .ok (.iload 6, 2) := dX12_wordOf_54g.2.2.2.2.2.1
theorem dX12_wordOf_66 : decode cX12_wordOf 66 = .ok (.ifCond .eq 38, 3) := dX12_wordOf_54g.2.2.2.2.2.2.1
theorem dX12_wordOf_69 : decode cX12_wordOf 69 = .ok (.aload_n 0, 1) := dX12_wordOf_54g.2.2.2.2.2.2.2.1
theorem dX12_wordOf_70 : decode cX12_wordOf 70 = .ok (.getfield 30, 3) := dX12_wordOf_54g.2.2.2.2.2.2.2.2.1
theorem dX12_wordOf_73 : decode cX12_wordOf 73 = .ok (.iload 4, 2) := dX12_wordOf_54g.2.2.2.2.2.2.2.2.2
theorem dX12_wordOf_75g : (decode cX12_wordOf 75 = .ok (.iload 7, 2)) ∧ (decode cX12_wordOf 77 = .ok (.iadd, 1)) ∧ (decode cX12_wordOf 78 = .ok (.baload, 1)) ∧ (decode cX12_wordOf 79 = .ok (.aload_n 0, 1)) ∧ (decode cX12_wordOf 80 = .ok (.getfield 34, 3)) ∧ (decode cX12_wordOf 83 = .ok (.iload_n 1, 1)) ∧ (decode cX12_wordOf 84 = .ok (.iload 7, 2)) ∧ (decode cX12_wordOf 86 = .ok (.iadd, 1)) ∧ (decode cX12_wordOf 87 = .ok (.baload, 1)) ∧ (decode cX12_wordOf 88 = .ok (.if_icmp .ne 7, 3)) := by decide +kernel
theorem dX12_wordOf_75 : decode cX12_wordOf 75 = .ok (.iload 7, 2) := dX12_wordOf_75g.1
theorem dX12_wordOf_77 : decode cX12_wordOf 77 = .ok (.iadd, 1) := dX12_wordOf_75g.2.1
theorem dX12_wordOf_78 : decode cX12_wordOf 78 = .ok (.baload, 1) := dX12_wordOf_75g.2.2.1
theorem dX12_wordOf_79 : decode cX12_wordOf 79 = .ok (.aload_n 0, 1) := dX12_wordOf_75g.2.2.2.1
theorem dX12_wordOf_80 : decode cX12_wordOf 80 = .ok (.getfield 34, 3) := dX12_wordOf_75g.2.2.2.2.1
theorem dX12_wordOf_83 : decode cX12_wordOf 83 = .ok (.iload_n 1, 1) := dX12_wordOf_75g.2.2.2.2.2.1
theorem dX12_wordOf_84 : decode cX12_wordOf 84 = .ok (.iload 7, 2) := dX12_wordOf_75g.2.2.2.2.2.2.1
theorem dX12_wordOf_86 : decode cX12_wordOf 86 = .ok (.iadd, 1) := dX12_wordOf_75g.2.2.2.2.2.2.2.1
theorem dX12_wordOf_87 : decode cX12_wordOf 87 = .ok (.baload, 1) := dX12_wordOf_75g.2.2.2.2.2.2.2.2.1
theorem dX12_wordOf_88 : decode cX12_wordOf 88 = .ok (.if_icmp .ne 7, 3) := dX12_wordOf_75g.2.2.2.2.2.2.2.2.2
theorem dX12_wordOf_91g : (decode cX12_wordOf 91 = .ok (.iconst 1, 1)) ∧ (decode cX12_wordOf 92 = .ok (.goto 4, 3)) ∧ (decode cX12_wordOf 95 = .ok (.iconst 0, 1)) ∧ (decode cX12_wordOf 96 = .ok (.istore 6, 2)) ∧ (decode cX12_wordOf 98 = .ok (.iinc 7 1, 3)) ∧ (decode cX12_wordOf 101 = .ok (.goto (-44), 3)) ∧ (decode cX12_wordOf 104 = .ok (.iload 6, 2)) ∧ (decode cX12_wordOf 106 = .ok (.ifCond .eq 5, 3)) ∧ (decode cX12_wordOf 109 = .ok (.iload_n 3, 1)) ∧ (decode cX12_wordOf 110 = .ok (.ireturn, 1)) := by decide +kernel
theorem dX12_wordOf_91 : decode cX12_wordOf 91 = .ok (.iconst 1, 1) := dX12_wordOf_91g.1
theorem dX12_wordOf_92 : decode cX12_wordOf 92 = .ok (.goto 4, 3) := dX12_wordOf_91g.2.1
theorem dX12_wordOf_95 : decode cX12_wordOf 95 = .ok (.iconst 0, 1) := dX12_wordOf_91g.2.2.1
theorem dX12_wordOf_96 : decode cX12_wordOf 96 = .ok (.istore 6, 2) := dX12_wordOf_91g.2.2.2.1
theorem dX12_wordOf_98 : decode cX12_wordOf 98 = .ok (.iinc 7 1, 3) := dX12_wordOf_91g.2.2.2.2.1
theorem dX12_wordOf_101 : decode cX12_wordOf 101 = .ok (.goto (-44), 3) := dX12_wordOf_91g.2.2.2.2.2.1
theorem dX12_wordOf_104 : decode cX12_wordOf 104 = .ok (.iload 6, 2) := dX12_wordOf_91g.2.2.2.2.2.2.1
theorem dX12_wordOf_106 : decode cX12_wordOf 106 = .ok (.ifCond .eq 5, 3) := dX12_wordOf_91g.2.2.2.2.2.2.2.1
theorem dX12_wordOf_109 : decode cX12_wordOf 109 = .ok (.iload_n 3, 1) := dX12_wordOf_91g.2.2.2.2.2.2.2.2.1
theorem dX12_wordOf_110 : decode cX12_wordOf 110 = .ok (.ireturn, 1) := dX12_wordOf_91g.2.2.2.2.2.2.2.2.2
theorem dX12_wordOf_111g : (decode cX12_wordOf 111 = .ok (.iload 4, 2)) ∧ (decode cX12_wordOf 113 = .ok (.iload 5, 2)) ∧ (decode cX12_wordOf 115 = .ok (.iconst 1, 1)) ∧ (decode cX12_wordOf 116 = .ok (.iadd, 1)) ∧ (decode cX12_wordOf 117 = .ok (.iadd, 1)) ∧ (decode cX12_wordOf 118 = .ok (.istore 4, 2)) ∧ (decode cX12_wordOf 120 = .ok (.iinc 3 1, 3)) ∧ (decode cX12_wordOf 123 = .ok (.goto (-118), 3)) ∧ (decode cX12_wordOf 126 = .ok (.iconst 0, 1)) ∧ (decode cX12_wordOf 127 = .ok (.ireturn, 1)) := by decide +kernel
theorem dX12_wordOf_111 : decode cX12_wordOf 111 = .ok (.iload 4, 2) := dX12_wordOf_111g.1
theorem dX12_wordOf_113 : decode cX12_wordOf 113 = .ok (.iload 5, 2) := dX12_wordOf_111g.2.1
theorem dX12_wordOf_115 : decode cX12_wordOf 115 = .ok (.iconst 1, 1) := dX12_wordOf_111g.2.2.1
theorem dX12_wordOf_116 : decode cX12_wordOf 116 = .ok (.iadd, 1) := dX12_wordOf_111g.2.2.2.1
theorem dX12_wordOf_117 : decode cX12_wordOf 117 = .ok (.iadd, 1) := dX12_wordOf_111g.2.2.2.2.1
theorem dX12_wordOf_118 : decode cX12_wordOf 118 = .ok (.istore 4, 2) := dX12_wordOf_111g.2.2.2.2.2.1
theorem dX12_wordOf_120 : decode cX12_wordOf 120 = .ok (.iinc 3 1, 3) := dX12_wordOf_111g.2.2.2.2.2.2.1
theorem dX12_wordOf_123 : decode cX12_wordOf 123 = .ok (.goto (-118), 3) := dX12_wordOf_111g.2.2.2.2.2.2.2.1
theorem dX12_wordOf_126 : decode cX12_wordOf 126 = .ok (.iconst 0, 1) := dX12_wordOf_111g.2.2.2.2.2.2.2.2.1
theorem dX12_wordOf_127 : decode cX12_wordOf 127 = .ok (.ireturn, 1) := dX12_wordOf_111g.2.2.2.2.2.2.2.2.2
set_option maxHeartbeats 4000000 in
set_option maxRecDepth 100000 in
theorem c_X12_wordOf (l : Launch) (E : Nat → Nat) (D : va_G) (G : th_G) (H0 : Heap) (h0 : Nat) (hG0 : G h0 = some (10, 0)) (x1 : Int32) (x2 : Int32) (hx1 : (0 : Int) ≤ x1.toInt ∧ x1.toInt ≤ 400) (hx2 : (0 : Int) ≤ x2.toInt ∧ x2.toInt ≤ 400) : Met l yX12_wordOf (tb (.code yX12_wordOf cX12_wordOf 8 (some .int))) (rm 0) (va_Pc [.ref h0, .int x1, .int x2] (PR E D G H0)) (QS H0 (fun r => True)) 0 0 (fun _ => False) := by
  refine Met.ofW (cc := cX12_wordOf) (maxL := 8) (ret := (some .int)) (by decide) rfl ?_
  intro p e s m args below meth c s₁ B hml hv
  obtain ⟨hav, rfl, hI, hN, hK⟩ := hv
  have hx := B.exec
  have hb := B.bytes
  have hr := B.returns
  have hts := atoms_spec (ws := tb (.code yX12_wordOf cX12_wordOf 8 (some .int))) B.pre
  have hown : s.vm.findClass RX12 = some m.cls := findClass_of_methodNamed B.named
  have hlocks := B.notSynchronized
  have hS : va_S (fun _ => False) s.heap s.heap [] := va_S.rf
  have hl := lv_entry ([.ref h0, .int x1, .int x2]) (n := 8) (Nat.le_of_ble_eq_true rfl)
  rw [show entryFrame m args 8 = entryFrame m ([.ref h0, .int x1, .int x2] : List Value).toArray 8 from by rw [hav], lg_entry_eq]
  generalize (lg_sl ([.ref h0, .int x1, .int x2]) ++ List.replicate (8 - (lg_sl ([.ref h0, .int x1, .int x2])).length) Slot.unset).toArray = ls at hl ⊢
  have hl : lv_has ls 8 [(0, .ref h0), (1, .int x1), (2, .int x2)] := hl
  generalize hR : (headSpec (tb (.code yX12_wordOf cX12_wordOf 8 (some .int))) (rm 0)).room = R
  have hR := hR.symm
  generalize hQ : MQ below (QS s.heap (fun r => True)) args s 0 0 (fun _ => False) = QF
  have hQ := hQ.symm
  obtain ⟨q_7, hq_7, hf_7⟩ := fr_of hI hG0 7 (by decide) (kd := (7, 89)) rfl
  obtain ⟨F_7, hA_7, hP_7⟩ := om_7 hI hq_7 List.not_mem_nil
  obtain ⟨q_8, hq_8, hf_8⟩ := fr_of hI hG0 8 (by decide) (kd := (4, 400)) rfl
  obtain ⟨F_8, hA_8⟩ := om_4 hI hq_8 List.not_mem_nil
  have J_5 : ∀ (nn : Nat) (locs : List Loc) (ls : Array Slot) (v7123 : Int32) (v7124 : Int32) , (Int.toNat (89 - v7123.toInt) = nn) → lv_has ls 8 [(4, .int v7123), (3, .int v7124), (0, .ref h0), (1, .int x1), (2, .int x2)] → ((0 : Int) ≤ v7123.toInt ∧ v7123.toInt ≤ 89) → ((0 : Int) ≤ x1.toInt ∧ x1.toInt ≤ 400) → ((0 : Int) ≤ x2.toInt ∧ x2.toInt ≤ 400) → va_S (fun _ => False) s.heap s.heap locs → W p l e R s m args below meth c s.heap locs 0 0 QF (F0 m 5 ls []) := by
    intro nn
    induction nn using Nat.strongRecOn with
    | ind nn ih_5 =>
      intro locs ls v7123 v7124  hm hl k7125 k7126 k7127 hS
      have J_57 : ∀ (nn : Nat) (locs : List Loc) (ls : Array Slot) (v7128 : Int32) (v7129 : Int32) (v7130 : Int32) , (Int.toNat (v7130.toInt - v7128.toInt) = nn) → lv_has ls 8 [(7, .int v7128), (6, .int v7129), (5, .int v7130), (4, .int v7123), (3, .int v7124), (0, .ref h0), (1, .int x1), (2, .int x2)] → ((0 : Int) ≤ v7128.toInt ∧ v7128.toInt ≤ 88) → ((0 : Int) ≤ v7129.toInt ∧ v7129.toInt ≤ 1) → ((0 : Int) ≤ v7130.toInt ∧ v7130.toInt ≤ 88) → ((0 : Int) ≤ v7123.toInt ∧ v7123.toInt ≤ 88) → (v7123.toInt + v7130.toInt ≤ 88) → (v7129.toInt = 0 ∨ v7130.toInt = x2.toInt - x1.toInt) → (v7128.toInt ≤ v7130.toInt) → va_S (fun _ => False) s.heap s.heap locs → W p l e R s m args below meth c s.heap locs 0 0 QF (F0 m 57 ls []) := by
        intro nn
        induction nn using Nat.strongRecOn with
        | ind nn ih_57 =>
          intro locs ls v7128 v7129 v7130  hm hl k7133 k7134 k7135 k7136 k7137 k7138 k7139 hS
          refine lv_iload hx hb dX12_wordOf_57 (lv_at hl 0 rfl) ?_
          refine lv_iload hx hb dX12_wordOf_59 (lv_at hl 2 rfl) ?_
          refine lv_icmp_ge (tgt := 104) hx hb dX12_wordOf_61 (by decide) (fun c7140 => ?_) (fun c7140 => ?_)
          · skip
            have k7141 := iv_le (X := v7130.toInt) (Y := v7128.toInt) rfl rfl c7140
            refine lv_iload hx hb dX12_wordOf_104 (lv_at hl 1 rfl) ?_
            refine lv_if_eq (tgt := 111) hx hb dX12_wordOf_106 (by decide) (fun c7142 => ?_) (fun c7142 => ?_)
            · skip
              have k7143 := iv_eq (X := v7129.toInt) (Y := (0)) rfl (by decide) c7142
              refine lv_iload hx hb dX12_wordOf_111 (lv_at hl 3 rfl) ?_
              refine lv_iload hx hb dX12_wordOf_113 (lv_at hl 2 rfl) ?_
              refine lv_iconst (v := 1) hx hb dX12_wordOf_115 (by decide) ?_
              refine lv_iadd hx hb dX12_wordOf_116 ?_
              refine lv_topi (fun v7144 e7145 => ?_)
              have tv7144 : v7144.toInt = v7130.toInt + (1) := iv_add rfl (by decide) e7145 (by omega) (by omega)
              refine lv_iadd hx hb dX12_wordOf_117 ?_
              refine lv_topi (fun v7146 e7147 => ?_)
              have tv7146 : v7146.toInt = v7123.toInt + v7144.toInt := iv_add rfl rfl e7147 (by omega) (by omega)
              refine lv_istore (lv' := [(4, .int v7146), (7, .int v7128), (6, .int v7129), (5, .int v7130), (3, .int v7124), (0, .ref h0), (1, .int x1), (2, .int x2)]) hx hb dX12_wordOf_118 hl (by decide) rfl (fun ls hl => ?_)
              obtain ⟨v7148, e7149⟩ : ∃ y : Int32, y = v7124 + (1) := ⟨_, rfl⟩
              have k7150 := iv_lo v7124
              have k7151 := iv_hi v7124
              refine lv_iinc (v := v7148) (lv' := [(3, .int v7148), (4, .int v7146), (7, .int v7128), (6, .int v7129), (5, .int v7130), (0, .ref h0), (1, .int x1), (2, .int x2)]) hx hb dX12_wordOf_120 hl (k := 4) rfl (by rw [e7149]; rfl) (by decide) rfl (fun ls hl => ?_)
              refine lv_goto (tgt := 5) hx hb dX12_wordOf_123 (by decide) ?_
              exact ih_5 _ (by omega) locs ls v7146 v7148  rfl (lv_sub hl [1, 0, 5, 6, 7] rfl) ⟨by omega, by omega⟩ ⟨by omega, by omega⟩ ⟨by omega, by omega⟩ hS
            · skip
              have k7152 := iv_ne (X := v7129.toInt) (Y := (0)) rfl (by decide) c7142
              refine lv_iload_n hx hb dX12_wordOf_109 rfl (lv_at hl 4 rfl) ?_
              have hpost : True := trivial
              rw [hQ]
              exact W.iret (v := v7124) hx hb hr (fun t ht hW => ⟨⟨v7124, (), rfl, hpost, ht⟩, hS.F ht⟩) hS.2.2 dX12_wordOf_110
          · skip
            have k7153 := iv_nle (X := v7130.toInt) (Y := v7128.toInt) rfl rfl c7140
            refine lv_iload hx hb dX12_wordOf_64 (lv_at hl 1 rfl) ?_
            refine lv_if_eq (tgt := 104) hx hb dX12_wordOf_66 (by decide) (fun c7154 => ?_) (fun c7154 => ?_)
            · skip
              have k7155 := iv_eq (X := v7129.toInt) (Y := (0)) rfl (by decide) c7154
              refine lv_iload hx hb dX12_wordOf_104 (lv_at hl 1 rfl) ?_
              refine lv_if_eq (tgt := 111) hx hb dX12_wordOf_106 (by decide) (fun c7156 => ?_) (fun c7156 => ?_)
              · skip
                have k7157 := iv_eq (X := v7129.toInt) (Y := (0)) rfl (by decide) c7156
                refine lv_iload hx hb dX12_wordOf_111 (lv_at hl 3 rfl) ?_
                refine lv_iload hx hb dX12_wordOf_113 (lv_at hl 2 rfl) ?_
                refine lv_iconst (v := 1) hx hb dX12_wordOf_115 (by decide) ?_
                refine lv_iadd hx hb dX12_wordOf_116 ?_
                refine lv_topi (fun v7158 e7159 => ?_)
                have tv7158 : v7158.toInt = v7130.toInt + (1) := iv_add rfl (by decide) e7159 (by omega) (by omega)
                refine lv_iadd hx hb dX12_wordOf_117 ?_
                refine lv_topi (fun v7160 e7161 => ?_)
                have tv7160 : v7160.toInt = v7123.toInt + v7158.toInt := iv_add rfl rfl e7161 (by omega) (by omega)
                refine lv_istore (lv' := [(4, .int v7160), (7, .int v7128), (6, .int v7129), (5, .int v7130), (3, .int v7124), (0, .ref h0), (1, .int x1), (2, .int x2)]) hx hb dX12_wordOf_118 hl (by decide) rfl (fun ls hl => ?_)
                obtain ⟨v7162, e7163⟩ : ∃ y : Int32, y = v7124 + (1) := ⟨_, rfl⟩
                have k7164 := iv_lo v7124
                have k7165 := iv_hi v7124
                refine lv_iinc (v := v7162) (lv' := [(3, .int v7162), (4, .int v7160), (7, .int v7128), (6, .int v7129), (5, .int v7130), (0, .ref h0), (1, .int x1), (2, .int x2)]) hx hb dX12_wordOf_120 hl (k := 4) rfl (by rw [e7163]; rfl) (by decide) rfl (fun ls hl => ?_)
                refine lv_goto (tgt := 5) hx hb dX12_wordOf_123 (by decide) ?_
                exact ih_5 _ (by omega) locs ls v7160 v7162  rfl (lv_sub hl [1, 0, 5, 6, 7] rfl) ⟨by omega, by omega⟩ ⟨by omega, by omega⟩ ⟨by omega, by omega⟩ hS
              · skip
                have k7166 := iv_ne (X := v7129.toInt) (Y := (0)) rfl (by decide) c7156
                exfalso; omega
            · skip
              have k7167 := iv_ne (X := v7129.toInt) (Y := (0)) rfl (by decide) c7154
              refine lv_aload_n hx hb dX12_wordOf_69 rfl (lv_at hl 5 rfl) ?_
              refine gmA hx hb hts inT12 hown hK hI List.not_mem_nil hG0 7 (by decide) (hts _ (tb_c wd_1240)) rfl rfl dX12_wordOf_70 (fun a7168 hq7169 hf7170 => ?_)
              obtain rfl := fr.uniq (by decide) hf_7 hf7170
              refine lv_iload hx hb dX12_wordOf_73 (lv_at hl 3 rfl) ?_
              refine lv_iload hx hb dX12_wordOf_75 (lv_at hl 0 rfl) ?_
              refine lv_iadd hx hb dX12_wordOf_77 ?_
              refine lv_topi (fun v7171 e7172 => ?_)
              have tv7171 : v7171.toInt = v7123.toInt + v7128.toInt := iv_add rfl rfl e7172 (by omega) (by omega)
              refine va_bald hx hb hK (th_one hA_7) 0 3 rfl rfl (iv_in (X := v7171.toInt) rfl (by omega) (by omega)) dX12_wordOf_78 ?_
              refine lv_topi (fun v7173 e7174 => ?_)
              have k7175 := wd_get hP_7 e7174 (X := v7171.toInt) rfl (by omega)
              refine lv_aload_n hx hb dX12_wordOf_79 rfl (lv_at hl 5 rfl) ?_
              refine gmA hx hb hts inT12 hown hK hI List.not_mem_nil hG0 8 (by decide) (hts _ (tb_c wd_1241)) rfl rfl dX12_wordOf_80 (fun a7176 hq7177 hf7178 => ?_)
              obtain rfl := fr.uniq (by decide) hf_8 hf7178
              refine lv_iload_n hx hb dX12_wordOf_83 rfl (lv_at hl 6 rfl) ?_
              refine lv_iload hx hb dX12_wordOf_84 (lv_at hl 0 rfl) ?_
              refine lv_iadd hx hb dX12_wordOf_86 ?_
              refine lv_topi (fun v7179 e7180 => ?_)
              have tv7179 : v7179.toInt = x1.toInt + v7128.toInt := iv_add rfl rfl e7180 (by omega) (by omega)
              refine va_bald hx hb hK (th_one hA_8) 0 3 rfl rfl (iv_in (X := v7179.toInt) rfl (by omega) (by omega)) dX12_wordOf_87 ?_
              refine lv_topi (fun v7181 e7182 => ?_)
              have k7183 := iv_lo v7173
              have k7184 := iv_hi v7173
              have k7185 := iv_lo v7181
              have k7186 := iv_hi v7181
              refine lv_icmp_ne (tgt := 95) hx hb dX12_wordOf_88 (by decide) (fun c7187 => ?_) (fun c7187 => ?_)
              · skip
                have k7188 := iv_ne (X := v7173.toInt) (Y := v7181.toInt) rfl rfl c7187
                refine lv_iconst (v := 0) hx hb dX12_wordOf_95 (by decide) ?_
                refine lv_istore (lv' := [(6, .int 0), (7, .int v7128), (5, .int v7130), (4, .int v7123), (3, .int v7124), (0, .ref h0), (1, .int x1), (2, .int x2)]) hx hb dX12_wordOf_96 hl (by decide) rfl (fun ls hl => ?_)
                obtain ⟨v7189, e7190⟩ : ∃ y : Int32, y = v7128 + (1) := ⟨_, rfl⟩
                have tv7189 : v7189.toInt = v7128.toInt + (1) := iv_add rfl (by decide) e7190 (by omega) (by omega)
                refine lv_iinc (v := v7189) (lv' := [(7, .int v7189), (6, .int 0), (5, .int v7130), (4, .int v7123), (3, .int v7124), (0, .ref h0), (1, .int x1), (2, .int x2)]) hx hb dX12_wordOf_98 hl (k := 1) rfl (by rw [e7190]; rfl) (by decide) rfl (fun ls hl => ?_)
                refine lv_goto (tgt := 57) hx hb dX12_wordOf_101 (by decide) ?_
                exact ih_57 _ (by omega) locs ls v7189 0 v7130  rfl (lv_sub hl [0, 1, 2, 3, 4, 5, 6, 7] rfl) ⟨by omega, by omega⟩ ⟨by decide, by decide⟩ ⟨by omega, by omega⟩ ⟨by omega, by omega⟩ (by first | omega | (simp; omega)) (by first | omega | exact Or.inl (by decide)) (by first | omega | (rw [show (0 : Int32).toInt = 0 from by decide]; omega)) hS
              · skip
                have k7191 := iv_eq (X := v7173.toInt) (Y := v7181.toInt) rfl rfl c7187
                refine lv_iconst (v := 1) hx hb dX12_wordOf_91 (by decide) ?_
                refine lv_goto (tgt := 96) hx hb dX12_wordOf_92 (by decide) ?_
                refine lv_istore (lv' := [(6, .int 1), (7, .int v7128), (5, .int v7130), (4, .int v7123), (3, .int v7124), (0, .ref h0), (1, .int x1), (2, .int x2)]) hx hb dX12_wordOf_96 hl (by decide) rfl (fun ls hl => ?_)
                obtain ⟨v7192, e7193⟩ : ∃ y : Int32, y = v7128 + (1) := ⟨_, rfl⟩
                have tv7192 : v7192.toInt = v7128.toInt + (1) := iv_add rfl (by decide) e7193 (by omega) (by omega)
                refine lv_iinc (v := v7192) (lv' := [(7, .int v7192), (6, .int 1), (5, .int v7130), (4, .int v7123), (3, .int v7124), (0, .ref h0), (1, .int x1), (2, .int x2)]) hx hb dX12_wordOf_98 hl (k := 1) rfl (by rw [e7193]; rfl) (by decide) rfl (fun ls hl => ?_)
                refine lv_goto (tgt := 57) hx hb dX12_wordOf_101 (by decide) ?_
                exact ih_57 _ (by omega) locs ls v7192 1 v7130  rfl (lv_sub hl [0, 1, 2, 3, 4, 5, 6, 7] rfl) ⟨by omega, by omega⟩ ⟨by decide, by decide⟩ ⟨by omega, by omega⟩ ⟨by omega, by omega⟩ (by first | omega | (simp; omega)) (by first | omega | exact Or.inl (by decide)) (by first | omega | (rw [show (0 : Int32).toInt = 0 from by decide]; omega)) hS
      have J_18 : ∀ (nn : Nat) (locs : List Loc) (ls : Array Slot) (v7194 : Int32) , (Int.toNat (88 - v7194.toInt) = nn) → lv_has ls 8 [(5, .int v7194), (4, .int v7123), (3, .int v7124), (0, .ref h0), (1, .int x1), (2, .int x2)] → ((0 : Int) ≤ v7194.toInt ∧ v7194.toInt ≤ 88) → ((0 : Int) ≤ v7123.toInt ∧ v7123.toInt ≤ 88) → (v7123.toInt + v7194.toInt ≤ 88) → va_S (fun _ => False) s.heap s.heap locs → W p l e R s m args below meth c s.heap locs 0 0 QF (F0 m 18 ls []) := by
        intro nn
        induction nn using Nat.strongRecOn with
        | ind nn ih_18 =>
          intro locs ls v7194  hm hl k7197 k7198 k7199 hS
          refine lv_aload_n hx hb dX12_wordOf_18 rfl (lv_at hl 3 rfl) ?_
          refine gmA hx hb hts inT12 hown hK hI List.not_mem_nil hG0 7 (by decide) (hts _ (tb_c wd_1240)) rfl rfl dX12_wordOf_19 (fun a7200 hq7201 hf7202 => ?_)
          obtain rfl := fr.uniq (by decide) hf_7 hf7202
          refine lv_iload hx hb dX12_wordOf_22 (lv_at hl 1 rfl) ?_
          refine lv_iload hx hb dX12_wordOf_24 (lv_at hl 0 rfl) ?_
          refine lv_iadd hx hb dX12_wordOf_26 ?_
          refine lv_topi (fun v7203 e7204 => ?_)
          have tv7203 : v7203.toInt = v7123.toInt + v7194.toInt := iv_add rfl rfl e7204 (by omega) (by omega)
          refine va_bald hx hb hK (th_one hA_7) 0 3 rfl rfl (iv_in (X := v7203.toInt) rfl (by omega) (by omega)) dX12_wordOf_27 ?_
          refine lv_topi (fun v7205 e7206 => ?_)
          have k7207 := wd_get hP_7 e7206 (X := v7203.toInt) rfl (by omega)
          refine lv_bipush (v := 32) hx hb dX12_wordOf_28 (by decide) ?_
          have k7208 := iv_lo v7205
          have k7209 := iv_hi v7205
          refine lv_icmp_eq (tgt := 39) hx hb dX12_wordOf_30 (by decide) (fun c7210 => ?_) (fun c7210 => ?_)
          · skip
            have k7211 := iv_eq (X := v7205.toInt) (Y := (32)) rfl (by decide) c7210
            refine lv_iload hx hb dX12_wordOf_39 (lv_at hl 0 rfl) ?_
            refine lv_iload_n hx hb dX12_wordOf_41 rfl (lv_at hl 5 rfl) ?_
            refine lv_iload_n hx hb dX12_wordOf_42 rfl (lv_at hl 4 rfl) ?_
            refine lv_isub hx hb dX12_wordOf_43 ?_
            refine lv_topi (fun v7212 e7213 => ?_)
            have tv7212 : v7212.toInt = x2.toInt - x1.toInt := iv_sub rfl rfl e7213 (by omega) (by omega)
            refine lv_icmp_ne (tgt := 51) hx hb dX12_wordOf_44 (by decide) (fun c7214 => ?_) (fun c7214 => ?_)
            · skip
              have k7215 := iv_ne (X := v7194.toInt) (Y := v7212.toInt) rfl rfl c7214
              refine lv_iconst (v := 0) hx hb dX12_wordOf_51 (by decide) ?_
              refine lv_istore (lv' := [(6, .int 0), (5, .int v7194), (4, .int v7123), (3, .int v7124), (0, .ref h0), (1, .int x1), (2, .int x2)]) hx hb dX12_wordOf_52 hl (by decide) rfl (fun ls hl => ?_)
              refine lv_iconst (v := 0) hx hb dX12_wordOf_54 (by decide) ?_
              refine lv_istore (lv' := [(7, .int 0), (6, .int 0), (5, .int v7194), (4, .int v7123), (3, .int v7124), (0, .ref h0), (1, .int x1), (2, .int x2)]) hx hb dX12_wordOf_55 hl (by decide) rfl (fun ls hl => ?_)
              have zl : (0 : Int32).toInt = 0 := by decide
              exact J_57 _ locs ls 0 0 v7194  rfl (lv_sub hl [0, 1, 2, 3, 4, 5, 6, 7] rfl) ⟨by decide, by decide⟩ ⟨by decide, by decide⟩ ⟨by omega, by omega⟩ ⟨by omega, by omega⟩ (by first | omega | (simp; omega)) (by first | omega | exact Or.inl (by decide)) (by first | omega | (rw [show (0 : Int32).toInt = 0 from by decide]; omega)) hS
            · skip
              have k7216 := iv_eq (X := v7194.toInt) (Y := v7212.toInt) rfl rfl c7214
              refine lv_iconst (v := 1) hx hb dX12_wordOf_47 (by decide) ?_
              refine lv_goto (tgt := 52) hx hb dX12_wordOf_48 (by decide) ?_
              refine lv_istore (lv' := [(6, .int 1), (5, .int v7194), (4, .int v7123), (3, .int v7124), (0, .ref h0), (1, .int x1), (2, .int x2)]) hx hb dX12_wordOf_52 hl (by decide) rfl (fun ls hl => ?_)
              refine lv_iconst (v := 0) hx hb dX12_wordOf_54 (by decide) ?_
              refine lv_istore (lv' := [(7, .int 0), (6, .int 1), (5, .int v7194), (4, .int v7123), (3, .int v7124), (0, .ref h0), (1, .int x1), (2, .int x2)]) hx hb dX12_wordOf_55 hl (by decide) rfl (fun ls hl => ?_)
              have zl : (0 : Int32).toInt = 0 := by decide
              exact J_57 _ locs ls 0 1 v7194  rfl (lv_sub hl [0, 1, 2, 3, 4, 5, 6, 7] rfl) ⟨by decide, by decide⟩ ⟨by decide, by decide⟩ ⟨by omega, by omega⟩ ⟨by omega, by omega⟩ (by first | omega | (simp; omega)) (by first | omega | exact Or.inl (by decide)) (by first | omega | (rw [show (0 : Int32).toInt = 0 from by decide]; omega)) hS
          · skip
            have k7217 := iv_ne (X := v7205.toInt) (Y := (32)) rfl (by decide) c7210
            obtain ⟨v7218, e7219⟩ : ∃ y : Int32, y = v7194 + (1) := ⟨_, rfl⟩
            have tv7218 : v7218.toInt = v7194.toInt + (1) := iv_add rfl (by decide) e7219 (by omega) (by omega)
            refine lv_iinc (v := v7218) (lv' := [(5, .int v7218), (4, .int v7123), (3, .int v7124), (0, .ref h0), (1, .int x1), (2, .int x2)]) hx hb dX12_wordOf_33 hl (k := 0) rfl (by rw [e7219]; rfl) (by decide) rfl (fun ls hl => ?_)
            refine lv_goto (tgt := 18) hx hb dX12_wordOf_36 (by decide) ?_
            exact ih_18 _ (by omega) locs ls v7218  rfl (lv_sub hl [0, 1, 2, 3, 4, 5] rfl) ⟨by omega, by omega⟩ ⟨by omega, by omega⟩ (by first | omega | (rw [show (0 : Int32).toInt = 0 from by decide]; omega)) hS
      refine lv_iload hx hb dX12_wordOf_5 (lv_at hl 0 rfl) ?_
      refine lv_aload_n hx hb dX12_wordOf_7 rfl (lv_at hl 2 rfl) ?_
      refine gmA hx hb hts inT12 hown hK hI List.not_mem_nil hG0 7 (by decide) (hts _ (tb_c wd_1240)) rfl rfl dX12_wordOf_8 (fun a7220 hq7221 hf7222 => ?_)
      obtain rfl := fr.uniq (by decide) hf_7 hf7222
      refine va_alen hx hb hK (th_one hA_7) 0 3 rfl (v := 89) rfl (show Int32.ofNat 89 = (89 : Int32) from by decide) dX12_wordOf_11 ?_
      refine lv_icmp_ge (tgt := 126) hx hb dX12_wordOf_12 (by decide) (fun c7223 => ?_) (fun c7223 => ?_)
      · skip
        have k7224 := iv_le (X := (89)) (Y := v7123.toInt) (by decide) rfl c7223
        refine lv_iconst (v := 0) hx hb dX12_wordOf_126 (by decide) ?_
        have hpost : True := trivial
        rw [hQ]
        exact W.iret (v := 0) hx hb hr (fun t ht hW => ⟨⟨0, (), rfl, hpost, ht⟩, hS.F ht⟩) hS.2.2 dX12_wordOf_127
      · skip
        have k7225 := iv_nle (X := (89)) (Y := v7123.toInt) (by decide) rfl c7223
        refine lv_iconst (v := 0) hx hb dX12_wordOf_15 (by decide) ?_
        refine lv_istore (lv' := [(5, .int 0), (4, .int v7123), (3, .int v7124), (0, .ref h0), (1, .int x1), (2, .int x2)]) hx hb dX12_wordOf_16 hl (by decide) rfl (fun ls hl => ?_)
        have zl : (0 : Int32).toInt = 0 := by decide
        exact J_18 _ locs ls 0  rfl (lv_sub hl [0, 1, 2, 3, 4, 5] rfl) ⟨by decide, by decide⟩ ⟨by omega, by omega⟩ (by first | omega | (rw [show (0 : Int32).toInt = 0 from by decide]; omega)) hS
  refine lv_iconst (v := 1) hx hb dX12_wordOf_0 (by decide) ?_
  refine lv_istore_n (lv' := [(3, .int 1), (0, .ref h0), (1, .int x1), (2, .int x2)]) hx hb dX12_wordOf_1 rfl hl (by decide) rfl (fun ls hl => ?_)
  refine lv_iconst (v := 0) hx hb dX12_wordOf_2 (by decide) ?_
  refine lv_istore (lv' := [(4, .int 0), (3, .int 1), (0, .ref h0), (1, .int x1), (2, .int x2)]) hx hb dX12_wordOf_3 hl (by decide) rfl (fun ls hl => ?_)
  have zl : (0 : Int32).toInt = 0 := by decide
  exact J_5 _ [] ls 0 1  rfl (lv_sub hl [0, 1, 2, 3, 4] rfl) ⟨by decide, by decide⟩ ⟨by omega, by omega⟩ ⟨by omega, by omega⟩ hS
theorem dX12_splits_0g : (decode cX12_splits 0 = .ok (.aload_n 0, 1)) ∧ (decode cX12_splits 1 = .ok (.iconst 0, 1)) ∧ (decode cX12_splits 2 = .ok (.putfield 145, 3)) ∧ (decode cX12_splits 5 = .ok (.iconst 0, 1)) ∧ (decode cX12_splits 6 = .ok (.istore_n 2, 1)) ∧ (decode cX12_splits 7 = .ok (.iload_n 2, 1)) ∧ (decode cX12_splits 8 = .ok (.iload_n 1, 1)) ∧ (decode cX12_splits 9 = .ok (.if_icmp .ge 254, 3)) ∧ (decode cX12_splits 12 = .ok (.aload_n 0, 1)) ∧ (decode cX12_splits 13 = .ok (.getfield 34, 3)) := by decide +kernel
theorem dX12_splits_0 : decode cX12_splits 0 = .ok (.aload_n 0, 1) := dX12_splits_0g.1
theorem dX12_splits_1 : decode cX12_splits 1 = .ok (.iconst 0, 1) := dX12_splits_0g.2.1
theorem dX12_splits_2 : decode cX12_splits 2 = .ok (.putfield 145, 3) := dX12_splits_0g.2.2.1
theorem dX12_splits_5 : decode cX12_splits 5 = .ok (.iconst 0, 1) := dX12_splits_0g.2.2.2.1
theorem dX12_splits_6 : decode cX12_splits 6 = .ok (.istore_n 2, 1) := dX12_splits_0g.2.2.2.2.1
theorem dX12_splits_7 : decode cX12_splits 7 = .ok (.iload_n 2, 1) := dX12_splits_0g.2.2.2.2.2.1
theorem dX12_splits_8 : decode cX12_splits 8 = .ok (.iload_n 1, 1) := dX12_splits_0g.2.2.2.2.2.2.1
theorem dX12_splits_9 : decode cX12_splits 9 = .ok (.if_icmp .ge 254, 3) := dX12_splits_0g.2.2.2.2.2.2.2.1
theorem dX12_splits_12 : decode cX12_splits 12 = .ok (.aload_n 0, 1) := dX12_splits_0g.2.2.2.2.2.2.2.2.1
theorem dX12_splits_13 : decode cX12_splits 13 = .ok (.getfield 34, 3) := dX12_splits_0g.2.2.2.2.2.2.2.2.2
theorem dX12_splits_16g : (decode cX12_splits 16 = .ok (.iload_n 2, 1)) ∧ (decode cX12_splits 17 = .ok (.baload, 1)) ∧ (decode cX12_splits 18 = .ok (.istore_n 3, 1)) ∧ (decode cX12_splits 19 = .ok (.iload_n 3, 1)) ∧ (decode cX12_splits 20 = .ok (.bipush 32, 2)) ∧ (decode cX12_splits 22 = .ok (.if_icmp .ne 9, 3)) ∧ (decode cX12_splits 25 = .ok (.iinc 2 1, 3)) ∧ (decode cX12_splits 28 = .ok (.goto (-21), 3)) ∧ (decode cX12_splits 31 = .ok (.iload_n 2, 1)) ∧ (decode cX12_splits 32 = .ok (.iconst 1, 1)) := by decide +kernel
theorem dX12_splits_16 : decode cX12_splits 16 = .ok (.iload_n 2, 1) := dX12_splits_16g.1
theorem dX12_splits_17 : decode cX12_splits 17 = .ok (.baload, 1) := dX12_splits_16g.2.1
theorem dX12_splits_18 : decode cX12_splits 18 = .ok (.istore_n 3, 1) := dX12_splits_16g.2.2.1
theorem dX12_splits_19 : decode cX12_splits 19 = .ok (.iload_n 3, 1) := dX12_splits_16g.2.2.2.1
theorem dX12_splits_20 : decode cX12_splits 20 = .ok (.bipush 32, 2) := dX12_splits_16g.2.2.2.2.1
theorem dX12_splits_22 : decode cX12_splits 22 = .ok (.if_icmp .ne 9, 3) := dX12_splits_16g.2.2.2.2.2.1
theorem dX12_splits_25 : decode cX12_splits 25 = .ok (.iinc 2 1, 3) := dX12_splits_16g.2.2.2.2.2.2.1
theorem dX12_splits_28 : decode cX12_splits 28 = .ok (.goto (-21), 3) := dX12_splits_16g.2.2.2.2.2.2.2.1
theorem dX12_splits_31 : decode cX12_splits 31 = .ok (.iload_n 2, 1) := dX12_splits_16g.2.2.2.2.2.2.2.2.1
theorem dX12_splits_32 : decode cX12_splits 32 = .ok (.iconst 1, 1) := dX12_splits_16g.2.2.2.2.2.2.2.2.2
theorem dX12_splits_33g : (decode cX12_splits 33 = .ok (.iadd, 1)) ∧ (decode cX12_splits 34 = .ok (.istore 4, 2)) ∧ (decode cX12_splits 36 = .ok (.iload_n 3, 1)) ∧ (decode cX12_splits 37 = .ok (.invokestatic 148, 3)) ∧ (decode cX12_splits 40 = .ok (.ifCond .eq 28, 3)) ∧ (decode cX12_splits 43 = .ok (.iload 4, 2)) ∧ (decode cX12_splits 45 = .ok (.iload_n 1, 1)) ∧ (decode cX12_splits 46 = .ok (.if_icmp .ge 22, 3)) ∧ (decode cX12_splits 49 = .ok (.aload_n 0, 1)) ∧ (decode cX12_splits 50 = .ok (.getfield 34, 3)) := by decide +kernel
theorem dX12_splits_33 : decode cX12_splits 33 = .ok (.iadd, 1) := dX12_splits_33g.1
theorem dX12_splits_34 : decode cX12_splits 34 = .ok (.istore 4, 2) := dX12_splits_33g.2.1
theorem dX12_splits_36 : decode cX12_splits 36 = .ok (.iload_n 3, 1) := dX12_splits_33g.2.2.1
theorem dX12_splits_37 : decode cX12_splits 37 = .ok (.invokestatic 148, 3) := dX12_splits_33g.2.2.2.1
theorem dX12_splits_40 : decode cX12_splits 40 = .ok (.ifCond .eq 28, 3) := dX12_splits_33g.2.2.2.2.1
theorem dX12_splits_43 : decode cX12_splits 43 = .ok (.iload 4, 2) := dX12_splits_33g.2.2.2.2.2.1
theorem dX12_splits_45 : decode cX12_splits 45 = .ok (.iload_n 1, 1) := dX12_splits_33g.2.2.2.2.2.2.1
theorem dX12_splits_46 : decode cX12_splits 46 = .ok (.if_icmp .ge 22, 3) := dX12_splits_33g.2.2.2.2.2.2.2.1
theorem dX12_splits_49 : decode cX12_splits 49 = .ok (.aload_n 0, 1) := dX12_splits_33g.2.2.2.2.2.2.2.2.1
theorem dX12_splits_50 : decode cX12_splits 50 = .ok (.getfield 34, 3) := dX12_splits_33g.2.2.2.2.2.2.2.2.2
theorem dX12_splits_53g : (decode cX12_splits 53 = .ok (.iload 4, 2)) ∧ (decode cX12_splits 55 = .ok (.baload, 1)) ∧ (decode cX12_splits 56 = .ok (.invokestatic 148, 3)) ∧ (decode cX12_splits 59 = .ok (.ifCond .eq 9, 3)) ∧ (decode cX12_splits 62 = .ok (.iinc 4 1, 3)) ∧ (decode cX12_splits 65 = .ok (.goto (-22), 3)) ∧ (decode cX12_splits 68 = .ok (.iload_n 3, 1)) ∧ (decode cX12_splits 69 = .ok (.invokestatic 151, 3)) ∧ (decode cX12_splits 72 = .ok (.ifCond .eq 28, 3)) ∧ (decode cX12_splits 75 = .ok (.iload 4, 2)) := by decide +kernel
theorem dX12_splits_53 : decode cX12_splits 53 = .ok (.iload 4, 2) := dX12_splits_53g.1
theorem dX12_splits_55 : decode cX12_splits 55 = .ok (.baload, 1) := dX12_splits_53g.2.1
theorem dX12_splits_56 : decode cX12_splits 56 = .ok (.invokestatic 148, 3) := dX12_splits_53g.2.2.1
theorem dX12_splits_59 : decode cX12_splits 59 = .ok (.ifCond .eq 9, 3) := dX12_splits_53g.2.2.2.1
theorem dX12_splits_62 : decode cX12_splits 62 = .ok (.iinc 4 1, 3) := dX12_splits_53g.2.2.2.2.1
theorem dX12_splits_65 : decode cX12_splits 65 = .ok (.goto (-22), 3) := dX12_splits_53g.2.2.2.2.2.1
theorem dX12_splits_68 : decode cX12_splits 68 = .ok (.iload_n 3, 1) := dX12_splits_53g.2.2.2.2.2.2.1
theorem dX12_splits_69 : decode cX12_splits 69 = .ok (.invokestatic 151, 3) := dX12_splits_53g.2.2.2.2.2.2.2.1
theorem dX12_splits_72 : decode cX12_splits 72 = .ok (.ifCond .eq 28, 3) := dX12_splits_53g.2.2.2.2.2.2.2.2.1
theorem dX12_splits_75 : decode cX12_splits 75 = .ok (.iload 4, 2) := dX12_splits_53g.2.2.2.2.2.2.2.2.2
theorem dX12_splits_77g : (decode cX12_splits 77 = .ok (.iload_n 1, 1)) ∧ (decode cX12_splits 78 = .ok (.if_icmp .ge 22, 3)) ∧ (decode cX12_splits 81 = .ok (.aload_n 0, 1)) ∧ (decode cX12_splits 82 = .ok (.getfield 34, 3)) ∧ (decode cX12_splits 85 = .ok (.iload 4, 2)) ∧ (decode cX12_splits 87 = .ok (.baload, 1)) ∧ (decode cX12_splits 88 = .ok (.invokestatic 151, 3)) ∧ (decode cX12_splits 91 = .ok (.ifCond .eq 9, 3)) ∧ (decode cX12_splits 94 = .ok (.iinc 4 1, 3)) ∧ (decode cX12_splits 97 = .ok (.goto (-22), 3)) := by decide +kernel
theorem dX12_splits_77 : decode cX12_splits 77 = .ok (.iload_n 1, 1) := dX12_splits_77g.1
theorem dX12_splits_78 : decode cX12_splits 78 = .ok (.if_icmp .ge 22, 3) := dX12_splits_77g.2.1
theorem dX12_splits_81 : decode cX12_splits 81 = .ok (.aload_n 0, 1) := dX12_splits_77g.2.2.1
theorem dX12_splits_82 : decode cX12_splits 82 = .ok (.getfield 34, 3) := dX12_splits_77g.2.2.2.1
theorem dX12_splits_85 : decode cX12_splits 85 = .ok (.iload 4, 2) := dX12_splits_77g.2.2.2.2.1
theorem dX12_splits_87 : decode cX12_splits 87 = .ok (.baload, 1) := dX12_splits_77g.2.2.2.2.2.1
theorem dX12_splits_88 : decode cX12_splits 88 = .ok (.invokestatic 151, 3) := dX12_splits_77g.2.2.2.2.2.2.1
theorem dX12_splits_91 : decode cX12_splits 91 = .ok (.ifCond .eq 9, 3) := dX12_splits_77g.2.2.2.2.2.2.2.1
theorem dX12_splits_94 : decode cX12_splits 94 = .ok (.iinc 4 1, 3) := dX12_splits_77g.2.2.2.2.2.2.2.2.1
theorem dX12_splits_97 : decode cX12_splits 97 = .ok (.goto (-22), 3) := dX12_splits_77g.2.2.2.2.2.2.2.2.2
theorem dX12_splits_100g : (decode cX12_splits 100 = .ok (.aload_n 0, 1)) ∧ (decode cX12_splits 101 = .ok (.getfield 49, 3)) ∧ (decode cX12_splits 104 = .ok (.aload_n 0, 1)) ∧ (decode cX12_splits 105 = .ok (.getfield 145, 3)) ∧ (decode cX12_splits 108 = .ok (.iload_n 2, 1)) ∧ (decode cX12_splits 109 = .ok (.iastore, 1)) ∧ (decode cX12_splits 110 = .ok (.aload_n 0, 1)) ∧ (decode cX12_splits 111 = .ok (.getfield 46, 3)) ∧ (decode cX12_splits 114 = .ok (.aload_n 0, 1)) ∧ (decode cX12_splits 115 = .ok (.getfield 145, 3)) := by decide +kernel
theorem dX12_splits_100 : decode cX12_splits 100 = .ok (.aload_n 0, 1) := dX12_splits_100g.1
theorem dX12_splits_101 : decode cX12_splits 101 = .ok (.getfield 49, 3) := dX12_splits_100g.2.1
theorem dX12_splits_104 : decode cX12_splits 104 = .ok (.aload_n 0, 1) := dX12_splits_100g.2.2.1
theorem dX12_splits_105 : decode cX12_splits 105 = .ok (.getfield 145, 3) := dX12_splits_100g.2.2.2.1
theorem dX12_splits_108 : decode cX12_splits 108 = .ok (.iload_n 2, 1) := dX12_splits_100g.2.2.2.2.1
theorem dX12_splits_109 : decode cX12_splits 109 = .ok (.iastore, 1) := dX12_splits_100g.2.2.2.2.2.1
theorem dX12_splits_110 : decode cX12_splits 110 = .ok (.aload_n 0, 1) := dX12_splits_100g.2.2.2.2.2.2.1
theorem dX12_splits_111 : decode cX12_splits 111 = .ok (.getfield 46, 3) := dX12_splits_100g.2.2.2.2.2.2.2.1
theorem dX12_splits_114 : decode cX12_splits 114 = .ok (.aload_n 0, 1) := dX12_splits_100g.2.2.2.2.2.2.2.2.1
theorem dX12_splits_115 : decode cX12_splits 115 = .ok (.getfield 145, 3) := dX12_splits_100g.2.2.2.2.2.2.2.2.2
theorem dX12_splits_118g : (decode cX12_splits 118 = .ok (.iconst 0, 1)) ∧ (decode cX12_splits 119 = .ok (.iastore, 1)) ∧ (decode cX12_splits 120 = .ok (.aload_n 0, 1)) ∧ (decode cX12_splits 121 = .ok (.getfield 43, 3)) ∧ (decode cX12_splits 124 = .ok (.aload_n 0, 1)) ∧ (decode cX12_splits 125 = .ok (.getfield 145, 3)) ∧ (decode cX12_splits 128 = .ok (.iload_n 3, 1)) ∧ (decode cX12_splits 129 = .ok (.invokestatic 148, 3)) ∧ (decode cX12_splits 132 = .ok (.ifCond .eq 13, 3)) ∧ (decode cX12_splits 135 = .ok (.aload_n 0, 1)) := by decide +kernel
theorem dX12_splits_118 : decode cX12_splits 118 = .ok (.iconst 0, 1) := dX12_splits_118g.1
theorem dX12_splits_119 : decode cX12_splits 119 = .ok (.iastore, 1) := dX12_splits_118g.2.1
theorem dX12_splits_120 : decode cX12_splits 120 = .ok (.aload_n 0, 1) := dX12_splits_118g.2.2.1
theorem dX12_splits_121 : decode cX12_splits 121 = .ok (.getfield 43, 3) := dX12_splits_118g.2.2.2.1
theorem dX12_splits_124 : decode cX12_splits 124 = .ok (.aload_n 0, 1) := dX12_splits_118g.2.2.2.2.1
theorem dX12_splits_125 : decode cX12_splits 125 = .ok (.getfield 145, 3) := dX12_splits_118g.2.2.2.2.2.1
theorem dX12_splits_128 : decode cX12_splits 128 = .ok (.iload_n 3, 1) := dX12_splits_118g.2.2.2.2.2.2.1
theorem dX12_splits_129 : decode cX12_splits 129 = .ok (.invokestatic 148, 3) := dX12_splits_118g.2.2.2.2.2.2.2.1
theorem dX12_splits_132 : decode cX12_splits 132 = .ok (.ifCond .eq 13, 3) := dX12_splits_118g.2.2.2.2.2.2.2.2.1
theorem dX12_splits_135 : decode cX12_splits 135 = .ok (.aload_n 0, 1) := dX12_splits_118g.2.2.2.2.2.2.2.2.2
theorem dX12_splits_136g : (decode cX12_splits 136 = .ok (.iload_n 2, 1)) ∧ (decode cX12_splits 137 = .ok (.iload 4, 2)) ∧ (decode cX12_splits 139 = .ok (.invokevirtual 154, 3)) ∧ (decode cX12_splits 142 = .ok (.goto 23, 3)) ∧ (decode cX12_splits 145 = .ok (.iload_n 3, 1)) ∧ (decode cX12_splits 146 = .ok (.invokestatic 151, 3)) ∧ (decode cX12_splits 149 = .ok (.ifCond .eq 8, 3)) ∧ (decode cX12_splits 152 = .ok (.bipush 50, 2)) ∧ (decode cX12_splits 154 = .ok (.goto 11, 3)) ∧ (decode cX12_splits 157 = .ok (.bipush 100, 2)) := by decide +kernel
theorem dX12_splits_136 : decode cX12_splits 136 = .ok (.iload_n 2, 1) := dX12_splits_136g.1
theorem dX12_splits_137 : decode cX12_splits 137 = .ok (.iload 4, 2) := dX12_splits_136g.2.1
theorem dX12_splits_139 : decode cX12_splits 139 = .ok (.invokevirtual 154, 3) := dX12_splits_136g.2.2.1
theorem dX12_splits_142 : decode cX12_splits 142 = .ok (.goto 23, 3) := dX12_splits_136g.2.2.2.1
theorem dX12_splits_145 : decode cX12_splits 145 = .ok (.iload_n 3, 1) := dX12_splits_136g.2.2.2.2.1
theorem dX12_splits_146 : decode cX12_splits 146 = .ok (.invokestatic 151, 3) := dX12_splits_136g.2.2.2.2.2.1
theorem dX12_splits_149 : decode cX12_splits 149 = .ok (.ifCond .eq 8, 3) := dX12_splits_136g.2.2.2.2.2.2.1
theorem dX12_splits_152 : decode cX12_splits 152 = .ok (.bipush 50, 2) := dX12_splits_136g.2.2.2.2.2.2.2.1
theorem dX12_splits_154 : decode cX12_splits 154 = .ok (.goto 11, 3) := dX12_splits_136g.2.2.2.2.2.2.2.2.1
theorem dX12_splits_157 : decode cX12_splits 157 = .ok (.bipush 100, 2) := dX12_splits_136g.2.2.2.2.2.2.2.2.2
theorem dX12_splits_159g : (decode cX12_splits 159 = .ok (.iload_n 3, 1)) ∧ (decode cX12_splits 160 = .ok (.sipush 255, 3)) ∧ (decode cX12_splits 163 = .ok (.iand, 1)) ∧ (decode cX12_splits 164 = .ok (.iadd, 1)) ∧ (decode cX12_splits 165 = .ok (.iastore, 1)) ∧ (decode cX12_splits 166 = .ok (.iload_n 2, 1)) ∧ (decode cX12_splits 167 = .ok (.istore 5, 2)) ∧ (decode cX12_splits 169 = .ok (.iload 5, 2)) ∧ (decode cX12_splits 171 = .ok (.iload 4, 2)) ∧ (decode cX12_splits 173 = .ok (.if_icmp .ge 74, 3)) := by decide +kernel
theorem dX12_splits_159 : decode cX12_splits 159 = .ok (.iload_n 3, 1) := dX12_splits_159g.1
theorem dX12_splits_160 : decode cX12_splits 160 = .ok (.sipush 255, 3) := dX12_splits_159g.2.1
theorem dX12_splits_163 : decode cX12_splits 163 = .ok (.iand, 1) := dX12_splits_159g.2.2.1
theorem dX12_splits_164 : decode cX12_splits 164 = .ok (.iadd, 1) := dX12_splits_159g.2.2.2.1
theorem dX12_splits_165 : decode cX12_splits 165 = .ok (.iastore, 1) := dX12_splits_159g.2.2.2.2.1
theorem dX12_splits_166 : decode cX12_splits 166 = .ok (.iload_n 2, 1) := dX12_splits_159g.2.2.2.2.2.1
theorem dX12_splits_167 : decode cX12_splits 167 = .ok (.istore 5, 2) := dX12_splits_159g.2.2.2.2.2.2.1
theorem dX12_splits_169 : decode cX12_splits 169 = .ok (.iload 5, 2) := dX12_splits_159g.2.2.2.2.2.2.2.1
theorem dX12_splits_171 : decode cX12_splits 171 = .ok (.iload 4, 2) := dX12_splits_159g.2.2.2.2.2.2.2.2.1
theorem dX12_splits_173 : decode cX12_splits 173 = .ok (.if_icmp .ge 74, 3) := dX12_splits_159g.2.2.2.2.2.2.2.2.2
theorem dX12_splits_176g : (decode cX12_splits 176 = .ok (.iload_n 3, 1)) ∧ (decode cX12_splits 177 = .ok (.invokestatic 151, 3)) ∧ (decode cX12_splits 180 = .ok (.ifCond .eq 67, 3)) ∧ (decode cX12_splits 183 = .ok (.aload_n 0, 1)) ∧ (decode cX12_splits 184 = .ok (.getfield 46, 3)) ∧ (decode cX12_splits 187 = .ok (.aload_n 0, 1)) ∧ (decode cX12_splits 188 = .ok (.getfield 145, 3)) ∧ (decode cX12_splits 191 = .ok (.aload_n 0, 1)) ∧ (decode cX12_splits 192 = .ok (.getfield 46, 3)) ∧ (decode cX12_splits 195 = .ok (.aload_n 0, 1)) := by decide +kernel
theorem dX12_splits_176 : decode cX12_splits 176 = .ok (.iload_n 3, 1) := dX12_splits_176g.1
theorem dX12_splits_177 : decode cX12_splits 177 = .ok (.invokestatic 151, 3) := dX12_splits_176g.2.1
theorem dX12_splits_180 : decode cX12_splits 180 = .ok (.ifCond .eq 67, 3) := dX12_splits_176g.2.2.1
theorem dX12_splits_183 : decode cX12_splits 183 = .ok (.aload_n 0, 1) := dX12_splits_176g.2.2.2.1
theorem dX12_splits_184 : decode cX12_splits 184 = .ok (.getfield 46, 3) := dX12_splits_176g.2.2.2.2.1
theorem dX12_splits_187 : decode cX12_splits 187 = .ok (.aload_n 0, 1) := dX12_splits_176g.2.2.2.2.2.1
theorem dX12_splits_188 : decode cX12_splits 188 = .ok (.getfield 145, 3) := dX12_splits_176g.2.2.2.2.2.2.1
theorem dX12_splits_191 : decode cX12_splits 191 = .ok (.aload_n 0, 1) := dX12_splits_176g.2.2.2.2.2.2.2.1
theorem dX12_splits_192 : decode cX12_splits 192 = .ok (.getfield 46, 3) := dX12_splits_176g.2.2.2.2.2.2.2.2.1
theorem dX12_splits_195 : decode cX12_splits 195 = .ok (.aload_n 0, 1) := dX12_splits_176g.2.2.2.2.2.2.2.2.2
theorem dX12_splits_196g : (decode cX12_splits 196 = .ok (.getfield 145, 3)) ∧ (decode cX12_splits 199 = .ok (.iaload, 1)) ∧ (decode cX12_splits 200 = .ok (.ldc 158, 2)) ∧ (decode cX12_splits 202 = .ok (.if_icmp .le 15, 3)) ∧ (decode cX12_splits 205 = .ok (.aload_n 0, 1)) ∧ (decode cX12_splits 206 = .ok (.getfield 46, 3)) ∧ (decode cX12_splits 209 = .ok (.aload_n 0, 1)) ∧ (decode cX12_splits 210 = .ok (.getfield 145, 3)) ∧ (decode cX12_splits 213 = .ok (.iaload, 1)) ∧ (decode cX12_splits 214 = .ok (.goto 26, 3)) := by decide +kernel
theorem dX12_splits_196 : decode cX12_splits 196 = .ok (.getfield 145, 3) := dX12_splits_196g.1
theorem dX12_splits_199 : decode cX12_splits 199 = .ok (.iaload, 1) := dX12_splits_196g.2.1
theorem dX12_splits_200 : decode cX12_splits 200 = .ok (.ldc 158, 2) := dX12_splits_196g.2.2.1
theorem dX12_splits_202 : decode cX12_splits 202 = .ok (.if_icmp .le 15, 3) := dX12_splits_196g.2.2.2.1
theorem dX12_splits_205 : decode cX12_splits 205 = .ok (.aload_n 0, 1) := dX12_splits_196g.2.2.2.2.1
theorem dX12_splits_206 : decode cX12_splits 206 = .ok (.getfield 46, 3) := dX12_splits_196g.2.2.2.2.2.1
theorem dX12_splits_209 : decode cX12_splits 209 = .ok (.aload_n 0, 1) := dX12_splits_196g.2.2.2.2.2.2.1
theorem dX12_splits_210 : decode cX12_splits 210 = .ok (.getfield 145, 3) := dX12_splits_196g.2.2.2.2.2.2.2.1
theorem dX12_splits_213 : decode cX12_splits 213 = .ok (.iaload, 1) := dX12_splits_196g.2.2.2.2.2.2.2.2.1
theorem dX12_splits_214 : decode cX12_splits 214 = .ok (.goto 26, 3) := dX12_splits_196g.2.2.2.2.2.2.2.2.2
theorem dX12_splits_217g : (decode cX12_splits 217 = .ok (.bipush 10, 2)) ∧ (decode cX12_splits 219 = .ok (.aload_n 0, 1)) ∧ (decode cX12_splits 220 = .ok (.getfield 46, 3)) ∧ (decode cX12_splits 223 = .ok (.aload_n 0, 1)) ∧ (decode cX12_splits 224 = .ok (.getfield 145, 3)) ∧ (decode cX12_splits 227 = .ok (.iaload, 1)) ∧ (decode cX12_splits 228 = .ok (.imul, 1)) ∧ (decode cX12_splits 229 = .ok (.aload_n 0, 1)) ∧ (decode cX12_splits 230 = .ok (.getfield 34, 3)) ∧ (decode cX12_splits 233 = .ok (.iload 5, 2)) := by decide +kernel
theorem dX12_splits_217 : decode cX12_splits 217 = .ok (.bipush 10, 2) := dX12_splits_217g.1
theorem dX12_splits_219 : decode cX12_splits 219 = .ok (.aload_n 0, 1) := dX12_splits_217g.2.1
theorem dX12_splits_220 : decode cX12_splits 220 = .ok (.getfield 46, 3) := dX12_splits_217g.2.2.1
theorem dX12_splits_223 : decode cX12_splits 223 = .ok (.aload_n 0, 1) := dX12_splits_217g.2.2.2.1
theorem dX12_splits_224 : decode cX12_splits 224 = .ok (.getfield 145, 3) := dX12_splits_217g.2.2.2.2.1
theorem dX12_splits_227 : decode cX12_splits 227 = .ok (.iaload, 1) := dX12_splits_217g.2.2.2.2.2.1
theorem dX12_splits_228 : decode cX12_splits 228 = .ok (.imul, 1) := dX12_splits_217g.2.2.2.2.2.2.1
theorem dX12_splits_229 : decode cX12_splits 229 = .ok (.aload_n 0, 1) := dX12_splits_217g.2.2.2.2.2.2.2.1
theorem dX12_splits_230 : decode cX12_splits 230 = .ok (.getfield 34, 3) := dX12_splits_217g.2.2.2.2.2.2.2.2.1
theorem dX12_splits_233 : decode cX12_splits 233 = .ok (.iload 5, 2) := dX12_splits_217g.2.2.2.2.2.2.2.2.2
theorem dX12_splits_235g : (decode cX12_splits 235 = .ok (.baload, 1)) ∧ (decode cX12_splits 236 = .ok (.iadd, 1)) ∧ (decode cX12_splits 237 = .ok (.bipush 48, 2)) ∧ (decode cX12_splits 239 = .ok (.isub, 1)) ∧ (decode cX12_splits 240 = .ok (.iastore, 1)) ∧ (decode cX12_splits 241 = .ok (.iinc 5 1, 3)) ∧ (decode cX12_splits 244 = .ok (.goto (-75), 3)) ∧ (decode cX12_splits 247 = .ok (.aload_n 0, 1)) ∧ (decode cX12_splits 248 = .ok (.dup, 1)) ∧ (decode cX12_splits 249 = .ok (.getfield 145, 3)) := by decide +kernel
theorem dX12_splits_235 : decode cX12_splits 235 = .ok (.baload, 1) := dX12_splits_235g.1
theorem dX12_splits_236 : decode cX12_splits 236 = .ok (.iadd, 1) := dX12_splits_235g.2.1
theorem dX12_splits_237 : decode cX12_splits 237 = .ok (.bipush 48, 2) := dX12_splits_235g.2.2.1
theorem dX12_splits_239 : decode cX12_splits 239 = .ok (.isub, 1) := dX12_splits_235g.2.2.2.1
theorem dX12_splits_240 : decode cX12_splits 240 = .ok (.iastore, 1) := dX12_splits_235g.2.2.2.2.1
theorem dX12_splits_241 : decode cX12_splits 241 = .ok (.iinc 5 1, 3) := dX12_splits_235g.2.2.2.2.2.1
theorem dX12_splits_244 : decode cX12_splits 244 = .ok (.goto (-75), 3) := dX12_splits_235g.2.2.2.2.2.2.1
theorem dX12_splits_247 : decode cX12_splits 247 = .ok (.aload_n 0, 1) := dX12_splits_235g.2.2.2.2.2.2.2.1
theorem dX12_splits_248 : decode cX12_splits 248 = .ok (.dup, 1) := dX12_splits_235g.2.2.2.2.2.2.2.2.1
theorem dX12_splits_249 : decode cX12_splits 249 = .ok (.getfield 145, 3) := dX12_splits_235g.2.2.2.2.2.2.2.2.2
theorem dX12_splits_252g : (decode cX12_splits 252 = .ok (.iconst 1, 1)) ∧ (decode cX12_splits 253 = .ok (.iadd, 1)) ∧ (decode cX12_splits 254 = .ok (.putfield 145, 3)) ∧ (decode cX12_splits 257 = .ok (.iload 4, 2)) ∧ (decode cX12_splits 259 = .ok (.istore_n 2, 1)) ∧ (decode cX12_splits 260 = .ok (.goto (-253), 3)) ∧ (decode cX12_splits 263 = .ok (.aload_n 0, 1)) ∧ (decode cX12_splits 264 = .ok (.getfield 49, 3)) ∧ (decode cX12_splits 267 = .ok (.aload_n 0, 1)) ∧ (decode cX12_splits 268 = .ok (.getfield 145, 3)) := by decide +kernel
theorem dX12_splits_252 : decode cX12_splits 252 = .ok (.iconst 1, 1) := dX12_splits_252g.1
theorem dX12_splits_253 : decode cX12_splits 253 = .ok (.iadd, 1) := dX12_splits_252g.2.1
theorem dX12_splits_254 : decode cX12_splits 254 = .ok (.putfield 145, 3) := dX12_splits_252g.2.2.1
theorem dX12_splits_257 : decode cX12_splits 257 = .ok (.iload 4, 2) := dX12_splits_252g.2.2.2.1
theorem dX12_splits_259 : decode cX12_splits 259 = .ok (.istore_n 2, 1) := dX12_splits_252g.2.2.2.2.1
theorem dX12_splits_260 : decode cX12_splits 260 = .ok (.goto (-253), 3) := dX12_splits_252g.2.2.2.2.2.1
theorem dX12_splits_263 : decode cX12_splits 263 = .ok (.aload_n 0, 1) := dX12_splits_252g.2.2.2.2.2.2.1
theorem dX12_splits_264 : decode cX12_splits 264 = .ok (.getfield 49, 3) := dX12_splits_252g.2.2.2.2.2.2.2.1
theorem dX12_splits_267 : decode cX12_splits 267 = .ok (.aload_n 0, 1) := dX12_splits_252g.2.2.2.2.2.2.2.2.1
theorem dX12_splits_268 : decode cX12_splits 268 = .ok (.getfield 145, 3) := dX12_splits_252g.2.2.2.2.2.2.2.2.2
theorem dX12_splits_271g : (decode cX12_splits 271 = .ok (.iload_n 1, 1)) ∧ (decode cX12_splits 272 = .ok (.iastore, 1)) ∧ (decode cX12_splits 273 = .ok (.aload_n 0, 1)) ∧ (decode cX12_splits 274 = .ok (.getfield 43, 3)) ∧ (decode cX12_splits 277 = .ok (.aload_n 0, 1)) ∧ (decode cX12_splits 278 = .ok (.getfield 145, 3)) ∧ (decode cX12_splits 281 = .ok (.iconst 0, 1)) ∧ (decode cX12_splits 282 = .ok (.iastore, 1)) ∧ (decode cX12_splits 283 = .ok (.aload_n 0, 1)) ∧ (decode cX12_splits 284 = .ok (.getfield 46, 3)) := by decide +kernel
theorem dX12_splits_271 : decode cX12_splits 271 = .ok (.iload_n 1, 1) := dX12_splits_271g.1
theorem dX12_splits_272 : decode cX12_splits 272 = .ok (.iastore, 1) := dX12_splits_271g.2.1
theorem dX12_splits_273 : decode cX12_splits 273 = .ok (.aload_n 0, 1) := dX12_splits_271g.2.2.1
theorem dX12_splits_274 : decode cX12_splits 274 = .ok (.getfield 43, 3) := dX12_splits_271g.2.2.2.1
theorem dX12_splits_277 : decode cX12_splits 277 = .ok (.aload_n 0, 1) := dX12_splits_271g.2.2.2.2.1
theorem dX12_splits_278 : decode cX12_splits 278 = .ok (.getfield 145, 3) := dX12_splits_271g.2.2.2.2.2.1
theorem dX12_splits_281 : decode cX12_splits 281 = .ok (.iconst 0, 1) := dX12_splits_271g.2.2.2.2.2.2.1
theorem dX12_splits_282 : decode cX12_splits 282 = .ok (.iastore, 1) := dX12_splits_271g.2.2.2.2.2.2.2.1
theorem dX12_splits_283 : decode cX12_splits 283 = .ok (.aload_n 0, 1) := dX12_splits_271g.2.2.2.2.2.2.2.2.1
theorem dX12_splits_284 : decode cX12_splits 284 = .ok (.getfield 46, 3) := dX12_splits_271g.2.2.2.2.2.2.2.2.2
theorem dX12_splits_287g : (decode cX12_splits 287 = .ok (.aload_n 0, 1)) ∧ (decode cX12_splits 288 = .ok (.getfield 145, 3)) ∧ (decode cX12_splits 291 = .ok (.iconst 0, 1)) ∧ (decode cX12_splits 292 = .ok (.iastore, 1)) ∧ (decode cX12_splits 293 = .ok (.return_, 1)) := by decide +kernel
theorem dX12_splits_287 : decode cX12_splits 287 = .ok (.aload_n 0, 1) := dX12_splits_287g.1
theorem dX12_splits_288 : decode cX12_splits 288 = .ok (.getfield 145, 3) := dX12_splits_287g.2.1
theorem dX12_splits_291 : decode cX12_splits 291 = .ok (.iconst 0, 1) := dX12_splits_287g.2.2.1
theorem dX12_splits_292 : decode cX12_splits 292 = .ok (.iastore, 1) := dX12_splits_287g.2.2.2.1
theorem dX12_splits_293 : decode cX12_splits 293 = .ok (.return_, 1) := dX12_splits_287g.2.2.2.2
set_option maxHeartbeats 4000000 in
set_option maxRecDepth 100000 in
theorem c_X12_splits (l : Launch) (E : Nat → Nat) (D : va_G) (G : th_G) (h0 : Nat) (hG0 : G h0 = some (10, 0)) (x1 : Int32) (hx1 : (0 : Int) ≤ x1.toInt ∧ x1.toInt ≤ 400) (ff : Nat → Int32) (hkf : kOk (E 10) ff) : Met l yX12_splits (tb (.code yX12_splits cX12_splits 6 none)) (rm 2) (va_Pc [.ref h0, .int x1] (PX E D G (fun H => ga E D G h0 3 (1, 5123) ff H))) (QXv E D G (fun H => ∃ (z : Int32) (cd : Nat → Int32), gf D h0 15 z H ∧ 0 ≤ z.toInt ∧ z.toInt ≤ 400 ∧ ga E D G h0 3 (1, 5123) ff H ∧ ga E D G h0 12 (8, 401) cd H ∧ (cd z.toNatClampNeg).toInt = 0)) 0 0 (th_A G) := by
  refine Met.ofW (cc := cX12_splits) (maxL := 6) (ret := none) (by decide) rfl ?_
  intro p e s m args below meth c s₁ B hml hv
  obtain ⟨hav, ⟨hI, hN, hK⟩, hX⟩ := hv
  have hx := B.exec
  have hb := B.bytes
  have hr := B.returns
  have hts := atoms_spec (ws := tb (.code yX12_splits cX12_splits 6 none)) B.pre
  have hown : s.vm.findClass RX12 = some m.cls := findClass_of_methodNamed B.named
  have hlocks := B.notSynchronized
  have hS : va_S (th_A G) s.heap s.heap [] := va_S.rf
  have hl := lv_entry ([.ref h0, .int x1]) (n := 6) (Nat.le_of_ble_eq_true rfl)
  rw [show entryFrame m args 6 = entryFrame m ([.ref h0, .int x1] : List Value).toArray 6 from by rw [hav], lg_entry_eq]
  generalize (lg_sl ([.ref h0, .int x1]) ++ List.replicate (6 - (lg_sl ([.ref h0, .int x1])).length) Slot.unset).toArray = ls at hl ⊢
  have hl : lv_has ls 6 [(0, .ref h0), (1, .int x1)] := hl
  generalize hR : (headSpec (tb (.code yX12_splits cX12_splits 6 none)) (rm 2)).room = R
  have hR := hR.symm
  generalize hQ : MQ below (QXv E D G (fun H => ∃ (z : Int32) (cd : Nat → Int32), gf D h0 15 z H ∧ 0 ≤ z.toInt ∧ z.toInt ≤ 400 ∧ ga E D G h0 3 (1, 5123) ff H ∧ ga E D G h0 12 (8, 401) cd H ∧ (cd z.toNatClampNeg).toInt = 0)) args s 0 0 (th_A G) = QF
  have hQ := hQ.symm
  obtain ⟨q_3, hf_3, hq_3, hA_3⟩ := hX
  have J_7 : ∀ (nn : Nat) (H : Heap) (locs : List Loc) (ls : Array Slot) (v3395 : Int32) (v3396 : Int32) , (Int.toNat (x1.toInt - v3395.toInt) = nn) → lv_has ls 6 [(2, .int v3395), (0, .ref h0), (1, .int x1)] → ((0 : Int) ≤ v3395.toInt ∧ v3395.toInt ≤ 400) → ((0 : Int) ≤ x1.toInt ∧ x1.toInt ≤ 400) → ((0 : Int) ≤ v3396.toInt ∧ v3396.toInt ≤ 400) → (v3396.toInt ≤ v3395.toInt) → (v3395.toInt ≤ x1.toInt) → gf D h0 15 v3396 H → ga E D G h0 3 (1, 5123) ff H → th_I (okM E) D G [] H → va_S (th_A G) s.heap H locs → W p l e R s m args below meth c H locs 0 0 QF (F0 m 7 ls []) := by
    intro nn
    induction nn using Nat.strongRecOn with
    | ind nn ih_7 =>
      intro H locs ls v3395 v3396  hm hl k3397 k3398 k3399 k3400 k3401 hg3402 hga_3 hI hS
      obtain ⟨a3403, hf3404, hq3405, hA3406⟩ := hga_3
      have J_247 : ∀ (H : Heap) (locs : List Loc) (ls : Array Slot) (v3407 : Int32) (v3408 : Int32) (v3409 : Int32) (v3411 : Int32) , lv_has ls 6 [(5, .int v3407), (4, .int v3408), (3, .int v3409), (2, .int v3395), (0, .ref h0), (1, .int x1)] → ((0 : Int) ≤ v3407.toInt ∧ v3407.toInt ≤ 400) → ((0 : Int) ≤ v3408.toInt ∧ v3408.toInt ≤ 400) → ((1 : Int) ≤ x1.toInt ∧ x1.toInt ≤ 400) → ((0 : Int) ≤ v3411.toInt ∧ v3411.toInt ≤ 400) → (v3411.toInt ≤ v3395.toInt) → (v3395.toInt < v3408.toInt) → (v3408.toInt ≤ x1.toInt) → gf D h0 15 v3411 H → ga E D G h0 3 (1, 5123) ff H → th_I (okM E) D G [] H → va_S (th_A G) s.heap H locs → W p l e R s m args below meth c H locs 0 0 QF (F0 m 247 ls []) := by
        intro H locs ls v3407 v3408 v3409 v3411  hl k3412 k3413 k3414 k3415 k3416 k3417 k3418 hg3419 hga_3 hI hS
        obtain ⟨a3420, hf3421, hq3422, hA3423⟩ := hga_3
        refine lv_aload_n hx hb dX12_splits_247 rfl (lv_at hl 4 rfl) ?_
        refine lv_dup hx hb dX12_splits_248 rfl ?_
        refine gmI hx hb hts inT12 hown hK hI List.not_mem_nil hG0 15 (by decide) (hts _ (tb_c wd_1248)) rfl rfl dX12_splits_249 (fun w3424 hg3425 k3426 k3427 => ?_)
        obtain rfl := gf.uniq (by decide) hg3419 hg3425
        refine lv_iconst (v := 1) hx hb dX12_splits_252 (by decide) ?_
        refine lv_iadd hx hb dX12_splits_253 ?_
        refine lv_topi (fun v3428 e3429 => ?_)
        have tv3428 : v3428.toInt = v3411.toInt + (1) := iv_add rfl (by decide) e3429 (by omega) (by omega)
        refine pmI (ty := .int) hx hb hts inT12 hown hK hI List.not_mem_nil hG0 hS ⟨_, hG0⟩ 15 (by decide) (hts _ (tb_c wd_1248)) rfl rfl (by decide +kernel) rfl rfl rfl (by omega) (by omega) dX12_splits_254 (fun H locs hI hgP hS => ?_)
        have hg3430 := hgP.2.1
        have hf3421 := hgP.2.2.2 3 _ (by decide) (by decide) hf3421
        have hA3423 := va_at.kept hA3423 (hgP.1 _ (m_ne hq3422 hG0 (by first | decide | (dsimp only; decide))))
        refine lv_iload hx hb dX12_splits_257 (lv_at hl 1 rfl) ?_
        refine lv_istore_n (lv' := [(2, .int v3408), (5, .int v3407), (4, .int v3408), (3, .int v3409), (0, .ref h0), (1, .int x1)]) hx hb dX12_splits_259 rfl hl (by decide) rfl (fun ls hl => ?_)
        refine lv_goto (tgt := 7) hx hb dX12_splits_260 (by decide) ?_
        exact ih_7 _ (by omega) H locs ls v3408 v3428  rfl (lv_sub hl [0, 4, 5] rfl) ⟨by omega, by omega⟩ ⟨by omega, by omega⟩ ⟨by omega, by omega⟩ (by first | omega | (rw [show (0 : Int32).toInt = 0 from by decide]; omega)) (by first | omega | (rw [show (0 : Int32).toInt = 0 from by decide]; omega)) hg3430 ⟨a3420, hf3421, hq3422, hA3423⟩ hI hS
      have J_169 : ∀ (nn : Nat) (H : Heap) (locs : List Loc) (ls : Array Slot) (v3431 : Int32) (v3432 : Int32) (v3433 : Int32) (v3435 : Int32) , (Int.toNat (v3432.toInt - v3431.toInt) = nn) → lv_has ls 6 [(5, .int v3431), (4, .int v3432), (3, .int v3433), (2, .int v3395), (0, .ref h0), (1, .int x1)] → ((0 : Int) ≤ v3431.toInt ∧ v3431.toInt ≤ 400) → ((0 : Int) ≤ v3432.toInt ∧ v3432.toInt ≤ 400) → ((1 : Int) ≤ x1.toInt ∧ x1.toInt ≤ 400) → ((0 : Int) ≤ v3435.toInt ∧ v3435.toInt ≤ 400) → (v3435.toInt ≤ v3395.toInt) → (v3395.toInt < v3432.toInt) → (v3432.toInt ≤ x1.toInt) → (v3395.toInt ≤ v3431.toInt) → gf D h0 15 v3435 H → ga E D G h0 3 (1, 5123) ff H → th_I (okM E) D G [] H → va_S (th_A G) s.heap H locs → W p l e R s m args below meth c H locs 0 0 QF (F0 m 169 ls []) := by
        intro nn
        induction nn using Nat.strongRecOn with
        | ind nn ih_169 =>
          intro H locs ls v3431 v3432 v3433 v3435  hm hl k3436 k3437 k3438 k3439 k3440 k3441 k3442 k3443 hg3444 hga_3 hI hS
          obtain ⟨a3445, hf3446, hq3447, hA3448⟩ := hga_3
          have J_240 : ∀ (H : Heap) (locs : List Loc) (ls : Array Slot) (v3453 : Int32) (v3454 : Int32) (v3455 : Int32) (a3456 : Nat) , lv_has ls 6 [(5, .int v3431), (4, .int v3432), (3, .int v3433), (2, .int v3395), (0, .ref h0), (1, .int x1)] → ((48 : Int) ≤ v3433.toInt ∧ v3433.toInt ≤ 57) → ((0 : Int) ≤ v3453.toInt ∧ v3453.toInt ≤ 400) → ((0 : Int) ≤ v3455.toInt ∧ v3455.toInt ≤ 400) → G a3456 = some (0, 401) → (v3453.toInt ≤ v3395.toInt) → (v3395.toInt < v3432.toInt) → (v3432.toInt ≤ x1.toInt) → (v3395.toInt ≤ v3431.toInt) → (v3431.toInt < v3432.toInt) → gf D h0 15 v3453 H → ga E D G h0 3 (1, 5123) ff H → th_I (okM E) D G [] H → va_S (th_A G) s.heap H locs → W p l e R s m args below meth c H locs 0 0 QF (F0 m 240 ls [.int v3454, .int v3455, .ref a3456]) := by
            intro H locs ls v3453 v3454 v3455 a3456  hl k3457 k3458 k3459 ha3456 k3460 k3461 k3462 k3463 k3464 hg3465 hga_3 hI hS
            obtain ⟨a3466, hf3467, hq3468, hA3469⟩ := hga_3
            obtain ⟨F3470, hA3471⟩ := om_0 hI ha3456 List.not_mem_nil
            refine th_iast hx hb hK hA3471 0 rfl hS ⟨_, ha3456⟩ (iv_in (X := v3455.toInt) rfl (by omega) (by omega)) dX12_splits_240 (fun H locs hA3472 oq hS => ?_)
            have hI := th_I.put hI ha3456 hA3472 ok_m0 oq
            have hg3465 := gf.arr hG0 ha3456 (by decide) oq hg3465
            have hf3467 := fr.arr hG0 ha3456 (by decide) oq hf3467
            have hA3469 := va_at.kept hA3469 (oq _ (m_ne hq3468 ha3456 (by first | decide | (dsimp only; decide))))
            obtain ⟨v3473, e3474⟩ : ∃ y : Int32, y = v3431 + (1) := ⟨_, rfl⟩
            have tv3473 : v3473.toInt = v3431.toInt + (1) := iv_add rfl (by decide) e3474 (by omega) (by omega)
            refine lv_iinc (v := v3473) (lv' := [(5, .int v3473), (4, .int v3432), (3, .int v3433), (2, .int v3395), (0, .ref h0), (1, .int x1)]) hx hb dX12_splits_241 hl (k := 0) rfl (by rw [e3474]; rfl) (by decide) rfl (fun ls hl => ?_)
            refine lv_goto (tgt := 169) hx hb dX12_splits_244 (by decide) ?_
            exact ih_169 _ (by omega) H locs ls v3473 v3432 v3433 v3453  rfl (lv_sub hl [0, 1, 2, 3, 4, 5] rfl) ⟨by omega, by omega⟩ ⟨by omega, by omega⟩ ⟨by omega, by omega⟩ ⟨by omega, by omega⟩ (by first | omega | (rw [show (0 : Int32).toInt = 0 from by decide]; omega)) (by first | omega | (rw [show (0 : Int32).toInt = 0 from by decide]; omega)) (by first | omega | (rw [show (0 : Int32).toInt = 0 from by decide]; omega)) (by first | omega | (rw [show (0 : Int32).toInt = 0 from by decide]; omega)) hg3465 ⟨a3466, hf3467, hq3468, hA3469⟩ hI hS
          refine lv_iload hx hb dX12_splits_169 (lv_at hl 0 rfl) ?_
          refine lv_iload hx hb dX12_splits_171 (lv_at hl 1 rfl) ?_
          refine lv_icmp_ge (tgt := 247) hx hb dX12_splits_173 (by decide) (fun c3475 => ?_) (fun c3475 => ?_)
          · skip
            have k3476 := iv_le (X := v3432.toInt) (Y := v3431.toInt) rfl rfl c3475
            exact J_247 H locs ls v3431 v3432 v3433 v3435  (lv_sub hl [0, 1, 2, 3, 4, 5] rfl) ⟨by omega, by omega⟩ ⟨by omega, by omega⟩ ⟨by omega, by omega⟩ ⟨by omega, by omega⟩ (by first | omega | (rw [show (0 : Int32).toInt = 0 from by decide]; omega)) (by first | omega | (rw [show (0 : Int32).toInt = 0 from by decide]; omega)) (by first | omega | (rw [show (0 : Int32).toInt = 0 from by decide]; omega)) hg3444 ⟨a3445, hf3446, hq3447, hA3448⟩ hI hS
          · skip
            have k3477 := iv_nle (X := v3432.toInt) (Y := v3431.toInt) rfl rfl c3475
            refine lv_iload_n hx hb dX12_splits_176 rfl (lv_at hl 2 rfl) ?_
            refine th_cSs (As := [.int v3433]) (rest := []) (n := 1) (d := 1) ⟨hx, hb, hml, hown, hts⟩ (c_X12_isDigit l H v3433) wd_1575 wd_1576 wd_13 wd_1577 (by decide +kernel) ⟨by rw [hR]; exact Nat.le_of_ble_eq_true rfl, by rw [hR]; exact Nat.le_of_ble_eq_true rfl⟩ hN hS rfl hl.1 rfl (Nat.le_of_ble_eq_true rfl) dX12_splits_177 ⟨Nat.zero_le _, Nat.zero_le _⟩ (fun r3478 locs hp hS => ?_)
            rcases hp with ⟨rfl, hp⟩ | ⟨rfl, hp⟩
            · skip
              try simp only [rg, not_and, Int.not_le] at hp
              have hp3479 := hp
              refine lv_if_eq (tgt := 247) hx hb dX12_splits_180 (by decide) (fun c => absurd c (by decide)) (fun _ => ?_)
              refine lv_aload_n hx hb dX12_splits_183 rfl (lv_at hl 4 rfl) ?_
              refine gmA hx hb hts inT12 hown hK hI List.not_mem_nil hG0 13 (by decide) (hts _ (tb_c wd_1246)) rfl rfl dX12_splits_184 (fun a3480 hq3481 hf3482 => ?_)
              refine lv_aload_n hx hb dX12_splits_187 rfl (lv_at hl 4 rfl) ?_
              refine gmI hx hb hts inT12 hown hK hI List.not_mem_nil hG0 15 (by decide) (hts _ (tb_c wd_1248)) rfl rfl dX12_splits_188 (fun w3483 hg3484 k3485 k3486 => ?_)
              obtain rfl := gf.uniq (by decide) hg3444 hg3484
              refine lv_aload_n hx hb dX12_splits_191 rfl (lv_at hl 4 rfl) ?_
              refine gmA hx hb hts inT12 hown hK hI List.not_mem_nil hG0 13 (by decide) (hts _ (tb_c wd_1246)) rfl rfl dX12_splits_192 (fun a3487 hq3488 hf3489 => ?_)
              obtain rfl := fr.uniq (by decide) hf3482 hf3489
              refine lv_aload_n hx hb dX12_splits_195 rfl (lv_at hl 4 rfl) ?_
              refine gmI hx hb hts inT12 hown hK hI List.not_mem_nil hG0 15 (by decide) (hts _ (tb_c wd_1248)) rfl rfl dX12_splits_196 (fun w3490 hg3491 k3492 k3493 => ?_)
              obtain rfl := gf.uniq (by decide) hg3444 hg3491
              obtain ⟨F3494, hA3495⟩ := om_0 hI hq3481 List.not_mem_nil
              refine th_iald hx hb hK hA3495 0 rfl (iv_in (X := v3435.toInt) rfl (by omega) (by omega)) dX12_splits_199 (fun v3496 e3497 => ?_)
              refine lv_ldc hx hb hown (hts _ (tb_c wd_1582)) dX12_splits_200 ?_
              have k3498 := iv_lo v3496
              have k3499 := iv_hi v3496
              refine lv_icmp_le (tgt := 217) hx hb dX12_splits_202 (by decide) (fun c3500 => ?_) (fun c3500 => ?_)
              · skip
                have k3501 := iv_le (X := v3496.toInt) (Y := (1000000)) rfl (by decide) c3500
                refine lv_bipush (v := 10) hx hb dX12_splits_217 (by decide) ?_
                refine lv_aload_n hx hb dX12_splits_219 rfl (lv_at hl 4 rfl) ?_
                refine gmA hx hb hts inT12 hown hK hI List.not_mem_nil hG0 13 (by decide) (hts _ (tb_c wd_1246)) rfl rfl dX12_splits_220 (fun a3502 hq3503 hf3504 => ?_)
                obtain rfl := fr.uniq (by decide) hf3482 hf3504
                refine lv_aload_n hx hb dX12_splits_223 rfl (lv_at hl 4 rfl) ?_
                refine gmI hx hb hts inT12 hown hK hI List.not_mem_nil hG0 15 (by decide) (hts _ (tb_c wd_1248)) rfl rfl dX12_splits_224 (fun w3505 hg3506 k3507 k3508 => ?_)
                obtain rfl := gf.uniq (by decide) hg3444 hg3506
                refine th_iald hx hb hK hA3495 0 rfl (iv_in (X := v3435.toInt) rfl (by omega) (by omega)) dX12_splits_227 (fun v3509 e3510 => ?_)
                obtain rfl := (rd_same (i := v3435) (j := v3435) e3497 e3510 (X := v3435.toInt) (Y := v3435.toInt) rfl rfl (by omega)).symm
                refine lv_imul hx hb dX12_splits_228 ?_
                refine lv_topi (fun v3511 e3512 => ?_)
                try have tv3511 : v3511.toInt = (10) * v3496.toInt := iv_mul (by decide) rfl e3512 (by omega) (by omega)
                refine lv_aload_n hx hb dX12_splits_229 rfl (lv_at hl 4 rfl) ?_
                refine gmA hx hb hts inT12 hown hK hI List.not_mem_nil hG0 8 (by decide) (hts _ (tb_c wd_1241)) rfl rfl dX12_splits_230 (fun a3513 hq3514 hf3515 => ?_)
                refine lv_iload hx hb dX12_splits_233 (lv_at hl 0 rfl) ?_
                obtain ⟨F3516, hA3517⟩ := om_4 hI hq3514 List.not_mem_nil
                refine va_bald hx hb hK (th_one hA3517) 0 3 rfl rfl (iv_in (X := v3431.toInt) rfl (by omega) (by omega)) dX12_splits_235 ?_
                refine lv_topi (fun v3518 e3519 => ?_)
                refine lv_iadd hx hb dX12_splits_236 ?_
                refine lv_topi (fun v3520 e3521 => ?_)
                try have tv3520 : v3520.toInt = v3511.toInt + v3518.toInt := iv_add rfl rfl e3521 (by omega) (by omega)
                refine lv_bipush (v := 48) hx hb dX12_splits_237 (by decide) ?_
                refine lv_isub hx hb dX12_splits_239 ?_
                refine lv_topi (fun v3522 e3523 => ?_)
                try have tv3522 : v3522.toInt = v3520.toInt - (48) := iv_sub rfl (by decide) e3523 (by omega) (by omega)
                exact J_240 H locs ls v3435 v3522 v3435 a3480  (lv_sub hl [0, 1, 2, 3, 4, 5] rfl) ⟨by omega, by omega⟩ ⟨by omega, by omega⟩ ⟨by omega, by omega⟩ hq3481 (by first | omega | (rw [show (0 : Int32).toInt = 0 from by decide]; omega)) (by first | omega | (rw [show (0 : Int32).toInt = 0 from by decide]; omega)) (by first | omega | (rw [show (0 : Int32).toInt = 0 from by decide]; omega)) (by first | omega | (rw [show (0 : Int32).toInt = 0 from by decide]; omega)) (by first | omega | (rw [show (0 : Int32).toInt = 0 from by decide]; omega)) hg3444 ⟨a3445, hf3446, hq3447, hA3448⟩ hI hS
              · skip
                have k3524 := iv_nle (X := v3496.toInt) (Y := (1000000)) rfl (by decide) c3500
                refine lv_aload_n hx hb dX12_splits_205 rfl (lv_at hl 4 rfl) ?_
                refine gmA hx hb hts inT12 hown hK hI List.not_mem_nil hG0 13 (by decide) (hts _ (tb_c wd_1246)) rfl rfl dX12_splits_206 (fun a3525 hq3526 hf3527 => ?_)
                obtain rfl := fr.uniq (by decide) hf3482 hf3527
                refine lv_aload_n hx hb dX12_splits_209 rfl (lv_at hl 4 rfl) ?_
                refine gmI hx hb hts inT12 hown hK hI List.not_mem_nil hG0 15 (by decide) (hts _ (tb_c wd_1248)) rfl rfl dX12_splits_210 (fun w3528 hg3529 k3530 k3531 => ?_)
                obtain rfl := gf.uniq (by decide) hg3444 hg3529
                refine th_iald hx hb hK hA3495 0 rfl (iv_in (X := v3435.toInt) rfl (by omega) (by omega)) dX12_splits_213 (fun v3532 e3533 => ?_)
                obtain rfl := (rd_same (i := v3435) (j := v3435) e3497 e3533 (X := v3435.toInt) (Y := v3435.toInt) rfl rfl (by omega)).symm
                refine lv_goto (tgt := 240) hx hb dX12_splits_214 (by decide) ?_
                exact J_240 H locs ls v3435 v3496 v3435 a3480  (lv_sub hl [0, 1, 2, 3, 4, 5] rfl) ⟨by omega, by omega⟩ ⟨by omega, by omega⟩ ⟨by omega, by omega⟩ hq3481 (by first | omega | (rw [show (0 : Int32).toInt = 0 from by decide]; omega)) (by first | omega | (rw [show (0 : Int32).toInt = 0 from by decide]; omega)) (by first | omega | (rw [show (0 : Int32).toInt = 0 from by decide]; omega)) (by first | omega | (rw [show (0 : Int32).toInt = 0 from by decide]; omega)) (by first | omega | (rw [show (0 : Int32).toInt = 0 from by decide]; omega)) hg3444 ⟨a3445, hf3446, hq3447, hA3448⟩ hI hS
            · skip
              try simp only [rg, not_and, Int.not_le] at hp
              have hp3534 := hp
              refine lv_if_eq (tgt := 247) hx hb dX12_splits_180 (by decide) (fun _ => ?_) (fun c => absurd c (by decide))
              exact J_247 H locs ls v3431 v3432 v3433 v3435  (lv_sub hl [0, 1, 2, 3, 4, 5] rfl) ⟨by omega, by omega⟩ ⟨by omega, by omega⟩ ⟨by omega, by omega⟩ ⟨by omega, by omega⟩ (by first | omega | (rw [show (0 : Int32).toInt = 0 from by decide]; omega)) (by first | omega | (rw [show (0 : Int32).toInt = 0 from by decide]; omega)) (by first | omega | (rw [show (0 : Int32).toInt = 0 from by decide]; omega)) hg3444 ⟨a3445, hf3446, hq3447, hA3448⟩ hI hS
      have J_165 : ∀ (H : Heap) (locs : List Loc) (ls : Array Slot) (v3535 : Int32) (v3536 : Int32) (v3538 : Int32) (v3539 : Int32) (v3540 : Int32) (a3541 : Nat) , lv_has ls 6 [(4, .int v3535), (3, .int v3536), (2, .int v3395), (0, .ref h0), (1, .int x1)] → ((0 : Int) ≤ v3535.toInt ∧ v3535.toInt ≤ 400) → ((1 : Int) ≤ x1.toInt ∧ x1.toInt ≤ 400) → ((0 : Int) ≤ v3538.toInt ∧ v3538.toInt ≤ 400) → ((0 : Int) ≤ v3540.toInt ∧ v3540.toInt ≤ 400) → G a3541 = some (8, 401) → (v3538.toInt ≤ v3395.toInt) → (v3395.toInt < v3535.toInt) → (v3535.toInt ≤ x1.toInt) → gf D h0 15 v3538 H → ga E D G h0 3 (1, 5123) ff H → th_I (okM E) D G [] H → va_S (th_A G) s.heap H locs → W p l e R s m args below meth c H locs 0 0 QF (F0 m 165 ls [.int v3539, .int v3540, .ref a3541]) := by
        intro H locs ls v3535 v3536 v3538 v3539 v3540 a3541  hl k3542 k3543 k3544 k3545 ha3541 k3546 k3547 k3548 hg3549 hga_3 hI hS
        obtain ⟨a3550, hf3551, hq3552, hA3553⟩ := hga_3
        obtain ⟨F3554, hA3555⟩ := om_8 hI ha3541 List.not_mem_nil
        refine th_iast hx hb hK hA3555 0 rfl hS ⟨_, ha3541⟩ (iv_in (X := v3540.toInt) rfl (by omega) (by omega)) dX12_splits_165 (fun H locs hA3556 oq hS => ?_)
        have hI := th_I.put hI ha3541 hA3556 ok_m8 oq
        have hg3549 := gf.arr hG0 ha3541 (by decide) oq hg3549
        have hf3551 := fr.arr hG0 ha3541 (by decide) oq hf3551
        have hA3553 := va_at.kept hA3553 (oq _ (m_ne hq3552 ha3541 (by first | decide | (dsimp only; decide))))
        refine lv_iload_n hx hb dX12_splits_166 rfl (lv_at hl 2 rfl) ?_
        refine lv_istore (lv' := [(5, .int v3395), (4, .int v3535), (3, .int v3536), (2, .int v3395), (0, .ref h0), (1, .int x1)]) hx hb dX12_splits_167 hl (by decide) rfl (fun ls hl => ?_)
        exact J_169 _ H locs ls v3395 v3535 v3536 v3538  rfl (lv_sub hl [0, 1, 2, 3, 4, 5] rfl) ⟨by omega, by omega⟩ ⟨by omega, by omega⟩ ⟨by omega, by omega⟩ ⟨by omega, by omega⟩ (by first | omega | (rw [show (0 : Int32).toInt = 0 from by decide]; omega)) (by first | omega | (rw [show (0 : Int32).toInt = 0 from by decide]; omega)) (by first | omega | (rw [show (0 : Int32).toInt = 0 from by decide]; omega)) (by first | omega | (rw [show (0 : Int32).toInt = 0 from by decide]; omega)) hg3549 ⟨a3550, hf3551, hq3552, hA3553⟩ hI hS
      have J_100 : ∀ (H : Heap) (locs : List Loc) (ls : Array Slot) (v3557 : Int32) (v3558 : Int32) (v3560 : Int32) , lv_has ls 6 [(4, .int v3557), (3, .int v3558), (2, .int v3395), (0, .ref h0), (1, .int x1)] → ((0 : Int) ≤ v3557.toInt ∧ v3557.toInt ≤ 400) → ((1 : Int) ≤ x1.toInt ∧ x1.toInt ≤ 400) → ((0 : Int) ≤ v3560.toInt ∧ v3560.toInt ≤ 400) → (v3560.toInt ≤ v3395.toInt) → (v3395.toInt < v3557.toInt) → (v3557.toInt ≤ x1.toInt) → gf D h0 15 v3560 H → ga E D G h0 3 (1, 5123) ff H → th_I (okM E) D G [] H → va_S (th_A G) s.heap H locs → W p l e R s m args below meth c H locs 0 0 QF (F0 m 100 ls []) := by
        intro H locs ls v3557 v3558 v3560  hl k3561 k3562 k3563 k3564 k3565 k3566 hg3567 hga_3 hI hS
        obtain ⟨a3568, hf3569, hq3570, hA3571⟩ := hga_3
        refine lv_aload_n hx hb dX12_splits_100 rfl (lv_at hl 3 rfl) ?_
        refine gmA hx hb hts inT12 hown hK hI List.not_mem_nil hG0 14 (by decide) (hts _ (tb_c wd_1247)) rfl rfl dX12_splits_101 (fun a3572 hq3573 hf3574 => ?_)
        refine lv_aload_n hx hb dX12_splits_104 rfl (lv_at hl 3 rfl) ?_
        refine gmI hx hb hts inT12 hown hK hI List.not_mem_nil hG0 15 (by decide) (hts _ (tb_c wd_1248)) rfl rfl dX12_splits_105 (fun w3575 hg3576 k3577 k3578 => ?_)
        obtain rfl := gf.uniq (by decide) hg3567 hg3576
        refine lv_iload_n hx hb dX12_splits_108 rfl (lv_at hl 2 rfl) ?_
        obtain ⟨F3579, hA3580, hP3581⟩ := om_6 hI hq3573 List.not_mem_nil
        refine th_iast hx hb hK hA3580 0 rfl hS ⟨_, hq3573⟩ (iv_in (X := v3560.toInt) rfl (by omega) (by omega)) dX12_splits_109 (fun H locs hA3582 oq hS => ?_)
        have hP3583 := rgs_set (k := v3560.toNatClampNeg) (v := v3395) hP3581 (by omega) (by omega)
        have hI := th_I.put hI hq3573 hA3582 (ok_m6 hP3583) oq
        have hg3567 := gf.arr hG0 hq3573 (by decide) oq hg3567
        have hf3569 := fr.arr hG0 hq3573 (by decide) oq hf3569
        have hf3574 := fr.arr hG0 hq3573 (by decide) oq hf3574
        have hA3571 := va_at.kept hA3571 (oq _ (m_ne hq3570 hq3573 (by first | decide | (dsimp only; decide))))
        have e3584 : v3395 = (upd F3579 (v3560 : Int32).toNatClampNeg v3395) (v3560 : Int32).toNatClampNeg := rd_us
        refine lv_aload_n hx hb dX12_splits_110 rfl (lv_at hl 3 rfl) ?_
        refine gmA hx hb hts inT12 hown hK hI List.not_mem_nil hG0 13 (by decide) (hts _ (tb_c wd_1246)) rfl rfl dX12_splits_111 (fun a3585 hq3586 hf3587 => ?_)
        refine lv_aload_n hx hb dX12_splits_114 rfl (lv_at hl 3 rfl) ?_
        refine gmI hx hb hts inT12 hown hK hI List.not_mem_nil hG0 15 (by decide) (hts _ (tb_c wd_1248)) rfl rfl dX12_splits_115 (fun w3588 hg3589 k3590 k3591 => ?_)
        obtain rfl := gf.uniq (by decide) hg3567 hg3589
        refine lv_iconst (v := 0) hx hb dX12_splits_118 (by decide) ?_
        obtain ⟨F3592, hA3593⟩ := om_0 hI hq3586 List.not_mem_nil
        refine th_iast hx hb hK hA3593 0 rfl hS ⟨_, hq3586⟩ (iv_in (X := v3560.toInt) rfl (by omega) (by omega)) dX12_splits_119 (fun H locs hA3594 oq hS => ?_)
        have hI := th_I.put hI hq3586 hA3594 ok_m0 oq
        have hg3567 := gf.arr hG0 hq3586 (by decide) oq hg3567
        have hf3569 := fr.arr hG0 hq3586 (by decide) oq hf3569
        have hf3574 := fr.arr hG0 hq3586 (by decide) oq hf3574
        have hf3587 := fr.arr hG0 hq3586 (by decide) oq hf3587
        have hA3571 := va_at.kept hA3571 (oq _ (m_ne hq3570 hq3586 (by first | decide | (dsimp only; decide))))
        have hA3582 := va_at.kept hA3582 (oq _ (m_ne hq3573 hq3586 (by first | decide | (dsimp only; decide))))
        have e3595 : 0 = (upd F3592 (v3560 : Int32).toNatClampNeg 0) (v3560 : Int32).toNatClampNeg := rd_us
        refine lv_aload_n hx hb dX12_splits_120 rfl (lv_at hl 3 rfl) ?_
        refine gmA hx hb hts inT12 hown hK hI List.not_mem_nil hG0 12 (by decide) (hts _ (tb_c wd_1245)) rfl rfl dX12_splits_121 (fun a3596 hq3597 hf3598 => ?_)
        refine lv_aload_n hx hb dX12_splits_124 rfl (lv_at hl 3 rfl) ?_
        refine gmI hx hb hts inT12 hown hK hI List.not_mem_nil hG0 15 (by decide) (hts _ (tb_c wd_1248)) rfl rfl dX12_splits_125 (fun w3599 hg3600 k3601 k3602 => ?_)
        obtain rfl := gf.uniq (by decide) hg3567 hg3600
        refine lv_iload_n hx hb dX12_splits_128 rfl (lv_at hl 1 rfl) ?_
        refine th_cSs (As := [.int v3558]) (rest := [.int v3560, .ref a3596]) (n := 1) (d := 1) ⟨hx, hb, hml, hown, hts⟩ (c_X12_isSmall l H v3558) wd_1572 wd_1573 wd_13 wd_1574 (by decide +kernel) ⟨by rw [hR]; exact Nat.le_of_ble_eq_true rfl, by rw [hR]; exact Nat.le_of_ble_eq_true rfl⟩ hN hS rfl hl.1 rfl (Nat.le_of_ble_eq_true rfl) dX12_splits_129 ⟨Nat.zero_le _, Nat.zero_le _⟩ (fun r3603 locs hp hS => ?_)
        rcases hp with ⟨rfl, hp⟩ | ⟨rfl, hp⟩
        · skip
          try simp only [rg, not_and, Int.not_le] at hp
          have hp3604 := hp
          refine lv_if_eq (tgt := 145) hx hb dX12_splits_132 (by decide) (fun c => absurd c (by decide)) (fun _ => ?_)
          refine lv_aload_n hx hb dX12_splits_135 rfl (lv_at hl 3 rfl) ?_
          refine lv_iload_n hx hb dX12_splits_136 rfl (lv_at hl 2 rfl) ?_
          refine lv_iload hx hb dX12_splits_137 (lv_at hl 0 rfl) ?_
          refine mr_i (As := [.int v3395, .int v3557]) (rest := [.int v3560, .ref a3596]) (n := 2) (d := 0) ⟨hx, hb, hml, hown, hts⟩ (c_X12_wordOf l E D G H h0 hG0 v3395 v3557 ⟨by omega, by omega⟩ ⟨by omega, by omega⟩) wd_1578 wd_1580 wp_64 wd_13 wd_1581 (by decide +kernel) ⟨by rw [hR]; exact Nat.le_of_ble_eq_true rfl, by rw [hR]; exact Nat.le_of_ble_eq_true rfl⟩ hI hN hK hS hG0 rfl hl.1 rfl (Nat.le_of_ble_eq_true rfl) dX12_splits_139 ⟨Nat.zero_le _, Nat.zero_le _⟩ (fun r3605 locs hp hS => ?_)
          refine lv_goto (tgt := 165) hx hb dX12_splits_142 (by decide) ?_
          exact J_165 H locs ls v3557 v3558 v3560 r3605 v3560 a3596  (lv_sub hl [0, 1, 2, 3, 4] rfl) ⟨by omega, by omega⟩ ⟨by omega, by omega⟩ ⟨by omega, by omega⟩ ⟨by omega, by omega⟩ hq3597 (by first | omega | (rw [show (0 : Int32).toInt = 0 from by decide]; omega)) (by first | omega | (rw [show (0 : Int32).toInt = 0 from by decide]; omega)) (by first | omega | (rw [show (0 : Int32).toInt = 0 from by decide]; omega)) hg3567 ⟨a3568, hf3569, hq3570, hA3571⟩ hI hS
        · skip
          try simp only [rg, not_and, Int.not_le] at hp
          have hp3606 := hp
          refine lv_if_eq (tgt := 145) hx hb dX12_splits_132 (by decide) (fun _ => ?_) (fun c => absurd c (by decide))
          refine lv_iload_n hx hb dX12_splits_145 rfl (lv_at hl 1 rfl) ?_
          refine th_cSs (As := [.int v3558]) (rest := [.int v3560, .ref a3596]) (n := 1) (d := 1) ⟨hx, hb, hml, hown, hts⟩ (c_X12_isDigit l H v3558) wd_1575 wd_1576 wd_13 wd_1577 (by decide +kernel) ⟨by rw [hR]; exact Nat.le_of_ble_eq_true rfl, by rw [hR]; exact Nat.le_of_ble_eq_true rfl⟩ hN hS rfl hl.1 rfl (Nat.le_of_ble_eq_true rfl) dX12_splits_146 ⟨Nat.zero_le _, Nat.zero_le _⟩ (fun r3607 locs hp hS => ?_)
          rcases hp with ⟨rfl, hp⟩ | ⟨rfl, hp⟩
          · skip
            try simp only [rg, not_and, Int.not_le] at hp
            have hp3608 := hp
            refine lv_if_eq (tgt := 157) hx hb dX12_splits_149 (by decide) (fun c => absurd c (by decide)) (fun _ => ?_)
            refine lv_bipush (v := 50) hx hb dX12_splits_152 (by decide) ?_
            refine lv_goto (tgt := 165) hx hb dX12_splits_154 (by decide) ?_
            exact J_165 H locs ls v3557 v3558 v3560 50 v3560 a3596  (lv_sub hl [0, 1, 2, 3, 4] rfl) ⟨by omega, by omega⟩ ⟨by omega, by omega⟩ ⟨by omega, by omega⟩ ⟨by omega, by omega⟩ hq3597 (by first | omega | (rw [show (0 : Int32).toInt = 0 from by decide]; omega)) (by first | omega | (rw [show (0 : Int32).toInt = 0 from by decide]; omega)) (by first | omega | (rw [show (0 : Int32).toInt = 0 from by decide]; omega)) hg3567 ⟨a3568, hf3569, hq3570, hA3571⟩ hI hS
          · skip
            try simp only [rg, not_and, Int.not_le] at hp
            have hp3609 := hp
            refine lv_if_eq (tgt := 157) hx hb dX12_splits_149 (by decide) (fun _ => ?_) (fun c => absurd c (by decide))
            refine lv_bipush (v := 100) hx hb dX12_splits_157 (by decide) ?_
            refine lv_iload_n hx hb dX12_splits_159 rfl (lv_at hl 1 rfl) ?_
            refine lv_sipush (v := 255) hx hb dX12_splits_160 (by decide) ?_
            refine lv_iand hx hb dX12_splits_163 ?_
            refine lv_topi (fun v3610 e3611 => ?_)
            have tv3610 := iv_andr (m := 255) (M := 255) e3611 (by decide) (by decide)
            refine lv_iadd hx hb dX12_splits_164 ?_
            refine lv_topi (fun v3612 e3613 => ?_)
            have tv3612 : v3612.toInt = (100) + v3610.toInt := iv_add (by decide) rfl e3613 (by omega) (by omega)
            exact J_165 H locs ls v3557 v3558 v3560 v3612 v3560 a3596  (lv_sub hl [0, 1, 2, 3, 4] rfl) ⟨by omega, by omega⟩ ⟨by omega, by omega⟩ ⟨by omega, by omega⟩ ⟨by omega, by omega⟩ hq3597 (by first | omega | (rw [show (0 : Int32).toInt = 0 from by decide]; omega)) (by first | omega | (rw [show (0 : Int32).toInt = 0 from by decide]; omega)) (by first | omega | (rw [show (0 : Int32).toInt = 0 from by decide]; omega)) hg3567 ⟨a3568, hf3569, hq3570, hA3571⟩ hI hS
      have J_75 : ∀ (nn : Nat) (H : Heap) (locs : List Loc) (ls : Array Slot) (v3614 : Int32) (v3615 : Int32) (v3617 : Int32) , (Int.toNat (x1.toInt - v3614.toInt) = nn) → lv_has ls 6 [(4, .int v3614), (3, .int v3615), (2, .int v3395), (0, .ref h0), (1, .int x1)] → ((0 : Int) ≤ v3614.toInt ∧ v3614.toInt ≤ 400) → ((48 : Int) ≤ v3615.toInt ∧ v3615.toInt ≤ 57) → ((1 : Int) ≤ x1.toInt ∧ x1.toInt ≤ 400) → ((0 : Int) ≤ v3617.toInt ∧ v3617.toInt ≤ 400) → (v3617.toInt ≤ v3395.toInt) → (v3395.toInt < v3614.toInt) → (v3614.toInt ≤ x1.toInt) → gf D h0 15 v3617 H → ga E D G h0 3 (1, 5123) ff H → th_I (okM E) D G [] H → va_S (th_A G) s.heap H locs → W p l e R s m args below meth c H locs 0 0 QF (F0 m 75 ls []) := by
        intro nn
        induction nn using Nat.strongRecOn with
        | ind nn ih_75 =>
          intro H locs ls v3614 v3615 v3617  hm hl k3618 k3619 k3620 k3621 k3622 k3623 k3624 hg3625 hga_3 hI hS
          obtain ⟨a3626, hf3627, hq3628, hA3629⟩ := hga_3
          refine lv_iload hx hb dX12_splits_75 (lv_at hl 0 rfl) ?_
          refine lv_iload_n hx hb dX12_splits_77 rfl (lv_at hl 4 rfl) ?_
          refine lv_icmp_ge (tgt := 100) hx hb dX12_splits_78 (by decide) (fun c3630 => ?_) (fun c3630 => ?_)
          · skip
            have k3631 := iv_le (X := x1.toInt) (Y := v3614.toInt) rfl rfl c3630
            exact J_100 H locs ls v3614 v3615 v3617  (lv_sub hl [0, 1, 2, 3, 4] rfl) ⟨by omega, by omega⟩ ⟨by omega, by omega⟩ ⟨by omega, by omega⟩ (by first | omega | (rw [show (0 : Int32).toInt = 0 from by decide]; omega)) (by first | omega | (rw [show (0 : Int32).toInt = 0 from by decide]; omega)) (by first | omega | (rw [show (0 : Int32).toInt = 0 from by decide]; omega)) hg3625 ⟨a3626, hf3627, hq3628, hA3629⟩ hI hS
          · skip
            have k3632 := iv_nle (X := x1.toInt) (Y := v3614.toInt) rfl rfl c3630
            refine lv_aload_n hx hb dX12_splits_81 rfl (lv_at hl 3 rfl) ?_
            refine gmA hx hb hts inT12 hown hK hI List.not_mem_nil hG0 8 (by decide) (hts _ (tb_c wd_1241)) rfl rfl dX12_splits_82 (fun a3633 hq3634 hf3635 => ?_)
            refine lv_iload hx hb dX12_splits_85 (lv_at hl 0 rfl) ?_
            obtain ⟨F3636, hA3637⟩ := om_4 hI hq3634 List.not_mem_nil
            refine va_bald hx hb hK (th_one hA3637) 0 3 rfl rfl (iv_in (X := v3614.toInt) rfl (by omega) (by omega)) dX12_splits_87 ?_
            refine lv_topi (fun v3638 e3639 => ?_)
            refine th_cSs (As := [.int v3638]) (rest := []) (n := 1) (d := 1) ⟨hx, hb, hml, hown, hts⟩ (c_X12_isDigit l H v3638) wd_1575 wd_1576 wd_13 wd_1577 (by decide +kernel) ⟨by rw [hR]; exact Nat.le_of_ble_eq_true rfl, by rw [hR]; exact Nat.le_of_ble_eq_true rfl⟩ hN hS rfl hl.1 rfl (Nat.le_of_ble_eq_true rfl) dX12_splits_88 ⟨Nat.zero_le _, Nat.zero_le _⟩ (fun r3640 locs hp hS => ?_)
            rcases hp with ⟨rfl, hp⟩ | ⟨rfl, hp⟩
            · skip
              try simp only [rg, not_and, Int.not_le] at hp
              have hp3641 := hp
              refine lv_if_eq (tgt := 100) hx hb dX12_splits_91 (by decide) (fun c => absurd c (by decide)) (fun _ => ?_)
              obtain ⟨v3642, e3643⟩ : ∃ y : Int32, y = v3614 + (1) := ⟨_, rfl⟩
              have tv3642 : v3642.toInt = v3614.toInt + (1) := iv_add rfl (by decide) e3643 (by omega) (by omega)
              refine lv_iinc (v := v3642) (lv' := [(4, .int v3642), (3, .int v3615), (2, .int v3395), (0, .ref h0), (1, .int x1)]) hx hb dX12_splits_94 hl (k := 0) rfl (by rw [e3643]; rfl) (by decide) rfl (fun ls hl => ?_)
              refine lv_goto (tgt := 75) hx hb dX12_splits_97 (by decide) ?_
              exact ih_75 _ (by omega) H locs ls v3642 v3615 v3617  rfl (lv_sub hl [0, 1, 2, 3, 4] rfl) ⟨by omega, by omega⟩ ⟨by omega, by omega⟩ ⟨by omega, by omega⟩ ⟨by omega, by omega⟩ (by first | omega | (rw [show (0 : Int32).toInt = 0 from by decide]; omega)) (by first | omega | (rw [show (0 : Int32).toInt = 0 from by decide]; omega)) (by first | omega | (rw [show (0 : Int32).toInt = 0 from by decide]; omega)) hg3625 ⟨a3626, hf3627, hq3628, hA3629⟩ hI hS
            · skip
              try simp only [rg, not_and, Int.not_le] at hp
              have hp3644 := hp
              refine lv_if_eq (tgt := 100) hx hb dX12_splits_91 (by decide) (fun _ => ?_) (fun c => absurd c (by decide))
              exact J_100 H locs ls v3614 v3615 v3617  (lv_sub hl [0, 1, 2, 3, 4] rfl) ⟨by omega, by omega⟩ ⟨by omega, by omega⟩ ⟨by omega, by omega⟩ (by first | omega | (rw [show (0 : Int32).toInt = 0 from by decide]; omega)) (by first | omega | (rw [show (0 : Int32).toInt = 0 from by decide]; omega)) (by first | omega | (rw [show (0 : Int32).toInt = 0 from by decide]; omega)) hg3625 ⟨a3626, hf3627, hq3628, hA3629⟩ hI hS
      have J_68 : ∀ (H : Heap) (locs : List Loc) (ls : Array Slot) (v3645 : Int32) (v3646 : Int32) (v3648 : Int32) , lv_has ls 6 [(4, .int v3645), (3, .int v3646), (2, .int v3395), (0, .ref h0), (1, .int x1)] → ((0 : Int) ≤ v3645.toInt ∧ v3645.toInt ≤ 400) → ((1 : Int) ≤ x1.toInt ∧ x1.toInt ≤ 400) → ((0 : Int) ≤ v3648.toInt ∧ v3648.toInt ≤ 400) → (v3648.toInt ≤ v3395.toInt) → (v3395.toInt < v3645.toInt) → (v3645.toInt ≤ x1.toInt) → gf D h0 15 v3648 H → ga E D G h0 3 (1, 5123) ff H → th_I (okM E) D G [] H → va_S (th_A G) s.heap H locs → W p l e R s m args below meth c H locs 0 0 QF (F0 m 68 ls []) := by
        intro H locs ls v3645 v3646 v3648  hl k3649 k3650 k3651 k3652 k3653 k3654 hg3655 hga_3 hI hS
        obtain ⟨a3656, hf3657, hq3658, hA3659⟩ := hga_3
        refine lv_iload_n hx hb dX12_splits_68 rfl (lv_at hl 1 rfl) ?_
        refine th_cSs (As := [.int v3646]) (rest := []) (n := 1) (d := 1) ⟨hx, hb, hml, hown, hts⟩ (c_X12_isDigit l H v3646) wd_1575 wd_1576 wd_13 wd_1577 (by decide +kernel) ⟨by rw [hR]; exact Nat.le_of_ble_eq_true rfl, by rw [hR]; exact Nat.le_of_ble_eq_true rfl⟩ hN hS rfl hl.1 rfl (Nat.le_of_ble_eq_true rfl) dX12_splits_69 ⟨Nat.zero_le _, Nat.zero_le _⟩ (fun r3660 locs hp hS => ?_)
        rcases hp with ⟨rfl, hp⟩ | ⟨rfl, hp⟩
        · skip
          try simp only [rg, not_and, Int.not_le] at hp
          have hp3661 := hp
          refine lv_if_eq (tgt := 100) hx hb dX12_splits_72 (by decide) (fun c => absurd c (by decide)) (fun _ => ?_)
          exact J_75 _ H locs ls v3645 v3646 v3648  rfl (lv_sub hl [0, 1, 2, 3, 4] rfl) ⟨by omega, by omega⟩ ⟨by omega, by omega⟩ ⟨by omega, by omega⟩ ⟨by omega, by omega⟩ (by first | omega | (rw [show (0 : Int32).toInt = 0 from by decide]; omega)) (by first | omega | (rw [show (0 : Int32).toInt = 0 from by decide]; omega)) (by first | omega | (rw [show (0 : Int32).toInt = 0 from by decide]; omega)) hg3655 ⟨a3656, hf3657, hq3658, hA3659⟩ hI hS
        · skip
          try simp only [rg, not_and, Int.not_le] at hp
          have hp3662 := hp
          refine lv_if_eq (tgt := 100) hx hb dX12_splits_72 (by decide) (fun _ => ?_) (fun c => absurd c (by decide))
          exact J_100 H locs ls v3645 v3646 v3648  (lv_sub hl [0, 1, 2, 3, 4] rfl) ⟨by omega, by omega⟩ ⟨by omega, by omega⟩ ⟨by omega, by omega⟩ (by first | omega | (rw [show (0 : Int32).toInt = 0 from by decide]; omega)) (by first | omega | (rw [show (0 : Int32).toInt = 0 from by decide]; omega)) (by first | omega | (rw [show (0 : Int32).toInt = 0 from by decide]; omega)) hg3655 ⟨a3656, hf3657, hq3658, hA3659⟩ hI hS
      have J_43 : ∀ (nn : Nat) (H : Heap) (locs : List Loc) (ls : Array Slot) (v3663 : Int32) (v3664 : Int32) (v3666 : Int32) , (Int.toNat (x1.toInt - v3663.toInt) = nn) → lv_has ls 6 [(4, .int v3663), (3, .int v3664), (2, .int v3395), (0, .ref h0), (1, .int x1)] → ((0 : Int) ≤ v3663.toInt ∧ v3663.toInt ≤ 400) → ((97 : Int) ≤ v3664.toInt ∧ v3664.toInt ≤ 122) → ((1 : Int) ≤ x1.toInt ∧ x1.toInt ≤ 400) → ((0 : Int) ≤ v3666.toInt ∧ v3666.toInt ≤ 400) → (v3666.toInt ≤ v3395.toInt) → (v3395.toInt < v3663.toInt) → (v3663.toInt ≤ x1.toInt) → gf D h0 15 v3666 H → ga E D G h0 3 (1, 5123) ff H → th_I (okM E) D G [] H → va_S (th_A G) s.heap H locs → W p l e R s m args below meth c H locs 0 0 QF (F0 m 43 ls []) := by
        intro nn
        induction nn using Nat.strongRecOn with
        | ind nn ih_43 =>
          intro H locs ls v3663 v3664 v3666  hm hl k3667 k3668 k3669 k3670 k3671 k3672 k3673 hg3674 hga_3 hI hS
          obtain ⟨a3675, hf3676, hq3677, hA3678⟩ := hga_3
          refine lv_iload hx hb dX12_splits_43 (lv_at hl 0 rfl) ?_
          refine lv_iload_n hx hb dX12_splits_45 rfl (lv_at hl 4 rfl) ?_
          refine lv_icmp_ge (tgt := 68) hx hb dX12_splits_46 (by decide) (fun c3679 => ?_) (fun c3679 => ?_)
          · skip
            have k3680 := iv_le (X := x1.toInt) (Y := v3663.toInt) rfl rfl c3679
            exact J_68 H locs ls v3663 v3664 v3666  (lv_sub hl [0, 1, 2, 3, 4] rfl) ⟨by omega, by omega⟩ ⟨by omega, by omega⟩ ⟨by omega, by omega⟩ (by first | omega | (rw [show (0 : Int32).toInt = 0 from by decide]; omega)) (by first | omega | (rw [show (0 : Int32).toInt = 0 from by decide]; omega)) (by first | omega | (rw [show (0 : Int32).toInt = 0 from by decide]; omega)) hg3674 ⟨a3675, hf3676, hq3677, hA3678⟩ hI hS
          · skip
            have k3681 := iv_nle (X := x1.toInt) (Y := v3663.toInt) rfl rfl c3679
            refine lv_aload_n hx hb dX12_splits_49 rfl (lv_at hl 3 rfl) ?_
            refine gmA hx hb hts inT12 hown hK hI List.not_mem_nil hG0 8 (by decide) (hts _ (tb_c wd_1241)) rfl rfl dX12_splits_50 (fun a3682 hq3683 hf3684 => ?_)
            refine lv_iload hx hb dX12_splits_53 (lv_at hl 0 rfl) ?_
            obtain ⟨F3685, hA3686⟩ := om_4 hI hq3683 List.not_mem_nil
            refine va_bald hx hb hK (th_one hA3686) 0 3 rfl rfl (iv_in (X := v3663.toInt) rfl (by omega) (by omega)) dX12_splits_55 ?_
            refine lv_topi (fun v3687 e3688 => ?_)
            refine th_cSs (As := [.int v3687]) (rest := []) (n := 1) (d := 1) ⟨hx, hb, hml, hown, hts⟩ (c_X12_isSmall l H v3687) wd_1572 wd_1573 wd_13 wd_1574 (by decide +kernel) ⟨by rw [hR]; exact Nat.le_of_ble_eq_true rfl, by rw [hR]; exact Nat.le_of_ble_eq_true rfl⟩ hN hS rfl hl.1 rfl (Nat.le_of_ble_eq_true rfl) dX12_splits_56 ⟨Nat.zero_le _, Nat.zero_le _⟩ (fun r3689 locs hp hS => ?_)
            rcases hp with ⟨rfl, hp⟩ | ⟨rfl, hp⟩
            · skip
              try simp only [rg, not_and, Int.not_le] at hp
              have hp3690 := hp
              refine lv_if_eq (tgt := 68) hx hb dX12_splits_59 (by decide) (fun c => absurd c (by decide)) (fun _ => ?_)
              obtain ⟨v3691, e3692⟩ : ∃ y : Int32, y = v3663 + (1) := ⟨_, rfl⟩
              have tv3691 : v3691.toInt = v3663.toInt + (1) := iv_add rfl (by decide) e3692 (by omega) (by omega)
              refine lv_iinc (v := v3691) (lv' := [(4, .int v3691), (3, .int v3664), (2, .int v3395), (0, .ref h0), (1, .int x1)]) hx hb dX12_splits_62 hl (k := 0) rfl (by rw [e3692]; rfl) (by decide) rfl (fun ls hl => ?_)
              refine lv_goto (tgt := 43) hx hb dX12_splits_65 (by decide) ?_
              exact ih_43 _ (by omega) H locs ls v3691 v3664 v3666  rfl (lv_sub hl [0, 1, 2, 3, 4] rfl) ⟨by omega, by omega⟩ ⟨by omega, by omega⟩ ⟨by omega, by omega⟩ ⟨by omega, by omega⟩ (by first | omega | (rw [show (0 : Int32).toInt = 0 from by decide]; omega)) (by first | omega | (rw [show (0 : Int32).toInt = 0 from by decide]; omega)) (by first | omega | (rw [show (0 : Int32).toInt = 0 from by decide]; omega)) hg3674 ⟨a3675, hf3676, hq3677, hA3678⟩ hI hS
            · skip
              try simp only [rg, not_and, Int.not_le] at hp
              have hp3693 := hp
              refine lv_if_eq (tgt := 68) hx hb dX12_splits_59 (by decide) (fun _ => ?_) (fun c => absurd c (by decide))
              exact J_68 H locs ls v3663 v3664 v3666  (lv_sub hl [0, 1, 2, 3, 4] rfl) ⟨by omega, by omega⟩ ⟨by omega, by omega⟩ ⟨by omega, by omega⟩ (by first | omega | (rw [show (0 : Int32).toInt = 0 from by decide]; omega)) (by first | omega | (rw [show (0 : Int32).toInt = 0 from by decide]; omega)) (by first | omega | (rw [show (0 : Int32).toInt = 0 from by decide]; omega)) hg3674 ⟨a3675, hf3676, hq3677, hA3678⟩ hI hS
      refine lv_iload_n hx hb dX12_splits_7 rfl (lv_at hl 0 rfl) ?_
      refine lv_iload_n hx hb dX12_splits_8 rfl (lv_at hl 2 rfl) ?_
      refine lv_icmp_ge (tgt := 263) hx hb dX12_splits_9 (by decide) (fun c3694 => ?_) (fun c3694 => ?_)
      · skip
        have k3695 := iv_le (X := x1.toInt) (Y := v3395.toInt) rfl rfl c3694
        refine lv_aload_n hx hb dX12_splits_263 rfl (lv_at hl 1 rfl) ?_
        refine gmA hx hb hts inT12 hown hK hI List.not_mem_nil hG0 14 (by decide) (hts _ (tb_c wd_1247)) rfl rfl dX12_splits_264 (fun a3696 hq3697 hf3698 => ?_)
        refine lv_aload_n hx hb dX12_splits_267 rfl (lv_at hl 1 rfl) ?_
        refine gmI hx hb hts inT12 hown hK hI List.not_mem_nil hG0 15 (by decide) (hts _ (tb_c wd_1248)) rfl rfl dX12_splits_268 (fun w3699 hg3700 k3701 k3702 => ?_)
        obtain rfl := gf.uniq (by decide) hg3402 hg3700
        refine lv_iload_n hx hb dX12_splits_271 rfl (lv_at hl 2 rfl) ?_
        obtain ⟨F3703, hA3704, hP3705⟩ := om_6 hI hq3697 List.not_mem_nil
        refine th_iast hx hb hK hA3704 0 rfl hS ⟨_, hq3697⟩ (iv_in (X := v3396.toInt) rfl (by omega) (by omega)) dX12_splits_272 (fun H locs hA3706 oq hS => ?_)
        have hP3707 := rgs_set (k := v3396.toNatClampNeg) (v := x1) hP3705 (by omega) (by omega)
        have hI := th_I.put hI hq3697 hA3706 (ok_m6 hP3707) oq
        have hg3402 := gf.arr hG0 hq3697 (by decide) oq hg3402
        have hf3404 := fr.arr hG0 hq3697 (by decide) oq hf3404
        have hf3698 := fr.arr hG0 hq3697 (by decide) oq hf3698
        have hA3406 := va_at.kept hA3406 (oq _ (m_ne hq3405 hq3697 (by first | decide | (dsimp only; decide))))
        have e3708 : x1 = (upd F3703 (v3396 : Int32).toNatClampNeg x1) (v3396 : Int32).toNatClampNeg := rd_us
        refine lv_aload_n hx hb dX12_splits_273 rfl (lv_at hl 1 rfl) ?_
        refine gmA hx hb hts inT12 hown hK hI List.not_mem_nil hG0 12 (by decide) (hts _ (tb_c wd_1245)) rfl rfl dX12_splits_274 (fun a3709 hq3710 hf3711 => ?_)
        refine lv_aload_n hx hb dX12_splits_277 rfl (lv_at hl 1 rfl) ?_
        refine gmI hx hb hts inT12 hown hK hI List.not_mem_nil hG0 15 (by decide) (hts _ (tb_c wd_1248)) rfl rfl dX12_splits_278 (fun w3712 hg3713 k3714 k3715 => ?_)
        obtain rfl := gf.uniq (by decide) hg3402 hg3713
        refine lv_iconst (v := 0) hx hb dX12_splits_281 (by decide) ?_
        obtain ⟨F3716, hA3717⟩ := om_8 hI hq3710 List.not_mem_nil
        refine th_iast hx hb hK hA3717 0 rfl hS ⟨_, hq3710⟩ (iv_in (X := v3396.toInt) rfl (by omega) (by omega)) dX12_splits_282 (fun H locs hA3718 oq hS => ?_)
        have hI := th_I.put hI hq3710 hA3718 ok_m8 oq
        have hg3402 := gf.arr hG0 hq3710 (by decide) oq hg3402
        have hf3404 := fr.arr hG0 hq3710 (by decide) oq hf3404
        have hf3698 := fr.arr hG0 hq3710 (by decide) oq hf3698
        have hf3711 := fr.arr hG0 hq3710 (by decide) oq hf3711
        have hA3406 := va_at.kept hA3406 (oq _ (m_ne hq3405 hq3710 (by first | decide | (dsimp only; decide))))
        have hA3706 := va_at.kept hA3706 (oq _ (m_ne hq3697 hq3710 (by first | decide | (dsimp only; decide))))
        have e3719 : 0 = (upd F3716 (v3396 : Int32).toNatClampNeg 0) (v3396 : Int32).toNatClampNeg := rd_us
        refine lv_aload_n hx hb dX12_splits_283 rfl (lv_at hl 1 rfl) ?_
        refine gmA hx hb hts inT12 hown hK hI List.not_mem_nil hG0 13 (by decide) (hts _ (tb_c wd_1246)) rfl rfl dX12_splits_284 (fun a3720 hq3721 hf3722 => ?_)
        refine lv_aload_n hx hb dX12_splits_287 rfl (lv_at hl 1 rfl) ?_
        refine gmI hx hb hts inT12 hown hK hI List.not_mem_nil hG0 15 (by decide) (hts _ (tb_c wd_1248)) rfl rfl dX12_splits_288 (fun w3723 hg3724 k3725 k3726 => ?_)
        obtain rfl := gf.uniq (by decide) hg3402 hg3724
        refine lv_iconst (v := 0) hx hb dX12_splits_291 (by decide) ?_
        obtain ⟨F3727, hA3728⟩ := om_0 hI hq3721 List.not_mem_nil
        refine th_iast hx hb hK hA3728 0 rfl hS ⟨_, hq3721⟩ (iv_in (X := v3396.toInt) rfl (by omega) (by omega)) dX12_splits_292 (fun H locs hA3729 oq hS => ?_)
        have hI := th_I.put hI hq3721 hA3729 ok_m0 oq
        have hg3402 := gf.arr hG0 hq3721 (by decide) oq hg3402
        have hf3404 := fr.arr hG0 hq3721 (by decide) oq hf3404
        have hf3698 := fr.arr hG0 hq3721 (by decide) oq hf3698
        have hf3711 := fr.arr hG0 hq3721 (by decide) oq hf3711
        have hf3722 := fr.arr hG0 hq3721 (by decide) oq hf3722
        have hA3406 := va_at.kept hA3406 (oq _ (m_ne hq3405 hq3721 (by first | decide | (dsimp only; decide))))
        have hA3706 := va_at.kept hA3706 (oq _ (m_ne hq3697 hq3721 (by first | decide | (dsimp only; decide))))
        have hA3718 := va_at.kept hA3718 (oq _ (m_ne hq3710 hq3721 (by first | decide | (dsimp only; decide))))
        have e3730 : 0 = (upd F3727 (v3396 : Int32).toNatClampNeg 0) (v3396 : Int32).toNatClampNeg := rd_us
        have hpost : ∃ (z : Int32) (cd : Nat → Int32), gf D h0 15 z H ∧ 0 ≤ z.toInt ∧ z.toInt ≤ 400 ∧ ga E D G h0 3 (1, 5123) ff H ∧ ga E D G h0 12 (8, 401) cd H ∧ (cd z.toNatClampNeg).toInt = 0 := ⟨v3396, (upd F3716 (v3396 : Int32).toNatClampNeg 0), hg3402, by omega, by omega, ⟨a3403, hf3404, hq3405, hA3406⟩, ⟨a3709, hf3711, hq3710, hA3718⟩, by rw [← e3719]; decide⟩
        rw [hQ]
        exact W.vret hx hb hr (fun t ht hW => ⟨⟨(), rfl, trivial, ⟨by rw [ht]; exact hI, hN.warm hW, va_K.moved hW.alike hK⟩, by first | (rw [ht]; exact hpost) | exact hpost⟩, hS.F ht⟩) hS.2.2 dX12_splits_293
      · skip
        have k3731 := iv_nle (X := x1.toInt) (Y := v3395.toInt) rfl rfl c3694
        refine lv_aload_n hx hb dX12_splits_12 rfl (lv_at hl 1 rfl) ?_
        refine gmA hx hb hts inT12 hown hK hI List.not_mem_nil hG0 8 (by decide) (hts _ (tb_c wd_1241)) rfl rfl dX12_splits_13 (fun a3732 hq3733 hf3734 => ?_)
        refine lv_iload_n hx hb dX12_splits_16 rfl (lv_at hl 0 rfl) ?_
        obtain ⟨F3735, hA3736⟩ := om_4 hI hq3733 List.not_mem_nil
        refine va_bald hx hb hK (th_one hA3736) 0 3 rfl rfl (iv_in (X := v3395.toInt) rfl (by omega) (by omega)) dX12_splits_17 ?_
        refine lv_topi (fun v3737 e3738 => ?_)
        refine lv_istore_n (lv' := [(3, .int v3737), (2, .int v3395), (0, .ref h0), (1, .int x1)]) hx hb dX12_splits_18 rfl hl (by decide) rfl (fun ls hl => ?_)
        refine lv_iload_n hx hb dX12_splits_19 rfl (lv_at hl 0 rfl) ?_
        refine lv_bipush (v := 32) hx hb dX12_splits_20 (by decide) ?_
        have k3739 := iv_lo v3737
        have k3740 := iv_hi v3737
        refine lv_icmp_ne (tgt := 31) hx hb dX12_splits_22 (by decide) (fun c3741 => ?_) (fun c3741 => ?_)
        · skip
          have k3742 := iv_ne (X := v3737.toInt) (Y := (32)) rfl (by decide) c3741
          refine lv_iload_n hx hb dX12_splits_31 rfl (lv_at hl 1 rfl) ?_
          refine lv_iconst (v := 1) hx hb dX12_splits_32 (by decide) ?_
          refine lv_iadd hx hb dX12_splits_33 ?_
          refine lv_topi (fun v3743 e3744 => ?_)
          have tv3743 : v3743.toInt = v3395.toInt + (1) := iv_add rfl (by decide) e3744 (by omega) (by omega)
          refine lv_istore (lv' := [(4, .int v3743), (3, .int v3737), (2, .int v3395), (0, .ref h0), (1, .int x1)]) hx hb dX12_splits_34 hl (by decide) rfl (fun ls hl => ?_)
          refine lv_iload_n hx hb dX12_splits_36 rfl (lv_at hl 1 rfl) ?_
          refine th_cSs (As := [.int v3737]) (rest := []) (n := 1) (d := 1) ⟨hx, hb, hml, hown, hts⟩ (c_X12_isSmall l H v3737) wd_1572 wd_1573 wd_13 wd_1574 (by decide +kernel) ⟨by rw [hR]; exact Nat.le_of_ble_eq_true rfl, by rw [hR]; exact Nat.le_of_ble_eq_true rfl⟩ hN hS rfl hl.1 rfl (Nat.le_of_ble_eq_true rfl) dX12_splits_37 ⟨Nat.zero_le _, Nat.zero_le _⟩ (fun r3745 locs hp hS => ?_)
          rcases hp with ⟨rfl, hp⟩ | ⟨rfl, hp⟩
          · skip
            try simp only [rg, not_and, Int.not_le] at hp
            have hp3746 := hp
            refine lv_if_eq (tgt := 68) hx hb dX12_splits_40 (by decide) (fun c => absurd c (by decide)) (fun _ => ?_)
            exact J_43 _ H locs ls v3743 v3737 v3396  rfl (lv_sub hl [0, 1, 2, 3, 4] rfl) ⟨by omega, by omega⟩ ⟨by omega, by omega⟩ ⟨by omega, by omega⟩ ⟨by omega, by omega⟩ (by first | omega | (rw [show (0 : Int32).toInt = 0 from by decide]; omega)) (by first | omega | (rw [show (0 : Int32).toInt = 0 from by decide]; omega)) (by first | omega | (rw [show (0 : Int32).toInt = 0 from by decide]; omega)) hg3402 ⟨a3403, hf3404, hq3405, hA3406⟩ hI hS
          · skip
            try simp only [rg, not_and, Int.not_le] at hp
            have hp3747 := hp
            refine lv_if_eq (tgt := 68) hx hb dX12_splits_40 (by decide) (fun _ => ?_) (fun c => absurd c (by decide))
            exact J_68 H locs ls v3743 v3737 v3396  (lv_sub hl [0, 1, 2, 3, 4] rfl) ⟨by omega, by omega⟩ ⟨by omega, by omega⟩ ⟨by omega, by omega⟩ (by first | omega | (rw [show (0 : Int32).toInt = 0 from by decide]; omega)) (by first | omega | (rw [show (0 : Int32).toInt = 0 from by decide]; omega)) (by first | omega | (rw [show (0 : Int32).toInt = 0 from by decide]; omega)) hg3402 ⟨a3403, hf3404, hq3405, hA3406⟩ hI hS
        · skip
          have k3748 := iv_eq (X := v3737.toInt) (Y := (32)) rfl (by decide) c3741
          obtain ⟨v3749, e3750⟩ : ∃ y : Int32, y = v3395 + (1) := ⟨_, rfl⟩
          have tv3749 : v3749.toInt = v3395.toInt + (1) := iv_add rfl (by decide) e3750 (by omega) (by omega)
          refine lv_iinc (v := v3749) (lv' := [(2, .int v3749), (3, .int v3737), (0, .ref h0), (1, .int x1)]) hx hb dX12_splits_25 hl (k := 1) rfl (by rw [e3750]; rfl) (by decide) rfl (fun ls hl => ?_)
          refine lv_goto (tgt := 7) hx hb dX12_splits_28 (by decide) ?_
          exact ih_7 _ (by omega) H locs ls v3749 v3396  rfl (lv_sub hl [0, 2, 3] rfl) ⟨by omega, by omega⟩ ⟨by omega, by omega⟩ ⟨by omega, by omega⟩ (by first | omega | (rw [show (0 : Int32).toInt = 0 from by decide]; omega)) (by first | omega | (rw [show (0 : Int32).toInt = 0 from by decide]; omega)) hg3402 ⟨a3403, hf3404, hq3405, hA3406⟩ hI hS
  refine lv_aload_n hx hb dX12_splits_0 rfl (lv_at hl 0 rfl) ?_
  refine lv_iconst (v := 0) hx hb dX12_splits_1 (by decide) ?_
  refine pmI (ty := .int) hx hb hts inT12 hown hK hI List.not_mem_nil hG0 hS ⟨_, hG0⟩ 15 (by decide) (hts _ (tb_c wd_1248)) rfl rfl (by decide +kernel) rfl rfl rfl (by decide) (by decide) dX12_splits_2 (fun H locs hI hgP hS => ?_)
  have hg3751 := hgP.2.1
  have hf_3 := hgP.2.2.2 3 _ (by decide) (by decide) hf_3
  have hA_3 := va_at.kept hA_3 (hgP.1 _ (m_ne hq_3 hG0 (by first | decide | (dsimp only; decide))))
  refine lv_iconst (v := 0) hx hb dX12_splits_5 (by decide) ?_
  refine lv_istore_n (lv' := [(2, .int 0), (0, .ref h0), (1, .int x1)]) hx hb dX12_splits_6 rfl hl (by decide) rfl (fun ls hl => ?_)
  have zl : (0 : Int32).toInt = 0 := by decide
  exact J_7 _ H locs ls 0 0  rfl (lv_sub hl [0, 1, 2] rfl) ⟨by decide, by decide⟩ ⟨by omega, by omega⟩ ⟨by decide, by decide⟩ (by first | omega | (rw [show (0 : Int32).toInt = 0 from by decide]; omega)) (by first | omega | (rw [show (0 : Int32).toInt = 0 from by decide]; omega)) hg3751 ⟨q_3, hf_3, hq_3, hA_3⟩ hI hS
theorem dX12_reads_0g : (decode cX12_reads 0 = .ok (.aload_n 0, 1)) ∧ (decode cX12_reads 1 = .ok (.aload_n 0, 1)) ∧ (decode cX12_reads 2 = .ok (.getfield 132, 3)) ∧ (decode cX12_reads 5 = .ok (.invokevirtual 207, 3)) ∧ (decode cX12_reads 8 = .ok (.aload_n 0, 1)) ∧ (decode cX12_reads 9 = .ok (.iconst 0, 1)) ∧ (decode cX12_reads 10 = .ok (.putfield 132, 3)) ∧ (decode cX12_reads 13 = .ok (.aload_n 0, 1)) ∧ (decode cX12_reads 14 = .ok (.iconst 0, 1)) ∧ (decode cX12_reads 15 = .ok (.putfield 166, 3)) := by decide +kernel
theorem dX12_reads_0 : decode cX12_reads 0 = .ok (.aload_n 0, 1) := dX12_reads_0g.1
theorem dX12_reads_1 : decode cX12_reads 1 = .ok (.aload_n 0, 1) := dX12_reads_0g.2.1
theorem dX12_reads_2 : decode cX12_reads 2 = .ok (.getfield 132, 3) := dX12_reads_0g.2.2.1
theorem dX12_reads_5 : decode cX12_reads 5 = .ok (.invokevirtual 207, 3) := dX12_reads_0g.2.2.2.1
theorem dX12_reads_8 : decode cX12_reads 8 = .ok (.aload_n 0, 1) := dX12_reads_0g.2.2.2.2.1
theorem dX12_reads_9 : decode cX12_reads 9 = .ok (.iconst 0, 1) := dX12_reads_0g.2.2.2.2.2.1
theorem dX12_reads_10 : decode cX12_reads 10 = .ok (.putfield 132, 3) := dX12_reads_0g.2.2.2.2.2.2.1
theorem dX12_reads_13 : decode cX12_reads 13 = .ok (.aload_n 0, 1) := dX12_reads_0g.2.2.2.2.2.2.2.1
theorem dX12_reads_14 : decode cX12_reads 14 = .ok (.iconst 0, 1) := dX12_reads_0g.2.2.2.2.2.2.2.2.1
theorem dX12_reads_15 : decode cX12_reads 15 = .ok (.putfield 166, 3) := dX12_reads_0g.2.2.2.2.2.2.2.2.2
theorem dX12_reads_18g : (decode cX12_reads 18 = .ok (.aload_n 0, 1)) ∧ (decode cX12_reads 19 = .ok (.iconst 0, 1)) ∧ (decode cX12_reads 20 = .ok (.putfield 175, 3)) ∧ (decode cX12_reads 23 = .ok (.aload_n 0, 1)) ∧ (decode cX12_reads 24 = .ok (.iconst (-1), 1)) ∧ (decode cX12_reads 25 = .ok (.putfield 159, 3)) ∧ (decode cX12_reads 28 = .ok (.aload_n 0, 1)) ∧ (decode cX12_reads 29 = .ok (.invokevirtual 210, 3)) ∧ (decode cX12_reads 32 = .ok (.iconst 1, 1)) ∧ (decode cX12_reads 33 = .ok (.istore_n 1, 1)) := by decide +kernel
theorem dX12_reads_18 : decode cX12_reads 18 = .ok (.aload_n 0, 1) := dX12_reads_18g.1
theorem dX12_reads_19 : decode cX12_reads 19 = .ok (.iconst 0, 1) := dX12_reads_18g.2.1
theorem dX12_reads_20 : decode cX12_reads 20 = .ok (.putfield 175, 3) := dX12_reads_18g.2.2.1
theorem dX12_reads_23 : decode cX12_reads 23 = .ok (.aload_n 0, 1) := dX12_reads_18g.2.2.2.1
theorem dX12_reads_24 : decode cX12_reads 24 = .ok (.iconst (-1), 1) := dX12_reads_18g.2.2.2.2.1
theorem dX12_reads_25 : decode cX12_reads 25 = .ok (.putfield 159, 3) := dX12_reads_18g.2.2.2.2.2.1
theorem dX12_reads_28 : decode cX12_reads 28 = .ok (.aload_n 0, 1) := dX12_reads_18g.2.2.2.2.2.2.1
theorem dX12_reads_29 : decode cX12_reads 29 = .ok (.invokevirtual 210, 3) := dX12_reads_18g.2.2.2.2.2.2.2.1
theorem dX12_reads_32 : decode cX12_reads 32 = .ok (.iconst 1, 1) := dX12_reads_18g.2.2.2.2.2.2.2.2.1
theorem dX12_reads_33 : decode cX12_reads 33 = .ok (.istore_n 1, 1) := dX12_reads_18g.2.2.2.2.2.2.2.2.2
theorem dX12_reads_34g : (decode cX12_reads 34 = .ok (.aload_n 0, 1)) ∧ (decode cX12_reads 35 = .ok (.bipush 59, 2)) ∧ (decode cX12_reads 37 = .ok (.invokestatic 194, 3)) ∧ (decode cX12_reads 40 = .ok (.invokevirtual 169, 3)) ∧ (decode cX12_reads 43 = .ok (.ifCond .eq 30, 3)) ∧ (decode cX12_reads 46 = .ok (.iload_n 1, 1)) ∧ (decode cX12_reads 47 = .ok (.bipush 12, 2)) ∧ (decode cX12_reads 49 = .ok (.if_icmp .ne 7, 3)) ∧ (decode cX12_reads 52 = .ok (.aload_n 0, 1)) ∧ (decode cX12_reads 53 = .ok (.invokevirtual 172, 3)) := by decide +kernel
theorem dX12_reads_34 : decode cX12_reads 34 = .ok (.aload_n 0, 1) := dX12_reads_34g.1
theorem dX12_reads_35 : decode cX12_reads 35 = .ok (.bipush 59, 2) := dX12_reads_34g.2.1
theorem dX12_reads_37 : decode cX12_reads 37 = .ok (.invokestatic 194, 3) := dX12_reads_34g.2.2.1
theorem dX12_reads_40 : decode cX12_reads 40 = .ok (.invokevirtual 169, 3) := dX12_reads_34g.2.2.2.1
theorem dX12_reads_43 : decode cX12_reads 43 = .ok (.ifCond .eq 30, 3) := dX12_reads_34g.2.2.2.2.1
theorem dX12_reads_46 : decode cX12_reads 46 = .ok (.iload_n 1, 1) := dX12_reads_34g.2.2.2.2.2.1
theorem dX12_reads_47 : decode cX12_reads 47 = .ok (.bipush 12, 2) := dX12_reads_34g.2.2.2.2.2.2.1
theorem dX12_reads_49 : decode cX12_reads 49 = .ok (.if_icmp .ne 7, 3) := dX12_reads_34g.2.2.2.2.2.2.2.1
theorem dX12_reads_52 : decode cX12_reads 52 = .ok (.aload_n 0, 1) := dX12_reads_34g.2.2.2.2.2.2.2.2.1
theorem dX12_reads_53 : decode cX12_reads 53 = .ok (.invokevirtual 172, 3) := dX12_reads_34g.2.2.2.2.2.2.2.2.2
theorem dX12_reads_56g : (decode cX12_reads 56 = .ok (.aload_n 0, 1)) ∧ (decode cX12_reads 57 = .ok (.invokevirtual 162, 3)) ∧ (decode cX12_reads 60 = .ok (.ifCond .eq 7, 3)) ∧ (decode cX12_reads 63 = .ok (.aload_n 0, 1)) ∧ (decode cX12_reads 64 = .ok (.invokevirtual 210, 3)) ∧ (decode cX12_reads 67 = .ok (.iinc 1 1, 3)) ∧ (decode cX12_reads 70 = .ok (.goto (-36), 3)) ∧ (decode cX12_reads 73 = .ok (.aload_n 0, 1)) ∧ (decode cX12_reads 74 = .ok (.invokevirtual 162, 3)) ∧ (decode cX12_reads 77 = .ok (.ifCond .eq 18, 3)) := by decide +kernel
theorem dX12_reads_56 : decode cX12_reads 56 = .ok (.aload_n 0, 1) := dX12_reads_56g.1
theorem dX12_reads_57 : decode cX12_reads 57 = .ok (.invokevirtual 162, 3) := dX12_reads_56g.2.1
theorem dX12_reads_60 : decode cX12_reads 60 = .ok (.ifCond .eq 7, 3) := dX12_reads_56g.2.2.1
theorem dX12_reads_63 : decode cX12_reads 63 = .ok (.aload_n 0, 1) := dX12_reads_56g.2.2.2.1
theorem dX12_reads_64 : decode cX12_reads 64 = .ok (.invokevirtual 210, 3) := dX12_reads_56g.2.2.2.2.1
theorem dX12_reads_67 : decode cX12_reads 67 = .ok (.iinc 1 1, 3) := dX12_reads_56g.2.2.2.2.2.1
theorem dX12_reads_70 : decode cX12_reads 70 = .ok (.goto (-36), 3) := dX12_reads_56g.2.2.2.2.2.2.1
theorem dX12_reads_73 : decode cX12_reads 73 = .ok (.aload_n 0, 1) := dX12_reads_56g.2.2.2.2.2.2.2.1
theorem dX12_reads_74 : decode cX12_reads 74 = .ok (.invokevirtual 162, 3) := dX12_reads_56g.2.2.2.2.2.2.2.2.1
theorem dX12_reads_77 : decode cX12_reads 77 = .ok (.ifCond .eq 18, 3) := dX12_reads_56g.2.2.2.2.2.2.2.2.2
theorem dX12_reads_80g : (decode cX12_reads 80 = .ok (.aload_n 0, 1)) ∧ (decode cX12_reads 81 = .ok (.getfield 166, 3)) ∧ (decode cX12_reads 84 = .ok (.aload_n 0, 1)) ∧ (decode cX12_reads 85 = .ok (.getfield 145, 3)) ∧ (decode cX12_reads 88 = .ok (.if_icmp .ge 7, 3)) ∧ (decode cX12_reads 91 = .ok (.aload_n 0, 1)) ∧ (decode cX12_reads 92 = .ok (.invokevirtual 172, 3)) ∧ (decode cX12_reads 95 = .ok (.aload_n 0, 1)) ∧ (decode cX12_reads 96 = .ok (.aload_n 0, 1)) ∧ (decode cX12_reads 97 = .ok (.getfield 159, 3)) := by decide +kernel
theorem dX12_reads_80 : decode cX12_reads 80 = .ok (.aload_n 0, 1) := dX12_reads_80g.1
theorem dX12_reads_81 : decode cX12_reads 81 = .ok (.getfield 166, 3) := dX12_reads_80g.2.1
theorem dX12_reads_84 : decode cX12_reads 84 = .ok (.aload_n 0, 1) := dX12_reads_80g.2.2.1
theorem dX12_reads_85 : decode cX12_reads 85 = .ok (.getfield 145, 3) := dX12_reads_80g.2.2.2.1
theorem dX12_reads_88 : decode cX12_reads 88 = .ok (.if_icmp .ge 7, 3) := dX12_reads_80g.2.2.2.2.1
theorem dX12_reads_91 : decode cX12_reads 91 = .ok (.aload_n 0, 1) := dX12_reads_80g.2.2.2.2.2.1
theorem dX12_reads_92 : decode cX12_reads 92 = .ok (.invokevirtual 172, 3) := dX12_reads_80g.2.2.2.2.2.2.1
theorem dX12_reads_95 : decode cX12_reads 95 = .ok (.aload_n 0, 1) := dX12_reads_80g.2.2.2.2.2.2.2.1
theorem dX12_reads_96 : decode cX12_reads 96 = .ok (.aload_n 0, 1) := dX12_reads_80g.2.2.2.2.2.2.2.2.1
theorem dX12_reads_97 : decode cX12_reads 97 = .ok (.getfield 159, 3) := dX12_reads_80g.2.2.2.2.2.2.2.2.2
theorem dX12_reads_100g : (decode cX12_reads 100 = .ok (.putfield 40, 3)) ∧ (decode cX12_reads 103 = .ok (.aload_n 0, 1)) ∧ (decode cX12_reads 104 = .ok (.invokevirtual 162, 3)) ∧ (decode cX12_reads 107 = .ok (.ireturn, 1)) := by decide +kernel
theorem dX12_reads_100 : decode cX12_reads 100 = .ok (.putfield 40, 3) := dX12_reads_100g.1
theorem dX12_reads_103 : decode cX12_reads 103 = .ok (.aload_n 0, 1) := dX12_reads_100g.2.1
theorem dX12_reads_104 : decode cX12_reads 104 = .ok (.invokevirtual 162, 3) := dX12_reads_100g.2.2.1
theorem dX12_reads_107 : decode cX12_reads 107 = .ok (.ireturn, 1) := dX12_reads_100g.2.2.2
set_option maxHeartbeats 4000000 in
set_option maxRecDepth 100000 in
theorem c_X12_reads (l : Launch) (E : Nat → Nat) (D : va_G) (G : th_G) (h0 : Nat) (hG0 : G h0 = some (10, 0)) (ff : Nat → Int32) (hkf : kOk (E 10) ff) : Met l yX12_reads (tb (.code yX12_reads cX12_reads 2 (some .boolean))) (rm 58) (va_Pc [.ref h0] (PX E D G (fun H => ga E D G h0 3 (1, 5123) ff H))) (QXi E D G (fun r H => ((r : Int32) = 1 ∧ LD E D G h0 ff H) ∨ ((r : Int32) = 0 ∧ ga E D G h0 3 (1, 5123) ff H))) 0 0 (th_A G) := by
  refine Met.ofW (cc := cX12_reads) (maxL := 2) (ret := (some .boolean)) (by decide) rfl ?_
  intro p e s m args below meth c s₁ B hml hv
  obtain ⟨hav, ⟨hI, hN, hK⟩, hX⟩ := hv
  have hx := B.exec
  have hb := B.bytes
  have hr := B.returns
  have hts := atoms_spec (ws := tb (.code yX12_reads cX12_reads 2 (some .boolean))) B.pre
  have hown : s.vm.findClass RX12 = some m.cls := findClass_of_methodNamed B.named
  have hlocks := B.notSynchronized
  have hS : va_S (th_A G) s.heap s.heap [] := va_S.rf
  have hl := lv_entry ([.ref h0]) (n := 2) (Nat.le_of_ble_eq_true rfl)
  rw [show entryFrame m args 2 = entryFrame m ([.ref h0] : List Value).toArray 2 from by rw [hav], lg_entry_eq]
  generalize (lg_sl ([.ref h0]) ++ List.replicate (2 - (lg_sl ([.ref h0])).length) Slot.unset).toArray = ls at hl ⊢
  have hl : lv_has ls 2 [(0, .ref h0)] := hl
  generalize hR : (headSpec (tb (.code yX12_reads cX12_reads 2 (some .boolean))) (rm 58)).room = R
  have hR := hR.symm
  generalize hQ : MQ below (QXi E D G (fun r H => ((r : Int32) = 1 ∧ LD E D G h0 ff H) ∨ ((r : Int32) = 0 ∧ ga E D G h0 3 (1, 5123) ff H))) args s 0 0 (th_A G) = QF
  have hQ := hQ.symm
  obtain ⟨q_3, hf_3, hq_3, hA_3⟩ := hX
  have J_34 : ∀ (nn : Nat) (H : Heap) (locs : List Loc) (ls : Array Slot) (v7555 : Int32) (cd : Nat → Int32) (TT : Nat) (p1 : Nat) (b1 : Int32), (Int.toNat (((TT : Nat) : Int) - ((p1 : Nat) : Int)) = nn) → lv_has ls 2 [(1, .int v7555), (0, .ref h0)] → (b1.toInt = -1 → g_so (rC cd TT) TT p1) → (RD E D G h0 ff cd TT p1 b1 H) → th_I (okM E) D G [] H → va_S (th_A G) s.heap H locs → W p l e R s m args below meth c H locs 0 0 QF (F0 m 34 ls []) := by
    intro nn
    induction nn using Nat.strongRecOn with
    | ind nn ih_34 =>
      intro H locs ls v7555 cd TT p1 b1 hm hl hInv hE hI hS
      obtain ⟨hkf, hT, hz0, k7569, ⟨a7556, hf7557, hq7558, hA7559⟩, ⟨a7560, hf7561, hq7562, hA7563⟩, ⟨w7564, hg7565, k7570⟩, ⟨w7566, hg7567, k7571⟩, hg7568⟩ := hE
      refine lv_aload_n hx hb dX12_reads_34 rfl (lv_at hl 1 rfl) ?_
      refine lv_bipush (v := 59) hx hb dX12_reads_35 (by decide) ?_
      refine th_cSs (As := [.int 59]) (rest := [.ref h0]) (n := 1) (d := 0) ⟨hx, hb, hml, hown, hts⟩ (c_X12_sign l H 59) wd_1495 wd_1496 wd_13 wd_1497 (by decide +kernel) ⟨by rw [hR]; exact Nat.le_of_ble_eq_true rfl, by rw [hR]; exact Nat.le_of_ble_eq_true rfl⟩ hN hS rfl hl.1 rfl (Nat.le_of_ble_eq_true rfl) dX12_reads_37 ⟨Nat.zero_le _, Nat.zero_le _⟩ (fun r7572 locs hp hS => ?_)
      obtain rfl : r7572 = 159 := hp.trans (by decide)
      refine mx_i (As := [.int 159]) (rest := []) (n := 1) (d := 1) ⟨hx, hb, hml, hown, hts⟩ (c_X12_takes0 l E D G h0 hG0 159 ff cd TT p1 b1 (by first | decide | omega)) wd_1587 wd_1589 wp_66 wd_13 wd_1590 (by decide +kernel) ⟨by rw [hR]; exact Nat.le_of_ble_eq_true rfl, by rw [hR]; exact Nat.le_of_ble_eq_true rfl⟩ hI hN hK hS hG0 (⟨hkf, hT, hz0, by omega, ⟨a7556, hf7557, hq7558, hA7559⟩, ⟨a7560, hf7561, hq7562, hA7563⟩, ⟨w7564, hg7565, by omega⟩, ⟨w7566, hg7567, by omega⟩, hg7568⟩) rfl hl.1 rfl (Nat.le_of_ble_eq_true rfl) dX12_reads_40 ⟨Nat.zero_le _, Nat.zero_le _⟩ (fun r7573 H locs hI hp hS => ?_)
      rcases hp with ⟨rfl, hp⟩ | ⟨rfl, hp⟩
      · skip
        try simp only [rg, not_and, Int.not_le] at hp
        have hp7574 := hp
        obtain ⟨hb7575, hc7576, k7577, hE⟩ := hp7574
        have hp7574 : True := trivial
        rw [show (159 : Int32).toInt = 159 from by decide] at hc7576
        obtain ⟨hkf, hT, hz0, k7591, ⟨a7578, hf7579, hq7580, hA7581⟩, ⟨a7582, hf7583, hq7584, hA7585⟩, ⟨w7586, hg7587, k7592⟩, ⟨w7588, hg7589, k7593⟩, hg7590⟩ := hE
        try rw [show (159 : Int32).toInt = 159 from by decide] at hp7574
        refine lv_if_eq (tgt := 73) hx hb dX12_reads_43 (by decide) (fun c => absurd c (by decide)) (fun _ => ?_)
        refine lv_iload_n hx hb dX12_reads_46 rfl (lv_at hl 0 rfl) ?_
        refine lv_bipush (v := 12) hx hb dX12_reads_47 (by decide) ?_
        have k7594 := iv_lo v7555
        have k7595 := iv_hi v7555
        refine lv_icmp_ne (tgt := 56) hx hb dX12_reads_49 (by decide) (fun c7596 => ?_) (fun c7596 => ?_)
        · skip
          have k7597 := iv_ne (X := v7555.toInt) (Y := (12)) rfl (by decide) c7596
          refine lv_aload_n hx hb dX12_reads_56 rfl (lv_at hl 1 rfl) ?_
          refine mr_i (As := []) (rest := []) (n := 0) (d := 0) ⟨hx, hb, hml, hown, hts⟩ (c_X12_fine l E D G H h0 hG0  ff cd TT (p1 + 1) b1 ⟨hkf, hT, hz0, by omega, ⟨a7578, hf7579, hq7580, hA7581⟩, ⟨a7582, hf7583, hq7584, hA7585⟩, ⟨w7586, hg7587, by omega⟩, ⟨w7588, hg7589, by omega⟩, hg7590⟩) wd_1591 wd_1593 wp_67 wd_13 wd_1594 (by decide +kernel) ⟨by rw [hR]; exact Nat.le_of_ble_eq_true rfl, by rw [hR]; exact Nat.le_of_ble_eq_true rfl⟩ hI hN hK hS hG0 rfl hl.1 rfl (Nat.le_of_ble_eq_true rfl) dX12_reads_57 ⟨Nat.zero_le _, Nat.zero_le _⟩ (fun r7598 locs hp hS => ?_)
          rcases hp with ⟨rfl, hp⟩ | ⟨rfl, hp⟩
          · skip
            try simp only [rg, not_and, Int.not_le] at hp
            have hp7599 := hp
            refine lv_if_eq (tgt := 67) hx hb dX12_reads_60 (by decide) (fun c => absurd c (by decide)) (fun _ => ?_)
            refine lv_aload_n hx hb dX12_reads_63 rfl (lv_at hl 1 rfl) ?_
            refine mx_v (As := []) (rest := []) (n := 0) (d := 57) ⟨hx, hb, hml, hown, hts⟩ (c_X12_readClause l E D G h0 hG0  ff cd TT (p1 + 1) b1) wd_1583 wd_1585 wp_65 wd_13 wd_1586 (by decide +kernel) ⟨by rw [hR]; exact Nat.le_of_ble_eq_true rfl, by rw [hR]; exact Nat.le_of_ble_eq_true rfl⟩ hI hN hK hS hG0 (⟨hkf, hT, hz0, by omega, ⟨a7578, hf7579, hq7580, hA7581⟩, ⟨a7582, hf7583, hq7584, hA7585⟩, ⟨w7586, hg7587, by omega⟩, ⟨w7588, hg7589, by omega⟩, hg7590⟩) rfl hl.1 rfl (Nat.le_of_ble_eq_true rfl) dX12_reads_64 ⟨Nat.zero_le _, Nat.zero_le _⟩ (fun H locs hI hp hS => ?_)
            obtain ⟨pn7601, bn7602, hE, k7604, hi7603⟩ := hp
            obtain ⟨hkf, hT, hz0, k7618, ⟨a7605, hf7606, hq7607, hA7608⟩, ⟨a7609, hf7610, hq7611, hA7612⟩, ⟨w7613, hg7614, k7619⟩, ⟨w7615, hg7616, k7620⟩, hg7617⟩ := hE
            have hInv2 : bn7602.toInt = -1 → g_so (rC cd TT) TT pn7601 := fun h => so_m (hInv hb7575) hc7576 (hi7603 h).2
            obtain ⟨v7621, e7622⟩ : ∃ y : Int32, y = v7555 + (1) := ⟨_, rfl⟩
            refine lv_iinc (v := v7621) (lv' := [(1, .int v7621), (0, .ref h0)]) hx hb dX12_reads_67 hl (k := 0) rfl (by rw [e7622]; rfl) (by decide) rfl (fun ls hl => ?_)
            refine lv_goto (tgt := 34) hx hb dX12_reads_70 (by decide) ?_
            exact ih_34 _ (by omega) H locs ls v7621 cd TT pn7601 bn7602 rfl (lv_sub hl [0, 1] rfl) (hInv2) (⟨hkf, hT, hz0, by omega, ⟨a7605, hf7606, hq7607, hA7608⟩, ⟨a7609, hf7610, hq7611, hA7612⟩, ⟨w7613, hg7614, by omega⟩, ⟨w7615, hg7616, by omega⟩, hg7617⟩) hI hS
          · skip
            try simp only [rg, not_and, Int.not_le] at hp
            have hp7623 := hp
            refine lv_if_eq (tgt := 67) hx hb dX12_reads_60 (by decide) (fun _ => ?_) (fun c => absurd c (by decide))
            obtain ⟨v7624, e7625⟩ : ∃ y : Int32, y = v7555 + (1) := ⟨_, rfl⟩
            refine lv_iinc (v := v7624) (lv' := [(1, .int v7624), (0, .ref h0)]) hx hb dX12_reads_67 hl (k := 0) rfl (by rw [e7625]; rfl) (by decide) rfl (fun ls hl => ?_)
            refine lv_goto (tgt := 34) hx hb dX12_reads_70 (by decide) ?_
            exact ih_34 _ (by omega) H locs ls v7624 cd TT (p1 + 1) b1 rfl (lv_sub hl [0, 1] rfl) (fun h => absurd h (by omega)) (⟨hkf, hT, hz0, by omega, ⟨a7578, hf7579, hq7580, hA7581⟩, ⟨a7582, hf7583, hq7584, hA7585⟩, ⟨w7586, hg7587, by omega⟩, ⟨w7588, hg7589, by omega⟩, hg7590⟩) hI hS
        · skip
          have k7626 := iv_eq (X := v7555.toInt) (Y := (12)) rfl (by decide) c7596
          refine lv_aload_n hx hb dX12_reads_52 rfl (lv_at hl 1 rfl) ?_
          refine mx_v (As := []) (rest := []) (n := 0) (d := 1) ⟨hx, hb, hml, hown, hts⟩ (c_X12_faults l E D G h0 hG0  ff cd TT (p1 + 1) b1) wd_1607 wd_1609 wp_71 wd_13 wd_1610 (by decide +kernel) ⟨by rw [hR]; exact Nat.le_of_ble_eq_true rfl, by rw [hR]; exact Nat.le_of_ble_eq_true rfl⟩ hI hN hK hS hG0 (⟨hkf, hT, hz0, by omega, ⟨a7578, hf7579, hq7580, hA7581⟩, ⟨a7582, hf7583, hq7584, hA7585⟩, ⟨w7586, hg7587, by omega⟩, ⟨w7588, hg7589, by omega⟩, hg7590⟩) rfl hl.1 rfl (Nat.le_of_ble_eq_true rfl) dX12_reads_53 ⟨Nat.zero_le _, Nat.zero_le _⟩ (fun H locs hI hp hS => ?_)
          obtain ⟨bn7628, hb7629, hE⟩ := hp
          obtain ⟨hkf, hT, hz0, k7643, ⟨a7630, hf7631, hq7632, hA7633⟩, ⟨a7634, hf7635, hq7636, hA7637⟩, ⟨w7638, hg7639, k7644⟩, ⟨w7640, hg7641, k7645⟩, hg7642⟩ := hE
          refine lv_aload_n hx hb dX12_reads_56 rfl (lv_at hl 1 rfl) ?_
          refine mr_i (As := []) (rest := []) (n := 0) (d := 0) ⟨hx, hb, hml, hown, hts⟩ (c_X12_fine l E D G H h0 hG0  ff cd TT (p1 + 1) bn7628 ⟨hkf, hT, hz0, by omega, ⟨a7630, hf7631, hq7632, hA7633⟩, ⟨a7634, hf7635, hq7636, hA7637⟩, ⟨w7638, hg7639, by omega⟩, ⟨w7640, hg7641, by omega⟩, hg7642⟩) wd_1591 wd_1593 wp_67 wd_13 wd_1594 (by decide +kernel) ⟨by rw [hR]; exact Nat.le_of_ble_eq_true rfl, by rw [hR]; exact Nat.le_of_ble_eq_true rfl⟩ hI hN hK hS hG0 rfl hl.1 rfl (Nat.le_of_ble_eq_true rfl) dX12_reads_57 ⟨Nat.zero_le _, Nat.zero_le _⟩ (fun r7646 locs hp hS => ?_)
          rcases hp with ⟨rfl, hp⟩ | ⟨rfl, hp⟩
          · skip
            try simp only [rg, not_and, Int.not_le] at hp
            have hp7647 := hp
            refine lv_if_eq (tgt := 67) hx hb dX12_reads_60 (by decide) (fun c => absurd c (by decide)) (fun _ => ?_)
            refine lv_aload_n hx hb dX12_reads_63 rfl (lv_at hl 1 rfl) ?_
            refine mx_v (As := []) (rest := []) (n := 0) (d := 57) ⟨hx, hb, hml, hown, hts⟩ (c_X12_readClause l E D G h0 hG0  ff cd TT (p1 + 1) bn7628) wd_1583 wd_1585 wp_65 wd_13 wd_1586 (by decide +kernel) ⟨by rw [hR]; exact Nat.le_of_ble_eq_true rfl, by rw [hR]; exact Nat.le_of_ble_eq_true rfl⟩ hI hN hK hS hG0 (⟨hkf, hT, hz0, by omega, ⟨a7630, hf7631, hq7632, hA7633⟩, ⟨a7634, hf7635, hq7636, hA7637⟩, ⟨w7638, hg7639, by omega⟩, ⟨w7640, hg7641, by omega⟩, hg7642⟩) rfl hl.1 rfl (Nat.le_of_ble_eq_true rfl) dX12_reads_64 ⟨Nat.zero_le _, Nat.zero_le _⟩ (fun H locs hI hp hS => ?_)
            obtain ⟨pn7649, bn7650, hE, k7652, hi7651⟩ := hp
            obtain ⟨hkf, hT, hz0, k7666, ⟨a7653, hf7654, hq7655, hA7656⟩, ⟨a7657, hf7658, hq7659, hA7660⟩, ⟨w7661, hg7662, k7667⟩, ⟨w7663, hg7664, k7668⟩, hg7665⟩ := hE
            have hInv2 : bn7650.toInt = -1 → g_so (rC cd TT) TT pn7649 := fun h => so_m (hInv hb7575) hc7576 (hi7651 h).2
            obtain ⟨v7669, e7670⟩ : ∃ y : Int32, y = v7555 + (1) := ⟨_, rfl⟩
            have tv7669 : v7669.toInt = v7555.toInt + (1) := iv_add rfl (by decide) e7670 (by omega) (by omega)
            refine lv_iinc (v := v7669) (lv' := [(1, .int v7669), (0, .ref h0)]) hx hb dX12_reads_67 hl (k := 0) rfl (by rw [e7670]; rfl) (by decide) rfl (fun ls hl => ?_)
            refine lv_goto (tgt := 34) hx hb dX12_reads_70 (by decide) ?_
            exact ih_34 _ (by omega) H locs ls v7669 cd TT pn7649 bn7650 rfl (lv_sub hl [0, 1] rfl) (hInv2) (⟨hkf, hT, hz0, by omega, ⟨a7653, hf7654, hq7655, hA7656⟩, ⟨a7657, hf7658, hq7659, hA7660⟩, ⟨w7661, hg7662, by omega⟩, ⟨w7663, hg7664, by omega⟩, hg7665⟩) hI hS
          · skip
            try simp only [rg, not_and, Int.not_le] at hp
            have hp7671 := hp
            refine lv_if_eq (tgt := 67) hx hb dX12_reads_60 (by decide) (fun _ => ?_) (fun c => absurd c (by decide))
            obtain ⟨v7672, e7673⟩ : ∃ y : Int32, y = v7555 + (1) := ⟨_, rfl⟩
            have tv7672 : v7672.toInt = v7555.toInt + (1) := iv_add rfl (by decide) e7673 (by omega) (by omega)
            refine lv_iinc (v := v7672) (lv' := [(1, .int v7672), (0, .ref h0)]) hx hb dX12_reads_67 hl (k := 0) rfl (by rw [e7673]; rfl) (by decide) rfl (fun ls hl => ?_)
            refine lv_goto (tgt := 34) hx hb dX12_reads_70 (by decide) ?_
            exact ih_34 _ (by omega) H locs ls v7672 cd TT (p1 + 1) bn7628 rfl (lv_sub hl [0, 1] rfl) (fun h => absurd h (by omega)) (⟨hkf, hT, hz0, by omega, ⟨a7630, hf7631, hq7632, hA7633⟩, ⟨a7634, hf7635, hq7636, hA7637⟩, ⟨w7638, hg7639, by omega⟩, ⟨w7640, hg7641, by omega⟩, hg7642⟩) hI hS
      · skip
        try simp only [rg, not_and, Int.not_le] at hp
        have hp7674 := hp
        obtain ⟨hc7675, hE⟩ := hp7674
        have hp7674 : True := trivial
        rw [show (159 : Int32).toInt = 159 from by decide] at hc7675
        obtain ⟨hkf, hT, hz0, k7689, ⟨a7676, hf7677, hq7678, hA7679⟩, ⟨a7680, hf7681, hq7682, hA7683⟩, ⟨w7684, hg7685, k7690⟩, ⟨w7686, hg7687, k7691⟩, hg7688⟩ := hE
        try rw [show (159 : Int32).toInt = 159 from by decide] at hp7674
        refine lv_if_eq (tgt := 73) hx hb dX12_reads_43 (by decide) (fun _ => ?_) (fun c => absurd c (by decide))
        refine lv_aload_n hx hb dX12_reads_73 rfl (lv_at hl 1 rfl) ?_
        refine mr_i (As := []) (rest := []) (n := 0) (d := 0) ⟨hx, hb, hml, hown, hts⟩ (c_X12_fine l E D G H h0 hG0  ff cd TT p1 b1 ⟨hkf, hT, hz0, by omega, ⟨a7676, hf7677, hq7678, hA7679⟩, ⟨a7680, hf7681, hq7682, hA7683⟩, ⟨w7684, hg7685, by omega⟩, ⟨w7686, hg7687, by omega⟩, hg7688⟩) wd_1591 wd_1593 wp_67 wd_13 wd_1594 (by decide +kernel) ⟨by rw [hR]; exact Nat.le_of_ble_eq_true rfl, by rw [hR]; exact Nat.le_of_ble_eq_true rfl⟩ hI hN hK hS hG0 rfl hl.1 rfl (Nat.le_of_ble_eq_true rfl) dX12_reads_74 ⟨Nat.zero_le _, Nat.zero_le _⟩ (fun r7692 locs hp hS => ?_)
        rcases hp with ⟨rfl, hp⟩ | ⟨rfl, hp⟩
        · skip
          try simp only [rg, not_and, Int.not_le] at hp
          have hp7693 := hp
          refine lv_if_eq (tgt := 95) hx hb dX12_reads_77 (by decide) (fun c => absurd c (by decide)) (fun _ => ?_)
          refine lv_aload_n hx hb dX12_reads_80 rfl (lv_at hl 1 rfl) ?_
          refine gmI hx hb hts inT12 hown hK hI List.not_mem_nil hG0 16 (by decide) (hts _ (tb_c wd_1249)) rfl rfl dX12_reads_81 (fun w7694 hg7695 k7696 k7697 => ?_)
          obtain rfl := gf.uniq (by decide) hg7687 hg7695
          refine lv_aload_n hx hb dX12_reads_84 rfl (lv_at hl 1 rfl) ?_
          refine gmI hx hb hts inT12 hown hK hI List.not_mem_nil hG0 15 (by decide) (hts _ (tb_c wd_1248)) rfl rfl dX12_reads_85 (fun w7698 hg7699 k7700 k7701 => ?_)
          obtain rfl := gf.uniq (by decide) hg7685 hg7699
          refine lv_icmp_ge (tgt := 95) hx hb dX12_reads_88 (by decide) (fun c7702 => ?_) (fun c7702 => ?_)
          · skip
            have k7703 := iv_le (X := w7684.toInt) (Y := w7686.toInt) rfl rfl c7702
            refine lv_aload_n hx hb dX12_reads_95 rfl (lv_at hl 1 rfl) ?_
            refine lv_aload_n hx hb dX12_reads_96 rfl (lv_at hl 1 rfl) ?_
            refine gmI hx hb hts inT12 hown hK hI List.not_mem_nil hG0 18 (by decide) (hts _ (tb_c wd_1251)) rfl rfl dX12_reads_97 (fun w7704 hg7705 k7706 k7707 => ?_)
            obtain rfl := gf.uniq (by decide) hg7688 hg7705
            have k7708 := iv_lo b1
            have k7709 := iv_hi b1
            refine pmI (ty := .int) hx hb hts inT12 hown hK hI List.not_mem_nil hG0 hS ⟨_, hG0⟩ 11 (by decide) (hts _ (tb_c wd_1244)) rfl rfl (by decide +kernel) rfl rfl rfl (by omega) (by omega) dX12_reads_100 (fun H locs hI hgP hS => ?_)
            have hg7685 := hgP.2.2.1 15 _ (by decide) (by decide) hg7685
            have hg7687 := hgP.2.2.1 16 _ (by decide) (by decide) hg7687
            have hg7688 := hgP.2.2.1 18 _ (by decide) (by decide) hg7688
            have hg7710 := hgP.2.1
            have hf7677 := hgP.2.2.2 3 _ (by decide) (by decide) hf7677
            have hf7681 := hgP.2.2.2 12 _ (by decide) (by decide) hf7681
            have hA7679 := va_at.kept hA7679 (hgP.1 _ (m_ne hq7678 hG0 (by first | decide | (dsimp only; decide))))
            have hA7683 := va_at.kept hA7683 (hgP.1 _ (m_ne hq7682 hG0 (by first | decide | (dsimp only; decide))))
            refine lv_aload_n hx hb dX12_reads_103 rfl (lv_at hl 1 rfl) ?_
            refine mr_i (As := []) (rest := []) (n := 0) (d := 0) ⟨hx, hb, hml, hown, hts⟩ (c_X12_fine l E D G H h0 hG0  ff cd TT p1 b1 ⟨hkf, hT, hz0, by omega, ⟨a7676, hf7677, hq7678, hA7679⟩, ⟨a7680, hf7681, hq7682, hA7683⟩, ⟨w7684, hg7685, by omega⟩, ⟨w7686, hg7687, by omega⟩, hg7688⟩) wd_1591 wd_1593 wp_67 wd_13 wd_1594 (by decide +kernel) ⟨by rw [hR]; exact Nat.le_of_ble_eq_true rfl, by rw [hR]; exact Nat.le_of_ble_eq_true rfl⟩ hI hN hK hS hG0 rfl hl.1 rfl (Nat.le_of_ble_eq_true rfl) dX12_reads_104 ⟨Nat.zero_le _, Nat.zero_le _⟩ (fun r7711 locs hp hS => ?_)
            rcases hp with ⟨rfl, hp⟩ | ⟨rfl, hp⟩
            · skip
              try simp only [rg, not_and, Int.not_le] at hp
              have hp7712 := hp
              have hpost : ((1 : Int32) = 1 ∧ LD E D G h0 ff H) ∨ ((1 : Int32) = 0 ∧ ga E D G h0 3 (1, 5123) ff H) := by first | exact Or.inl ⟨rfl, ⟨cd, TT, hT, ⟨a7676, hf7677, hq7678, hA7679⟩, ⟨a7680, hf7681, hq7682, hA7683⟩, ⟨w7684, hg7685, by omega⟩, so_x (hInv (by omega)) (by omega)⟩⟩ | (exfalso; omega)
              rw [hQ]
              exact W.zret (v := 1) hx hb hr (by decide) (fun t ht hW => ⟨⟨1, 1, rfl, rfl, ⟨by rw [ht]; exact hI, hN.warm hW, va_K.moved hW.alike hK⟩, by first | (rw [ht]; exact hpost) | exact hpost⟩, hS.F ht⟩) hS.2.2 dX12_reads_107
            · skip
              try simp only [rg, not_and, Int.not_le] at hp
              have hp7713 := hp
              have hpost : ((0 : Int32) = 1 ∧ LD E D G h0 ff H) ∨ ((0 : Int32) = 0 ∧ ga E D G h0 3 (1, 5123) ff H) := Or.inr ⟨rfl, ⟨a7676, hf7677, hq7678, hA7679⟩⟩
              rw [hQ]
              exact W.zret (v := 0) hx hb hr (by decide) (fun t ht hW => ⟨⟨0, 0, rfl, rfl, ⟨by rw [ht]; exact hI, hN.warm hW, va_K.moved hW.alike hK⟩, by first | (rw [ht]; exact hpost) | exact hpost⟩, hS.F ht⟩) hS.2.2 dX12_reads_107
          · skip
            have k7714 := iv_nle (X := w7684.toInt) (Y := w7686.toInt) rfl rfl c7702
            refine lv_aload_n hx hb dX12_reads_91 rfl (lv_at hl 1 rfl) ?_
            refine mx_v (As := []) (rest := []) (n := 0) (d := 1) ⟨hx, hb, hml, hown, hts⟩ (c_X12_faults l E D G h0 hG0  ff cd TT p1 b1) wd_1607 wd_1609 wp_71 wd_13 wd_1610 (by decide +kernel) ⟨by rw [hR]; exact Nat.le_of_ble_eq_true rfl, by rw [hR]; exact Nat.le_of_ble_eq_true rfl⟩ hI hN hK hS hG0 (⟨hkf, hT, hz0, by omega, ⟨a7676, hf7677, hq7678, hA7679⟩, ⟨a7680, hf7681, hq7682, hA7683⟩, ⟨w7684, hg7685, by omega⟩, ⟨w7686, hg7687, by omega⟩, hg7688⟩) rfl hl.1 rfl (Nat.le_of_ble_eq_true rfl) dX12_reads_92 ⟨Nat.zero_le _, Nat.zero_le _⟩ (fun H locs hI hp hS => ?_)
            obtain ⟨bn7716, hb7717, hE⟩ := hp
            obtain ⟨hkf, hT, hz0, k7731, ⟨a7718, hf7719, hq7720, hA7721⟩, ⟨a7722, hf7723, hq7724, hA7725⟩, ⟨w7726, hg7727, k7732⟩, ⟨w7728, hg7729, k7733⟩, hg7730⟩ := hE
            refine lv_aload_n hx hb dX12_reads_95 rfl (lv_at hl 1 rfl) ?_
            refine lv_aload_n hx hb dX12_reads_96 rfl (lv_at hl 1 rfl) ?_
            refine gmI hx hb hts inT12 hown hK hI List.not_mem_nil hG0 18 (by decide) (hts _ (tb_c wd_1251)) rfl rfl dX12_reads_97 (fun w7734 hg7735 k7736 k7737 => ?_)
            obtain rfl := gf.uniq (by decide) hg7730 hg7735
            have k7738 := iv_lo bn7716
            have k7739 := iv_hi bn7716
            refine pmI (ty := .int) hx hb hts inT12 hown hK hI List.not_mem_nil hG0 hS ⟨_, hG0⟩ 11 (by decide) (hts _ (tb_c wd_1244)) rfl rfl (by decide +kernel) rfl rfl rfl (by omega) (by omega) dX12_reads_100 (fun H locs hI hgP hS => ?_)
            have hg7727 := hgP.2.2.1 15 _ (by decide) (by decide) hg7727
            have hg7729 := hgP.2.2.1 16 _ (by decide) (by decide) hg7729
            have hg7730 := hgP.2.2.1 18 _ (by decide) (by decide) hg7730
            have hg7740 := hgP.2.1
            have hf7719 := hgP.2.2.2 3 _ (by decide) (by decide) hf7719
            have hf7723 := hgP.2.2.2 12 _ (by decide) (by decide) hf7723
            have hA7721 := va_at.kept hA7721 (hgP.1 _ (m_ne hq7720 hG0 (by first | decide | (dsimp only; decide))))
            have hA7725 := va_at.kept hA7725 (hgP.1 _ (m_ne hq7724 hG0 (by first | decide | (dsimp only; decide))))
            refine lv_aload_n hx hb dX12_reads_103 rfl (lv_at hl 1 rfl) ?_
            refine mr_i (As := []) (rest := []) (n := 0) (d := 0) ⟨hx, hb, hml, hown, hts⟩ (c_X12_fine l E D G H h0 hG0  ff cd TT p1 bn7716 ⟨hkf, hT, hz0, by omega, ⟨a7718, hf7719, hq7720, hA7721⟩, ⟨a7722, hf7723, hq7724, hA7725⟩, ⟨w7726, hg7727, by omega⟩, ⟨w7728, hg7729, by omega⟩, hg7730⟩) wd_1591 wd_1593 wp_67 wd_13 wd_1594 (by decide +kernel) ⟨by rw [hR]; exact Nat.le_of_ble_eq_true rfl, by rw [hR]; exact Nat.le_of_ble_eq_true rfl⟩ hI hN hK hS hG0 rfl hl.1 rfl (Nat.le_of_ble_eq_true rfl) dX12_reads_104 ⟨Nat.zero_le _, Nat.zero_le _⟩ (fun r7741 locs hp hS => ?_)
            rcases hp with ⟨rfl, hp⟩ | ⟨rfl, hp⟩
            · skip
              try simp only [rg, not_and, Int.not_le] at hp
              have hp7742 := hp
              have hpost : ((1 : Int32) = 1 ∧ LD E D G h0 ff H) ∨ ((1 : Int32) = 0 ∧ ga E D G h0 3 (1, 5123) ff H) := by first | exact Or.inl ⟨rfl, ⟨cd, TT, hT, ⟨a7718, hf7719, hq7720, hA7721⟩, ⟨a7722, hf7723, hq7724, hA7725⟩, ⟨w7726, hg7727, by omega⟩, so_x (hInv (by omega)) (by omega)⟩⟩ | (exfalso; omega)
              rw [hQ]
              exact W.zret (v := 1) hx hb hr (by decide) (fun t ht hW => ⟨⟨1, 1, rfl, rfl, ⟨by rw [ht]; exact hI, hN.warm hW, va_K.moved hW.alike hK⟩, by first | (rw [ht]; exact hpost) | exact hpost⟩, hS.F ht⟩) hS.2.2 dX12_reads_107
            · skip
              try simp only [rg, not_and, Int.not_le] at hp
              have hp7743 := hp
              have hpost : ((0 : Int32) = 1 ∧ LD E D G h0 ff H) ∨ ((0 : Int32) = 0 ∧ ga E D G h0 3 (1, 5123) ff H) := Or.inr ⟨rfl, ⟨a7718, hf7719, hq7720, hA7721⟩⟩
              rw [hQ]
              exact W.zret (v := 0) hx hb hr (by decide) (fun t ht hW => ⟨⟨0, 0, rfl, rfl, ⟨by rw [ht]; exact hI, hN.warm hW, va_K.moved hW.alike hK⟩, by first | (rw [ht]; exact hpost) | exact hpost⟩, hS.F ht⟩) hS.2.2 dX12_reads_107
        · skip
          try simp only [rg, not_and, Int.not_le] at hp
          have hp7744 := hp
          refine lv_if_eq (tgt := 95) hx hb dX12_reads_77 (by decide) (fun _ => ?_) (fun c => absurd c (by decide))
          refine lv_aload_n hx hb dX12_reads_95 rfl (lv_at hl 1 rfl) ?_
          refine lv_aload_n hx hb dX12_reads_96 rfl (lv_at hl 1 rfl) ?_
          refine gmI hx hb hts inT12 hown hK hI List.not_mem_nil hG0 18 (by decide) (hts _ (tb_c wd_1251)) rfl rfl dX12_reads_97 (fun w7745 hg7746 k7747 k7748 => ?_)
          obtain rfl := gf.uniq (by decide) hg7688 hg7746
          have k7749 := iv_lo b1
          have k7750 := iv_hi b1
          refine pmI (ty := .int) hx hb hts inT12 hown hK hI List.not_mem_nil hG0 hS ⟨_, hG0⟩ 11 (by decide) (hts _ (tb_c wd_1244)) rfl rfl (by decide +kernel) rfl rfl rfl (by omega) (by omega) dX12_reads_100 (fun H locs hI hgP hS => ?_)
          have hg7685 := hgP.2.2.1 15 _ (by decide) (by decide) hg7685
          have hg7687 := hgP.2.2.1 16 _ (by decide) (by decide) hg7687
          have hg7688 := hgP.2.2.1 18 _ (by decide) (by decide) hg7688
          have hg7751 := hgP.2.1
          have hf7677 := hgP.2.2.2 3 _ (by decide) (by decide) hf7677
          have hf7681 := hgP.2.2.2 12 _ (by decide) (by decide) hf7681
          have hA7679 := va_at.kept hA7679 (hgP.1 _ (m_ne hq7678 hG0 (by first | decide | (dsimp only; decide))))
          have hA7683 := va_at.kept hA7683 (hgP.1 _ (m_ne hq7682 hG0 (by first | decide | (dsimp only; decide))))
          refine lv_aload_n hx hb dX12_reads_103 rfl (lv_at hl 1 rfl) ?_
          refine mr_i (As := []) (rest := []) (n := 0) (d := 0) ⟨hx, hb, hml, hown, hts⟩ (c_X12_fine l E D G H h0 hG0  ff cd TT p1 b1 ⟨hkf, hT, hz0, by omega, ⟨a7676, hf7677, hq7678, hA7679⟩, ⟨a7680, hf7681, hq7682, hA7683⟩, ⟨w7684, hg7685, by omega⟩, ⟨w7686, hg7687, by omega⟩, hg7688⟩) wd_1591 wd_1593 wp_67 wd_13 wd_1594 (by decide +kernel) ⟨by rw [hR]; exact Nat.le_of_ble_eq_true rfl, by rw [hR]; exact Nat.le_of_ble_eq_true rfl⟩ hI hN hK hS hG0 rfl hl.1 rfl (Nat.le_of_ble_eq_true rfl) dX12_reads_104 ⟨Nat.zero_le _, Nat.zero_le _⟩ (fun r7752 locs hp hS => ?_)
          rcases hp with ⟨rfl, hp⟩ | ⟨rfl, hp⟩
          · skip
            try simp only [rg, not_and, Int.not_le] at hp
            have hp7753 := hp
            have hpost : ((1 : Int32) = 1 ∧ LD E D G h0 ff H) ∨ ((1 : Int32) = 0 ∧ ga E D G h0 3 (1, 5123) ff H) := by first | exact Or.inl ⟨rfl, ⟨cd, TT, hT, ⟨a7676, hf7677, hq7678, hA7679⟩, ⟨a7680, hf7681, hq7682, hA7683⟩, ⟨w7684, hg7685, by omega⟩, so_x (hInv (by omega)) (by omega)⟩⟩ | (exfalso; omega)
            rw [hQ]
            exact W.zret (v := 1) hx hb hr (by decide) (fun t ht hW => ⟨⟨1, 1, rfl, rfl, ⟨by rw [ht]; exact hI, hN.warm hW, va_K.moved hW.alike hK⟩, by first | (rw [ht]; exact hpost) | exact hpost⟩, hS.F ht⟩) hS.2.2 dX12_reads_107
          · skip
            try simp only [rg, not_and, Int.not_le] at hp
            have hp7754 := hp
            have hpost : ((0 : Int32) = 1 ∧ LD E D G h0 ff H) ∨ ((0 : Int32) = 0 ∧ ga E D G h0 3 (1, 5123) ff H) := Or.inr ⟨rfl, ⟨a7676, hf7677, hq7678, hA7679⟩⟩
            rw [hQ]
            exact W.zret (v := 0) hx hb hr (by decide) (fun t ht hW => ⟨⟨0, 0, rfl, rfl, ⟨by rw [ht]; exact hI, hN.warm hW, va_K.moved hW.alike hK⟩, by first | (rw [ht]; exact hpost) | exact hpost⟩, hS.F ht⟩) hS.2.2 dX12_reads_107
  refine lv_aload_n hx hb dX12_reads_0 rfl (lv_at hl 0 rfl) ?_
  refine lv_aload_n hx hb dX12_reads_1 rfl (lv_at hl 0 rfl) ?_
  refine gmI hx hb hts inT12 hown hK hI List.not_mem_nil hG0 10 (by decide) (hts _ (tb_c wd_1243)) rfl rfl dX12_reads_2 (fun w7755 hg7756 k7757 k7758 => ?_)
  refine mx_v (As := [.int w7755]) (rest := []) (n := 1) (d := 2) ⟨hx, hb, hml, hown, hts⟩ (c_X12_splits l E D G h0 hG0 w7755 ⟨by omega, by omega⟩ ff hkf) wd_1568 wd_1570 wp_63 wd_13 wd_1571 (by decide +kernel) ⟨by rw [hR]; exact Nat.le_of_ble_eq_true rfl, by rw [hR]; exact Nat.le_of_ble_eq_true rfl⟩ hI hN hK hS hG0 (⟨q_3, hf_3, hq_3, hA_3⟩) rfl hl.1 rfl (Nat.le_of_ble_eq_true rfl) dX12_reads_5 ⟨Nat.zero_le _, Nat.zero_le _⟩ (fun H locs hI hp hS => ?_)
  obtain ⟨w7760, cd, hg7761, k7770, k7771, ⟨a7762, hf7763, hq7764, hA7765⟩, ⟨a7766, hf7767, hq7768, hA7769⟩, hz00⟩ := hp
  obtain ⟨TT, hTT⟩ : ∃ TT : Nat, (TT : Int) = w7760.toInt := ⟨w7760.toInt.toNat, by omega⟩
  have hT : TT ≤ 400 := by omega
  have hz0 : (cd TT).toInt = 0 := by rw [show TT = w7760.toNatClampNeg from by show TT = w7760.toInt.toNat; omega]; exact hz00
  refine lv_aload_n hx hb dX12_reads_8 rfl (lv_at hl 0 rfl) ?_
  refine lv_iconst (v := 0) hx hb dX12_reads_9 (by decide) ?_
  refine pmI (ty := .int) hx hb hts inT12 hown hK hI List.not_mem_nil hG0 hS ⟨_, hG0⟩ 10 (by decide) (hts _ (tb_c wd_1243)) rfl rfl (by decide +kernel) rfl rfl rfl (by decide) (by decide) dX12_reads_10 (fun H locs hI hgP hS => ?_)
  have hg7761 := hgP.2.2.1 15 _ (by decide) (by decide) hg7761
  have hg7772 := hgP.2.1
  have hf7763 := hgP.2.2.2 3 _ (by decide) (by decide) hf7763
  have hf7767 := hgP.2.2.2 12 _ (by decide) (by decide) hf7767
  have hA7765 := va_at.kept hA7765 (hgP.1 _ (m_ne hq7764 hG0 (by first | decide | (dsimp only; decide))))
  have hA7769 := va_at.kept hA7769 (hgP.1 _ (m_ne hq7768 hG0 (by first | decide | (dsimp only; decide))))
  refine lv_aload_n hx hb dX12_reads_13 rfl (lv_at hl 0 rfl) ?_
  refine lv_iconst (v := 0) hx hb dX12_reads_14 (by decide) ?_
  refine pmI (ty := .int) hx hb hts inT12 hown hK hI List.not_mem_nil hG0 hS ⟨_, hG0⟩ 16 (by decide) (hts _ (tb_c wd_1249)) rfl rfl (by decide +kernel) rfl rfl rfl (by decide) (by decide) dX12_reads_15 (fun H locs hI hgP hS => ?_)
  have hg7761 := hgP.2.2.1 15 _ (by decide) (by decide) hg7761
  have hg7772 := hgP.2.2.1 10 _ (by decide) (by decide) hg7772
  have hg7773 := hgP.2.1
  have hf7763 := hgP.2.2.2 3 _ (by decide) (by decide) hf7763
  have hf7767 := hgP.2.2.2 12 _ (by decide) (by decide) hf7767
  have hA7765 := va_at.kept hA7765 (hgP.1 _ (m_ne hq7764 hG0 (by first | decide | (dsimp only; decide))))
  have hA7769 := va_at.kept hA7769 (hgP.1 _ (m_ne hq7768 hG0 (by first | decide | (dsimp only; decide))))
  refine lv_aload_n hx hb dX12_reads_18 rfl (lv_at hl 0 rfl) ?_
  refine lv_iconst (v := 0) hx hb dX12_reads_19 (by decide) ?_
  refine pmI (ty := .int) hx hb hts inT12 hown hK hI List.not_mem_nil hG0 hS ⟨_, hG0⟩ 17 (by decide) (hts _ (tb_c wd_1250)) rfl rfl (by decide +kernel) rfl rfl rfl (by decide) (by decide) dX12_reads_20 (fun H locs hI hgP hS => ?_)
  have hg7761 := hgP.2.2.1 15 _ (by decide) (by decide) hg7761
  have hg7772 := hgP.2.2.1 10 _ (by decide) (by decide) hg7772
  have hg7773 := hgP.2.2.1 16 _ (by decide) (by decide) hg7773
  have hg7774 := hgP.2.1
  have hf7763 := hgP.2.2.2 3 _ (by decide) (by decide) hf7763
  have hf7767 := hgP.2.2.2 12 _ (by decide) (by decide) hf7767
  have hA7765 := va_at.kept hA7765 (hgP.1 _ (m_ne hq7764 hG0 (by first | decide | (dsimp only; decide))))
  have hA7769 := va_at.kept hA7769 (hgP.1 _ (m_ne hq7768 hG0 (by first | decide | (dsimp only; decide))))
  refine lv_aload_n hx hb dX12_reads_23 rfl (lv_at hl 0 rfl) ?_
  refine lv_iconst (v := (-1)) hx hb dX12_reads_24 (by decide) ?_
  refine pmI (ty := .int) hx hb hts inT12 hown hK hI List.not_mem_nil hG0 hS ⟨_, hG0⟩ 18 (by decide) (hts _ (tb_c wd_1251)) rfl rfl (by decide +kernel) rfl rfl rfl (by decide) (by decide) dX12_reads_25 (fun H locs hI hgP hS => ?_)
  have hg7761 := hgP.2.2.1 15 _ (by decide) (by decide) hg7761
  have hg7772 := hgP.2.2.1 10 _ (by decide) (by decide) hg7772
  have hg7773 := hgP.2.2.1 16 _ (by decide) (by decide) hg7773
  have hg7774 := hgP.2.2.1 17 _ (by decide) (by decide) hg7774
  have hg7775 := hgP.2.1
  have hf7763 := hgP.2.2.2 3 _ (by decide) (by decide) hf7763
  have hf7767 := hgP.2.2.2 12 _ (by decide) (by decide) hf7767
  have hA7765 := va_at.kept hA7765 (hgP.1 _ (m_ne hq7764 hG0 (by first | decide | (dsimp only; decide))))
  have hA7769 := va_at.kept hA7769 (hgP.1 _ (m_ne hq7768 hG0 (by first | decide | (dsimp only; decide))))
  refine lv_aload_n hx hb dX12_reads_28 rfl (lv_at hl 0 rfl) ?_
  refine mx_v (As := []) (rest := []) (n := 0) (d := 57) ⟨hx, hb, hml, hown, hts⟩ (c_X12_readClause l E D G h0 hG0  ff cd TT 0 (-1)) wd_1583 wd_1585 wp_65 wd_13 wd_1586 (by decide +kernel) ⟨by rw [hR]; exact Nat.le_of_ble_eq_true rfl, by rw [hR]; exact Nat.le_of_ble_eq_true rfl⟩ hI hN hK hS hG0 (⟨hkf, hT, hz0, by omega, ⟨a7762, hf7763, hq7764, hA7765⟩, ⟨a7766, hf7767, hq7768, hA7769⟩, ⟨w7760, hg7761, by omega⟩, ⟨0, hg7773, by decide⟩, hg7775⟩) rfl hl.1 rfl (Nat.le_of_ble_eq_true rfl) dX12_reads_29 ⟨Nat.zero_le _, Nat.zero_le _⟩ (fun H locs hI hp hS => ?_)
  obtain ⟨pn7777, bn7778, hE, k7780, hi7779⟩ := hp
  obtain ⟨hkf, hT, hz0, k7794, ⟨a7781, hf7782, hq7783, hA7784⟩, ⟨a7785, hf7786, hq7787, hA7788⟩, ⟨w7789, hg7790, k7795⟩, ⟨w7791, hg7792, k7796⟩, hg7793⟩ := hE
  have hInv0 : bn7778.toInt = -1 → g_so (rC cd TT) TT pn7777 := fun h => so_i (hi7779 h).2
  refine lv_iconst (v := 1) hx hb dX12_reads_32 (by decide) ?_
  refine lv_istore_n (lv' := [(1, .int 1), (0, .ref h0)]) hx hb dX12_reads_33 rfl hl (by decide) rfl (fun ls hl => ?_)
  exact J_34 _ H locs ls 1 cd TT pn7777 bn7778 rfl (lv_sub hl [0, 1] rfl) (hInv0) (⟨hkf, hT, hz0, by omega, ⟨a7781, hf7782, hq7783, hA7784⟩, ⟨a7785, hf7786, hq7787, hA7788⟩, ⟨w7789, hg7790, by omega⟩, ⟨w7791, hg7792, by omega⟩, hg7793⟩) hI hS
theorem dX12_law_0g : (decode cX12_law 0 = .ok (.aload_n 0, 1)) ∧ (decode cX12_law 1 = .ok (.getfield 20, 3)) ∧ (decode cX12_law 4 = .ok (.sipush 315, 3)) ∧ (decode cX12_law 7 = .ok (.iaload, 1)) ∧ (decode cX12_law 8 = .ok (.bipush 6, 2)) ∧ (decode cX12_law 10 = .ok (.if_icmp .ne 15, 3)) ∧ (decode cX12_law 13 = .ok (.aload_n 0, 1)) ∧ (decode cX12_law 14 = .ok (.iconst 0, 1)) ∧ (decode cX12_law 15 = .ok (.putfield 132, 3)) ∧ (decode cX12_law 18 = .ok (.aload_n 0, 1)) := by decide +kernel
theorem dX12_law_0 : decode cX12_law 0 = .ok (.aload_n 0, 1) := dX12_law_0g.1
theorem dX12_law_1 : decode cX12_law 1 = .ok (.getfield 20, 3) := dX12_law_0g.2.1
theorem dX12_law_4 : decode cX12_law 4 = .ok (.sipush 315, 3) := dX12_law_0g.2.2.1
theorem dX12_law_7 : decode cX12_law 7 = .ok (.iaload, 1) := dX12_law_0g.2.2.2.1
theorem dX12_law_8 : decode cX12_law 8 = .ok (.bipush 6, 2) := dX12_law_0g.2.2.2.2.1
theorem dX12_law_10 : decode cX12_law 10 = .ok (.if_icmp .ne 15, 3) := dX12_law_0g.2.2.2.2.2.1
theorem dX12_law_13 : decode cX12_law 13 = .ok (.aload_n 0, 1) := dX12_law_0g.2.2.2.2.2.2.1
theorem dX12_law_14 : decode cX12_law 14 = .ok (.iconst 0, 1) := dX12_law_0g.2.2.2.2.2.2.2.1
theorem dX12_law_15 : decode cX12_law 15 = .ok (.putfield 132, 3) := dX12_law_0g.2.2.2.2.2.2.2.2.1
theorem dX12_law_18 : decode cX12_law 18 = .ok (.aload_n 0, 1) := dX12_law_0g.2.2.2.2.2.2.2.2.2
theorem dX12_law_19g : (decode cX12_law 19 = .ok (.bipush (-5), 2)) ∧ (decode cX12_law 21 = .ok (.invokevirtual 107, 3)) ∧ (decode cX12_law 24 = .ok (.ireturn, 1)) ∧ (decode cX12_law 25 = .ok (.aload_n 0, 1)) ∧ (decode cX12_law 26 = .ok (.invokevirtual 213, 3)) ∧ (decode cX12_law 29 = .ok (.ifCond .ne 10, 3)) ∧ (decode cX12_law 32 = .ok (.aload_n 0, 1)) ∧ (decode cX12_law 33 = .ok (.bipush (-6), 2)) ∧ (decode cX12_law 35 = .ok (.invokevirtual 107, 3)) ∧ (decode cX12_law 38 = .ok (.ireturn, 1)) := by decide +kernel
theorem dX12_law_19 : decode cX12_law 19 = .ok (.bipush (-5), 2) := dX12_law_19g.1
theorem dX12_law_21 : decode cX12_law 21 = .ok (.invokevirtual 107, 3) := dX12_law_19g.2.1
theorem dX12_law_24 : decode cX12_law 24 = .ok (.ireturn, 1) := dX12_law_19g.2.2.1
theorem dX12_law_25 : decode cX12_law 25 = .ok (.aload_n 0, 1) := dX12_law_19g.2.2.2.1
theorem dX12_law_26 : decode cX12_law 26 = .ok (.invokevirtual 213, 3) := dX12_law_19g.2.2.2.2.1
theorem dX12_law_29 : decode cX12_law 29 = .ok (.ifCond .ne 10, 3) := dX12_law_19g.2.2.2.2.2.1
theorem dX12_law_32 : decode cX12_law 32 = .ok (.aload_n 0, 1) := dX12_law_19g.2.2.2.2.2.2.1
theorem dX12_law_33 : decode cX12_law 33 = .ok (.bipush (-6), 2) := dX12_law_19g.2.2.2.2.2.2.2.1
theorem dX12_law_35 : decode cX12_law 35 = .ok (.invokevirtual 107, 3) := dX12_law_19g.2.2.2.2.2.2.2.2.1
theorem dX12_law_38 : decode cX12_law 38 = .ok (.ireturn, 1) := dX12_law_19g.2.2.2.2.2.2.2.2.2
theorem dX12_law_39g : (decode cX12_law 39 = .ok (.aload_n 0, 1)) ∧ (decode cX12_law 40 = .ok (.getfield 20, 3)) ∧ (decode cX12_law 43 = .ok (.sipush 315, 3)) ∧ (decode cX12_law 46 = .ok (.iaload, 1)) ∧ (decode cX12_law 47 = .ok (.istore_n 1, 1)) ∧ (decode cX12_law 48 = .ok (.aload_n 0, 1)) ∧ (decode cX12_law 49 = .ok (.getfield 20, 3)) ∧ (decode cX12_law 52 = .ok (.sipush 317, 3)) ∧ (decode cX12_law 55 = .ok (.iload_n 1, 1)) ∧ (decode cX12_law 56 = .ok (.iadd, 1)) := by decide +kernel
theorem dX12_law_39 : decode cX12_law 39 = .ok (.aload_n 0, 1) := dX12_law_39g.1
theorem dX12_law_40 : decode cX12_law 40 = .ok (.getfield 20, 3) := dX12_law_39g.2.1
theorem dX12_law_43 : decode cX12_law 43 = .ok (.sipush 315, 3) := dX12_law_39g.2.2.1
theorem dX12_law_46 : decode cX12_law 46 = .ok (.iaload, 1) := dX12_law_39g.2.2.2.1
theorem dX12_law_47 : decode cX12_law 47 = .ok (.istore_n 1, 1) := dX12_law_39g.2.2.2.2.1
theorem dX12_law_48 : decode cX12_law 48 = .ok (.aload_n 0, 1) := dX12_law_39g.2.2.2.2.2.1
theorem dX12_law_49 : decode cX12_law 49 = .ok (.getfield 20, 3) := dX12_law_39g.2.2.2.2.2.2.1
theorem dX12_law_52 : decode cX12_law 52 = .ok (.sipush 317, 3) := dX12_law_39g.2.2.2.2.2.2.2.1
theorem dX12_law_55 : decode cX12_law 55 = .ok (.iload_n 1, 1) := dX12_law_39g.2.2.2.2.2.2.2.2.1
theorem dX12_law_56 : decode cX12_law 56 = .ok (.iadd, 1) := dX12_law_39g.2.2.2.2.2.2.2.2.2
theorem dX12_law_57g : (decode cX12_law 57 = .ok (.aload_n 0, 1)) ∧ (decode cX12_law 58 = .ok (.getfield 145, 3)) ∧ (decode cX12_law 61 = .ok (.iastore, 1)) ∧ (decode cX12_law 62 = .ok (.iconst 0, 1)) ∧ (decode cX12_law 63 = .ok (.istore_n 2, 1)) ∧ (decode cX12_law 64 = .ok (.iload_n 2, 1)) ∧ (decode cX12_law 65 = .ok (.aload_n 0, 1)) ∧ (decode cX12_law 66 = .ok (.getfield 145, 3)) ∧ (decode cX12_law 69 = .ok (.if_icmp .ge 53, 3)) ∧ (decode cX12_law 72 = .ok (.aload_n 0, 1)) := by decide +kernel
theorem dX12_law_57 : decode cX12_law 57 = .ok (.aload_n 0, 1) := dX12_law_57g.1
theorem dX12_law_58 : decode cX12_law 58 = .ok (.getfield 145, 3) := dX12_law_57g.2.1
theorem dX12_law_61 : decode cX12_law 61 = .ok (.iastore, 1) := dX12_law_57g.2.2.1
theorem dX12_law_62 : decode cX12_law 62 = .ok (.iconst 0, 1) := dX12_law_57g.2.2.2.1
theorem dX12_law_63 : decode cX12_law 63 = .ok (.istore_n 2, 1) := dX12_law_57g.2.2.2.2.1
theorem dX12_law_64 : decode cX12_law 64 = .ok (.iload_n 2, 1) := dX12_law_57g.2.2.2.2.2.1
theorem dX12_law_65 : decode cX12_law 65 = .ok (.aload_n 0, 1) := dX12_law_57g.2.2.2.2.2.2.1
theorem dX12_law_66 : decode cX12_law 66 = .ok (.getfield 145, 3) := dX12_law_57g.2.2.2.2.2.2.2.1
theorem dX12_law_69 : decode cX12_law 69 = .ok (.if_icmp .ge 53, 3) := dX12_law_57g.2.2.2.2.2.2.2.2.1
theorem dX12_law_72 : decode cX12_law 72 = .ok (.aload_n 0, 1) := dX12_law_57g.2.2.2.2.2.2.2.2.2
theorem dX12_law_73g : (decode cX12_law 73 = .ok (.getfield 20, 3)) ∧ (decode cX12_law 76 = .ok (.sipush 323, 3)) ∧ (decode cX12_law 79 = .ok (.sipush 400, 3)) ∧ (decode cX12_law 82 = .ok (.iload_n 1, 1)) ∧ (decode cX12_law 83 = .ok (.imul, 1)) ∧ (decode cX12_law 84 = .ok (.iadd, 1)) ∧ (decode cX12_law 85 = .ok (.iload_n 2, 1)) ∧ (decode cX12_law 86 = .ok (.iadd, 1)) ∧ (decode cX12_law 87 = .ok (.aload_n 0, 1)) ∧ (decode cX12_law 88 = .ok (.getfield 43, 3)) := by decide +kernel
theorem dX12_law_73 : decode cX12_law 73 = .ok (.getfield 20, 3) := dX12_law_73g.1
theorem dX12_law_76 : decode cX12_law 76 = .ok (.sipush 323, 3) := dX12_law_73g.2.1
theorem dX12_law_79 : decode cX12_law 79 = .ok (.sipush 400, 3) := dX12_law_73g.2.2.1
theorem dX12_law_82 : decode cX12_law 82 = .ok (.iload_n 1, 1) := dX12_law_73g.2.2.2.1
theorem dX12_law_83 : decode cX12_law 83 = .ok (.imul, 1) := dX12_law_73g.2.2.2.2.1
theorem dX12_law_84 : decode cX12_law 84 = .ok (.iadd, 1) := dX12_law_73g.2.2.2.2.2.1
theorem dX12_law_85 : decode cX12_law 85 = .ok (.iload_n 2, 1) := dX12_law_73g.2.2.2.2.2.2.1
theorem dX12_law_86 : decode cX12_law 86 = .ok (.iadd, 1) := dX12_law_73g.2.2.2.2.2.2.2.1
theorem dX12_law_87 : decode cX12_law 87 = .ok (.aload_n 0, 1) := dX12_law_73g.2.2.2.2.2.2.2.2.1
theorem dX12_law_88 : decode cX12_law 88 = .ok (.getfield 43, 3) := dX12_law_73g.2.2.2.2.2.2.2.2.2
theorem dX12_law_91g : (decode cX12_law 91 = .ok (.iload_n 2, 1)) ∧ (decode cX12_law 92 = .ok (.iaload, 1)) ∧ (decode cX12_law 93 = .ok (.iastore, 1)) ∧ (decode cX12_law 94 = .ok (.aload_n 0, 1)) ∧ (decode cX12_law 95 = .ok (.getfield 20, 3)) ∧ (decode cX12_law 98 = .ok (.sipush 2723, 3)) ∧ (decode cX12_law 101 = .ok (.sipush 400, 3)) ∧ (decode cX12_law 104 = .ok (.iload_n 1, 1)) ∧ (decode cX12_law 105 = .ok (.imul, 1)) ∧ (decode cX12_law 106 = .ok (.iadd, 1)) := by decide +kernel
theorem dX12_law_91 : decode cX12_law 91 = .ok (.iload_n 2, 1) := dX12_law_91g.1
theorem dX12_law_92 : decode cX12_law 92 = .ok (.iaload, 1) := dX12_law_91g.2.1
theorem dX12_law_93 : decode cX12_law 93 = .ok (.iastore, 1) := dX12_law_91g.2.2.1
theorem dX12_law_94 : decode cX12_law 94 = .ok (.aload_n 0, 1) := dX12_law_91g.2.2.2.1
theorem dX12_law_95 : decode cX12_law 95 = .ok (.getfield 20, 3) := dX12_law_91g.2.2.2.2.1
theorem dX12_law_98 : decode cX12_law 98 = .ok (.sipush 2723, 3) := dX12_law_91g.2.2.2.2.2.1
theorem dX12_law_101 : decode cX12_law 101 = .ok (.sipush 400, 3) := dX12_law_91g.2.2.2.2.2.2.1
theorem dX12_law_104 : decode cX12_law 104 = .ok (.iload_n 1, 1) := dX12_law_91g.2.2.2.2.2.2.2.1
theorem dX12_law_105 : decode cX12_law 105 = .ok (.imul, 1) := dX12_law_91g.2.2.2.2.2.2.2.2.1
theorem dX12_law_106 : decode cX12_law 106 = .ok (.iadd, 1) := dX12_law_91g.2.2.2.2.2.2.2.2.2
theorem dX12_law_107g : (decode cX12_law 107 = .ok (.iload_n 2, 1)) ∧ (decode cX12_law 108 = .ok (.iadd, 1)) ∧ (decode cX12_law 109 = .ok (.aload_n 0, 1)) ∧ (decode cX12_law 110 = .ok (.getfield 46, 3)) ∧ (decode cX12_law 113 = .ok (.iload_n 2, 1)) ∧ (decode cX12_law 114 = .ok (.iaload, 1)) ∧ (decode cX12_law 115 = .ok (.iastore, 1)) ∧ (decode cX12_law 116 = .ok (.iinc 2 1, 3)) ∧ (decode cX12_law 119 = .ok (.goto (-55), 3)) ∧ (decode cX12_law 122 = .ok (.aload_n 0, 1)) := by decide +kernel
theorem dX12_law_107 : decode cX12_law 107 = .ok (.iload_n 2, 1) := dX12_law_107g.1
theorem dX12_law_108 : decode cX12_law 108 = .ok (.iadd, 1) := dX12_law_107g.2.1
theorem dX12_law_109 : decode cX12_law 109 = .ok (.aload_n 0, 1) := dX12_law_107g.2.2.1
theorem dX12_law_110 : decode cX12_law 110 = .ok (.getfield 46, 3) := dX12_law_107g.2.2.2.1
theorem dX12_law_113 : decode cX12_law 113 = .ok (.iload_n 2, 1) := dX12_law_107g.2.2.2.2.1
theorem dX12_law_114 : decode cX12_law 114 = .ok (.iaload, 1) := dX12_law_107g.2.2.2.2.2.1
theorem dX12_law_115 : decode cX12_law 115 = .ok (.iastore, 1) := dX12_law_107g.2.2.2.2.2.2.1
theorem dX12_law_116 : decode cX12_law 116 = .ok (.iinc 2 1, 3) := dX12_law_107g.2.2.2.2.2.2.2.1
theorem dX12_law_119 : decode cX12_law 119 = .ok (.goto (-55), 3) := dX12_law_107g.2.2.2.2.2.2.2.2.1
theorem dX12_law_122 : decode cX12_law 122 = .ok (.aload_n 0, 1) := dX12_law_107g.2.2.2.2.2.2.2.2.2
theorem dX12_law_123g : (decode cX12_law 123 = .ok (.getfield 20, 3)) ∧ (decode cX12_law 126 = .ok (.sipush 315, 3)) ∧ (decode cX12_law 129 = .ok (.dup2, 1)) ∧ (decode cX12_law 130 = .ok (.iaload, 1)) ∧ (decode cX12_law 131 = .ok (.iconst 1, 1)) ∧ (decode cX12_law 132 = .ok (.iadd, 1)) ∧ (decode cX12_law 133 = .ok (.iastore, 1)) ∧ (decode cX12_law 134 = .ok (.aload_n 0, 1)) ∧ (decode cX12_law 135 = .ok (.iload_n 1, 1)) ∧ (decode cX12_law 136 = .ok (.invokevirtual 111, 3)) := by decide +kernel
theorem dX12_law_123 : decode cX12_law 123 = .ok (.getfield 20, 3) := dX12_law_123g.1
theorem dX12_law_126 : decode cX12_law 126 = .ok (.sipush 315, 3) := dX12_law_123g.2.1
theorem dX12_law_129 : decode cX12_law 129 = .ok (.dup2, 1) := dX12_law_123g.2.2.1
theorem dX12_law_130 : decode cX12_law 130 = .ok (.iaload, 1) := dX12_law_123g.2.2.2.1
theorem dX12_law_131 : decode cX12_law 131 = .ok (.iconst 1, 1) := dX12_law_123g.2.2.2.2.1
theorem dX12_law_132 : decode cX12_law 132 = .ok (.iadd, 1) := dX12_law_123g.2.2.2.2.2.1
theorem dX12_law_133 : decode cX12_law 133 = .ok (.iastore, 1) := dX12_law_123g.2.2.2.2.2.2.1
theorem dX12_law_134 : decode cX12_law 134 = .ok (.aload_n 0, 1) := dX12_law_123g.2.2.2.2.2.2.2.1
theorem dX12_law_135 : decode cX12_law 135 = .ok (.iload_n 1, 1) := dX12_law_123g.2.2.2.2.2.2.2.2.1
theorem dX12_law_136 : decode cX12_law 136 = .ok (.invokevirtual 111, 3) := dX12_law_123g.2.2.2.2.2.2.2.2.2
theorem dX12_law_139 : decode cX12_law 139 = .ok (.ireturn, 1) := by decide +kernel
set_option maxHeartbeats 4000000 in
set_option maxRecDepth 100000 in
theorem c_X12_law (l : Launch) (E : Nat → Nat) (D : va_G) (G : th_G) (h0 : Nat) (hG0 : G h0 = some (10, 0)) : Met l yX12_law (tb (.code yX12_law cX12_law 3 (some .int))) (rm 59) (va_Pc [.ref h0] (PX E D G (fun H => True))) (QXi E D G (fun r H => True)) 0 0 (th_A G) := by
  refine Met.ofW (cc := cX12_law) (maxL := 3) (ret := (some .int)) (by decide) rfl ?_
  intro p e s m args below meth c s₁ B hml hv
  obtain ⟨hav, ⟨hI, hN, hK⟩, hX⟩ := hv
  have hx := B.exec
  have hb := B.bytes
  have hr := B.returns
  have hts := atoms_spec (ws := tb (.code yX12_law cX12_law 3 (some .int))) B.pre
  have hown : s.vm.findClass RX12 = some m.cls := findClass_of_methodNamed B.named
  have hlocks := B.notSynchronized
  have hS : va_S (th_A G) s.heap s.heap [] := va_S.rf
  have hl := lv_entry ([.ref h0]) (n := 3) (Nat.le_of_ble_eq_true rfl)
  rw [show entryFrame m args 3 = entryFrame m ([.ref h0] : List Value).toArray 3 from by rw [hav], lg_entry_eq]
  generalize (lg_sl ([.ref h0]) ++ List.replicate (3 - (lg_sl ([.ref h0])).length) Slot.unset).toArray = ls at hl ⊢
  have hl : lv_has ls 3 [(0, .ref h0)] := hl
  generalize hR : (headSpec (tb (.code yX12_law cX12_law 3 (some .int))) (rm 59)).room = R
  have hR := hR.symm
  generalize hQ : MQ below (QXi E D G (fun r H => True)) args s 0 0 (th_A G) = QF
  have hQ := hQ.symm
  have J_64 : ∀ (nn : Nat) (H : Heap) (locs : List Loc) (ls : Array Slot) (v897 : Int32) (v898 : Int32) (v899 : Int32) (qr : Nat) (ff : Nat → Int32) (cd : Nat → Int32) (FF : Nat → Int32) (tt : Nat) (TT : Nat) (kk : Nat), (Int.toNat (((TT : Nat) : Int) - ((kk : Nat) : Int)) = nn) → lv_has ls 3 [(2, .int v897), (1, .int v898), (0, .ref h0)] → ((0 : Int) ≤ v897.toInt ∧ v897.toInt ≤ 400) → ((0 : Int) ≤ v898.toInt ∧ v898.toInt ≤ 5) → ((0 : Int) ≤ v899.toInt ∧ v899.toInt ≤ 400) → gf D h0 15 v899 H → ga E D G h0 12 (8, 401) cd H → (G qr = some (1, 5123)) → (fr D h0 3 qr H) → (va_at D vwCl (qr, .inl (E 0, 5123, .inl FF)) H) → (kOk (E 10) ff) → (tt < 6) → (TT ≤ 400) → (∃ n, g_lw (rC cd TT) TT n 0) → ((tt : Int) = v898.toInt) → (v899.toInt = (TT : Int)) → (v897.toInt = (kk : Int)) → (kk ≤ TT) → ((ff 315).toInt ≤ 5) → (LI ff cd FF tt TT kk) → th_I (okM E) D G [qr] H → va_S (th_A G) s.heap H locs → W p l e R s m args below meth c H locs 0 0 QF (F0 m 64 ls []) := by
    intro nn
    induction nn using Nat.strongRecOn with
    | ind nn ih_64 =>
      intro H locs ls v897 v898 v899 qr ff cd FF tt TT kk hm hl k900 k901 k902 hg903 hga_12 hqr hfr hAr hkf ht6 hT hgl htt hTT hkk hkT h315f hLI hI hS
      obtain ⟨a904, hf905, hq906, hA907⟩ := hga_12
      refine lv_iload_n hx hb dX12_law_64 rfl (lv_at hl 0 rfl) ?_
      refine lv_aload_n hx hb dX12_law_65 rfl (lv_at hl 2 rfl) ?_
      refine gmI hx hb hts inT12 hown hK hI (m_nin hG0 hqr (by first | decide | (dsimp only; decide))) hG0 15 (by decide) (hts _ (tb_c wd_1248)) rfl rfl dX12_law_66 (fun w908 hg909 k910 k911 => ?_)
      obtain rfl := gf.uniq (by decide) hg903 hg909
      refine lv_icmp_ge (tgt := 122) hx hb dX12_law_69 (by decide) (fun c912 => ?_) (fun c912 => ?_)
      · skip
        have k913 := iv_le (X := v899.toInt) (Y := v897.toInt) rfl rfl c912
        obtain rfl : kk = TT := by omega
        have hPn := LI.done hLI hkf ht6 hT hgl
        have hI := th_I.close hI hqr hAr (ok_m1 hPn)
        have h315 : FF 315 = ff 315 := hLI.1 315 (by omega) (by omega) (by omega)
        refine lv_aload_n hx hb dX12_law_122 rfl (lv_at hl 2 rfl) ?_
        refine gmA hx hb hts inT12 hown hK hI List.not_mem_nil hG0 3 (by decide) (hts _ (tb_c wd_1236)) rfl rfl dX12_law_123 (fun a914 hq915 hf916 => ?_)
        obtain rfl := fr.uniq (by decide) hfr hf916
        refine lv_sipush (v := 315) hx hb dX12_law_126 (by decide) ?_
        refine lv_dup2_11 hx hb dX12_law_129 rfl rfl ?_
        refine th_iald hx hb hK hAr 0 rfl (iv_in (X := (315)) (by decide) (by omega) (by omega)) dX12_law_130 (fun v917 e918 => ?_)
        have k919 := kg_m315 (kOk.get (i := 315) hPn e918 (X := (315)) (by decide) (by omega) (by omega)) (by omega) (by omega) (by omega)
        have k920 : v917.toInt ≤ 5 := by rw [e918]; show (FF 315).toInt ≤ 5; rw [h315]; omega
        refine lv_iconst (v := 1) hx hb dX12_law_131 (by decide) ?_
        refine lv_iadd hx hb dX12_law_132 ?_
        refine lv_topi (fun v921 e922 => ?_)
        have tv921 : v921.toInt = v917.toInt + (1) := iv_add rfl (by decide) e922 (by omega) (by omega)
        refine th_iast hx hb hK hAr 0 rfl hS ⟨_, hqr⟩ (iv_in (X := (315)) (by decide) (by omega) (by omega)) dX12_law_133 (fun H locs hA923 oq hS => ?_)
        have hP924 := kOk.set (i := 315) (v := v921) hPn (X := (315)) (V := v921.toInt) (by decide) rfl (by omega) (by omega) (ks_m315 (by omega) (by omega) (by omega) ⟨by omega, by omega⟩)
        have hI := th_I.put hI hqr hA923 (ok_m1 hP924) oq
        have hg903 := gf.arr hG0 hqr (by decide) oq hg903
        have hf905 := fr.arr hG0 hqr (by decide) oq hf905
        have hfr := fr.arr hG0 hqr (by decide) oq hfr
        have hA907 := va_at.kept hA907 (oq _ (m_ne hq906 hqr (by first | decide | (dsimp only; decide))))
        have e925 : v921 = (upd FF (315 : Int32).toNatClampNeg v921) (315 : Int32).toNatClampNeg := rd_us
        refine lv_aload_n hx hb dX12_law_134 rfl (lv_at hl 2 rfl) ?_
        refine lv_iload_n hx hb dX12_law_135 rfl (lv_at hl 1 rfl) ?_
        refine mx_i (As := [.int v898]) (rest := []) (n := 1) (d := 0) ⟨hx, hb, hml, hown, hts⟩ (c_X12_good l E D G h0 hG0 v898) wd_1402 wd_1404 wp_41 wd_13 wd_1405 (by decide +kernel) ⟨by rw [hR]; exact Nat.le_of_ble_eq_true rfl, by rw [hR]; exact Nat.le_of_ble_eq_true rfl⟩ hI hN hK hS hG0 (trivial) rfl hl.1 rfl (Nat.le_of_ble_eq_true rfl) dX12_law_136 ⟨Nat.zero_le _, Nat.zero_le _⟩ (fun r926 H locs hI hp hS => ?_)
        obtain rfl := hp.symm
        have hpost : True := trivial
        rw [hQ]
        exact W.iret (v := v898) hx hb hr (fun t ht hW => ⟨⟨v898, v898, rfl, rfl, ⟨by rw [ht]; exact hI, hN.warm hW, va_K.moved hW.alike hK⟩, by first | (rw [ht]; exact hpost) | exact hpost⟩, hS.F ht⟩) hS.2.2 dX12_law_139
      · skip
        have k927 := iv_nle (X := v899.toInt) (Y := v897.toInt) rfl rfl c912
        refine lv_aload_n hx hb dX12_law_72 rfl (lv_at hl 2 rfl) ?_
        refine gmA hx hb hts inT12 hown hK hI (m_nin hG0 hqr (by first | decide | (dsimp only; decide))) hG0 3 (by decide) (hts _ (tb_c wd_1236)) rfl rfl dX12_law_73 (fun a928 hq929 hf930 => ?_)
        obtain rfl := fr.uniq (by decide) hfr hf930
        refine lv_sipush (v := 323) hx hb dX12_law_76 (by decide) ?_
        refine lv_sipush (v := 400) hx hb dX12_law_79 (by decide) ?_
        refine lv_iload_n hx hb dX12_law_82 rfl (lv_at hl 1 rfl) ?_
        refine lv_imul hx hb dX12_law_83 ?_
        refine lv_topi (fun v931 e932 => ?_)
        have tv931 : v931.toInt = (400) * v898.toInt := iv_mul (by decide) rfl e932 (by omega) (by omega)
        refine lv_iadd hx hb dX12_law_84 ?_
        refine lv_topi (fun v933 e934 => ?_)
        have tv933 : v933.toInt = (323) + v931.toInt := iv_add (by decide) rfl e934 (by omega) (by omega)
        refine lv_iload_n hx hb dX12_law_85 rfl (lv_at hl 0 rfl) ?_
        refine lv_iadd hx hb dX12_law_86 ?_
        refine lv_topi (fun v935 e936 => ?_)
        have tv935 : v935.toInt = v933.toInt + v897.toInt := iv_add rfl rfl e936 (by omega) (by omega)
        refine lv_aload_n hx hb dX12_law_87 rfl (lv_at hl 2 rfl) ?_
        refine gmA hx hb hts inT12 hown hK hI (m_nin hG0 hqr (by first | decide | (dsimp only; decide))) hG0 12 (by decide) (hts _ (tb_c wd_1245)) rfl rfl dX12_law_88 (fun a937 hq938 hf939 => ?_)
        obtain rfl := fr.uniq (by decide) hf905 hf939
        refine lv_iload_n hx hb dX12_law_91 rfl (lv_at hl 0 rfl) ?_
        refine th_iald hx hb hK hA907 0 rfl (iv_in (X := v897.toInt) rfl (by omega) (by omega)) dX12_law_92 (fun v940 e941 => ?_)
        refine th_iast hx hb hK hAr 0 rfl hS ⟨_, hqr⟩ (iv_in (X := v935.toInt) rfl (by omega) (by omega)) dX12_law_93 (fun H locs hA942 oq hS => ?_)
        have hI := th_I.moved hI oq
        have hg903 := gf.arr hG0 hqr (by decide) oq hg903
        have hf905 := fr.arr hG0 hqr (by decide) oq hf905
        have hfr := fr.arr hG0 hqr (by decide) oq hfr
        have hA907 := va_at.kept hA907 (oq _ (m_ne hq906 hqr (by first | decide | (dsimp only; decide))))
        have e943 : v940 = (upd FF (v935 : Int32).toNatClampNeg v940) (v935 : Int32).toNatClampNeg := rd_us
        refine lv_aload_n hx hb dX12_law_94 rfl (lv_at hl 2 rfl) ?_
        refine gmA hx hb hts inT12 hown hK hI (m_nin hG0 hqr (by first | decide | (dsimp only; decide))) hG0 3 (by decide) (hts _ (tb_c wd_1236)) rfl rfl dX12_law_95 (fun a944 hq945 hf946 => ?_)
        obtain rfl := fr.uniq (by decide) hfr hf946
        refine lv_sipush (v := 2723) hx hb dX12_law_98 (by decide) ?_
        refine lv_sipush (v := 400) hx hb dX12_law_101 (by decide) ?_
        refine lv_iload_n hx hb dX12_law_104 rfl (lv_at hl 1 rfl) ?_
        refine lv_imul hx hb dX12_law_105 ?_
        refine lv_topi (fun v947 e948 => ?_)
        have tv947 : v947.toInt = (400) * v898.toInt := iv_mul (by decide) rfl e948 (by omega) (by omega)
        refine lv_iadd hx hb dX12_law_106 ?_
        refine lv_topi (fun v949 e950 => ?_)
        have tv949 : v949.toInt = (2723) + v947.toInt := iv_add (by decide) rfl e950 (by omega) (by omega)
        refine lv_iload_n hx hb dX12_law_107 rfl (lv_at hl 0 rfl) ?_
        refine lv_iadd hx hb dX12_law_108 ?_
        refine lv_topi (fun v951 e952 => ?_)
        have tv951 : v951.toInt = v949.toInt + v897.toInt := iv_add rfl rfl e952 (by omega) (by omega)
        refine lv_aload_n hx hb dX12_law_109 rfl (lv_at hl 2 rfl) ?_
        refine gmA hx hb hts inT12 hown hK hI (m_nin hG0 hqr (by first | decide | (dsimp only; decide))) hG0 13 (by decide) (hts _ (tb_c wd_1246)) rfl rfl dX12_law_110 (fun a953 hq954 hf955 => ?_)
        refine lv_iload_n hx hb dX12_law_113 rfl (lv_at hl 0 rfl) ?_
        obtain ⟨F956, hA957⟩ := om_0 hI hq954 (m_nin hq954 hqr (by first | decide | (dsimp only; decide)))
        refine th_iald hx hb hK hA957 0 rfl (iv_in (X := v897.toInt) rfl (by omega) (by omega)) dX12_law_114 (fun v958 e959 => ?_)
        refine th_iast hx hb hK hA942 0 rfl hS ⟨_, hqr⟩ (iv_in (X := v951.toInt) rfl (by omega) (by omega)) dX12_law_115 (fun H locs hA960 oq hS => ?_)
        have hI := th_I.moved hI oq
        have hg903 := gf.arr hG0 hqr (by decide) oq hg903
        have hf905 := fr.arr hG0 hqr (by decide) oq hf905
        have hfr := fr.arr hG0 hqr (by decide) oq hfr
        have hf955 := fr.arr hG0 hqr (by decide) oq hf955
        have hA907 := va_at.kept hA907 (oq _ (m_ne hq906 hqr (by first | decide | (dsimp only; decide))))
        have hA957 := va_at.kept hA957 (oq _ (m_ne hq954 hqr (by first | decide | (dsimp only; decide))))
        have e961 := rd_un (i := v935) (j := v951) (v := v958) e943 (X := v935.toInt) (Y := v951.toInt) rfl rfl (by omega) (by omega) (by omega)
        have e962 : v958 = (upd (upd FF (v935 : Int32).toNatClampNeg v940) (v951 : Int32).toNatClampNeg v958) (v951 : Int32).toNatClampNeg := rd_us
        obtain ⟨v963, e964⟩ : ∃ y : Int32, y = v897 + (1) := ⟨_, rfl⟩
        have tv963 : v963.toInt = v897.toInt + (1) := iv_add rfl (by decide) e964 (by omega) (by omega)
        refine lv_iinc (v := v963) (lv' := [(2, .int v963), (1, .int v898), (0, .ref h0)]) hx hb dX12_law_116 hl (k := 0) rfl (by rw [e964]; rfl) (by decide) rfl (fun ls hl => ?_)
        refine lv_goto (tgt := 64) hx hb dX12_law_119 (by decide) ?_
        exact ih_64 _ (by omega) H locs ls v963 v898 v899 qr ff cd (upd (upd FF (v935 : Int32).toNatClampNeg v940) (v951 : Int32).toNatClampNeg v958) tt TT (kk + 1) rfl (lv_sub hl [0, 1, 2] rfl) ⟨by omega, by omega⟩ ⟨by omega, by omega⟩ ⟨by omega, by omega⟩ hg903 ⟨a904, hf905, hq906, hA907⟩ (hqr) (hfr) (hA960) (hkf) (ht6) (hT) (hgl) (by omega) (by omega) (by first | omega | decide) (by omega) (h315f) (LI.step (k := v897) hLI ht6 (by omega) (by omega) (by omega) e941 (by omega)) hI hS
  refine lv_aload_n hx hb dX12_law_0 rfl (lv_at hl 0 rfl) ?_
  refine gmA hx hb hts inT12 hown hK hI List.not_mem_nil hG0 3 (by decide) (hts _ (tb_c wd_1236)) rfl rfl dX12_law_1 (fun a965 hq966 hf967 => ?_)
  refine lv_sipush (v := 315) hx hb dX12_law_4 (by decide) ?_
  obtain ⟨F968, hA969, hP970⟩ := om_1 hI hq966 List.not_mem_nil
  refine th_iald hx hb hK hA969 0 rfl (iv_in (X := (315)) (by decide) (by omega) (by omega)) dX12_law_7 (fun v971 e972 => ?_)
  have k973 := kg_m315 (kOk.get (i := 315) hP970 e972 (X := (315)) (by decide) (by omega) (by omega)) (by omega) (by omega) (by omega)
  refine lv_bipush (v := 6) hx hb dX12_law_8 (by decide) ?_
  refine lv_icmp_ne (tgt := 25) hx hb dX12_law_10 (by decide) (fun c974 => ?_) (fun c974 => ?_)
  · skip
    have k975 := iv_ne (X := v971.toInt) (Y := (6)) rfl (by decide) c974
    refine lv_aload_n hx hb dX12_law_25 rfl (lv_at hl 0 rfl) ?_
    refine mx_i (As := []) (rest := []) (n := 0) (d := 58) ⟨hx, hb, hml, hown, hts⟩ (c_X12_reads l E D G h0 hG0  F968 hP970) wd_1564 wd_1566 wp_62 wd_13 wd_1567 (by decide +kernel) ⟨by rw [hR]; exact Nat.le_of_ble_eq_true rfl, by rw [hR]; exact Nat.le_of_ble_eq_true rfl⟩ hI hN hK hS hG0 (⟨a965, hf967, hq966, hA969⟩) rfl hl.1 rfl (Nat.le_of_ble_eq_true rfl) dX12_law_26 ⟨Nat.zero_le _, Nat.zero_le _⟩ (fun r976 H locs hI hp hS => ?_)
    rcases hp with ⟨rfl, hp⟩ | ⟨rfl, hp⟩
    · skip
      try simp only [rg, not_and, Int.not_le] at hp
      have hp977 := hp
      obtain ⟨cd, TT, hT, ⟨a978, hf979, hq980, hA981⟩, ⟨a982, hf983, hq984, hA985⟩, ⟨w986, hg987, k988⟩, hgl⟩ := hp977
      have hp977 : True := trivial
      refine lv_if_ne (tgt := 39) hx hb dX12_law_29 (by decide) (fun _ => ?_) (fun c => absurd c (by decide))
      refine lv_aload_n hx hb dX12_law_39 rfl (lv_at hl 0 rfl) ?_
      refine gmA hx hb hts inT12 hown hK hI List.not_mem_nil hG0 3 (by decide) (hts _ (tb_c wd_1236)) rfl rfl dX12_law_40 (fun a989 hq990 hf991 => ?_)
      obtain rfl := fr.uniq (by decide) hf979 hf991
      refine lv_sipush (v := 315) hx hb dX12_law_43 (by decide) ?_
      refine th_iald hx hb hK hA981 0 rfl (iv_in (X := (315)) (by decide) (by omega) (by omega)) dX12_law_46 (fun v992 e993 => ?_)
      obtain rfl := (rd_same (i := 315) (j := 315) e972 e993 (X := (315)) (Y := (315)) (by decide) (by decide) (by omega)).symm
      refine lv_istore_n (lv' := [(1, .int v971), (0, .ref h0)]) hx hb dX12_law_47 rfl hl (by decide) rfl (fun ls hl => ?_)
      have hI := th_I.weak (a := a978) hI
      obtain ⟨tt, htt⟩ : ∃ t : Nat, (t : Int) = v971.toInt := ⟨v971.toInt.toNat, by omega⟩
      have ht6 : tt < 6 := by omega
      refine lv_aload_n hx hb dX12_law_48 rfl (lv_at hl 1 rfl) ?_
      refine gmA hx hb hts inT12 hown hK hI (m_nin hG0 hq980 (by first | decide | (dsimp only; decide))) hG0 3 (by decide) (hts _ (tb_c wd_1236)) rfl rfl dX12_law_49 (fun a994 hq995 hf996 => ?_)
      obtain rfl := fr.uniq (by decide) hf979 hf996
      refine lv_sipush (v := 317) hx hb dX12_law_52 (by decide) ?_
      refine lv_iload_n hx hb dX12_law_55 rfl (lv_at hl 0 rfl) ?_
      refine lv_iadd hx hb dX12_law_56 ?_
      refine lv_topi (fun v997 e998 => ?_)
      have tv997 : v997.toInt = (317) + v971.toInt := iv_add (by decide) rfl e998 (by omega) (by omega)
      refine lv_aload_n hx hb dX12_law_57 rfl (lv_at hl 1 rfl) ?_
      refine gmI hx hb hts inT12 hown hK hI (m_nin hG0 hq980 (by first | decide | (dsimp only; decide))) hG0 15 (by decide) (hts _ (tb_c wd_1248)) rfl rfl dX12_law_58 (fun w999 hg1000 k1001 k1002 => ?_)
      obtain rfl := gf.uniq (by decide) hg987 hg1000
      refine th_iast hx hb hK hA981 0 rfl hS ⟨_, hq980⟩ (iv_in (X := v997.toInt) rfl (by omega) (by omega)) dX12_law_61 (fun H locs hA1003 oq hS => ?_)
      have hI := th_I.moved hI oq
      have hg987 := gf.arr hG0 hq980 (by decide) oq hg987
      have hf979 := fr.arr hG0 hq980 (by decide) oq hf979
      have hf983 := fr.arr hG0 hq980 (by decide) oq hf983
      have hA985 := va_at.kept hA985 (oq _ (m_ne hq984 hq980 (by first | decide | (dsimp only; decide))))
      have e1004 := rd_un (i := 315) (j := v997) (v := w986) e972 (X := (315)) (Y := v997.toInt) (by decide) rfl (by omega) (by omega) (by omega)
      have e1005 : w986 = (upd F968 (v997 : Int32).toNatClampNeg w986) (v997 : Int32).toNatClampNeg := rd_us
      refine lv_iconst (v := 0) hx hb dX12_law_62 (by decide) ?_
      refine lv_istore_n (lv' := [(2, .int 0), (1, .int v971), (0, .ref h0)]) hx hb dX12_law_63 rfl hl (by decide) rfl (fun ls hl => ?_)
      have zl : (0 : Int32).toInt = 0 := by decide
      exact J_64 _ H locs ls 0 v971 w986 a978 F968 cd (upd F968 (v997 : Int32).toNatClampNeg w986) tt TT 0 rfl (lv_sub hl [0, 1, 2] rfl) ⟨by decide, by decide⟩ ⟨by omega, by omega⟩ ⟨by omega, by omega⟩ hg987 ⟨a982, hf983, hq984, hA985⟩ (hq980) (hf979) (hA1003) (hP970) (ht6) (hT) (hgl) (by omega) (by omega) (by first | omega | decide) (by omega) (by rw [show F968 315 = v971 from (e972).symm]; omega) (LI.init (i := v997) (by omega) (by omega)) hI hS
    · skip
      try simp only [rg, not_and, Int.not_le] at hp
      have hp1006 := hp
      obtain ⟨a1007, hf1008, hq1009, hA1010⟩ := hp1006
      have hp1006 : True := trivial
      refine lv_if_ne (tgt := 39) hx hb dX12_law_29 (by decide) (fun c => absurd c (by decide)) (fun _ => ?_)
      refine lv_aload_n hx hb dX12_law_32 rfl (lv_at hl 0 rfl) ?_
      refine lv_bipush (v := (-6)) hx hb dX12_law_33 (by decide) ?_
      refine mx_i (As := [.int (-6)]) (rest := []) (n := 1) (d := 0) ⟨hx, hb, hml, hown, hts⟩ (c_X12_refuses l E D G h0 hG0 (-6) ⟨by decide, by decide⟩) wd_1398 wd_1400 wp_40 wd_13 wd_1401 (by decide +kernel) ⟨by rw [hR]; exact Nat.le_of_ble_eq_true rfl, by rw [hR]; exact Nat.le_of_ble_eq_true rfl⟩ hI hN hK hS hG0 (trivial) rfl hl.1 rfl (Nat.le_of_ble_eq_true rfl) dX12_law_35 ⟨Nat.zero_le _, Nat.zero_le _⟩ (fun r1017 H locs hI hp hS => ?_)
      obtain rfl := hp.symm
      have hpost : True := trivial
      rw [hQ]
      exact W.iret (v := (-6)) hx hb hr (fun t ht hW => ⟨⟨(-6), (-6), rfl, rfl, ⟨by rw [ht]; exact hI, hN.warm hW, va_K.moved hW.alike hK⟩, by first | (rw [ht]; exact hpost) | exact hpost⟩, hS.F ht⟩) hS.2.2 dX12_law_38
  · skip
    have k1018 := iv_eq (X := v971.toInt) (Y := (6)) rfl (by decide) c974
    refine lv_aload_n hx hb dX12_law_13 rfl (lv_at hl 0 rfl) ?_
    refine lv_iconst (v := 0) hx hb dX12_law_14 (by decide) ?_
    refine pmI (ty := .int) hx hb hts inT12 hown hK hI List.not_mem_nil hG0 hS ⟨_, hG0⟩ 10 (by decide) (hts _ (tb_c wd_1243)) rfl rfl (by decide +kernel) rfl rfl rfl (by decide) (by decide) dX12_law_15 (fun H locs hI hgP hS => ?_)
    have hg1019 := hgP.2.1
    have hf967 := hgP.2.2.2 3 _ (by decide) (by decide) hf967
    have hA969 := va_at.kept hA969 (hgP.1 _ (m_ne hq966 hG0 (by first | decide | (dsimp only; decide))))
    refine lv_aload_n hx hb dX12_law_18 rfl (lv_at hl 0 rfl) ?_
    refine lv_bipush (v := (-5)) hx hb dX12_law_19 (by decide) ?_
    refine mx_i (As := [.int (-5)]) (rest := []) (n := 1) (d := 0) ⟨hx, hb, hml, hown, hts⟩ (c_X12_refuses l E D G h0 hG0 (-5) ⟨by decide, by decide⟩) wd_1398 wd_1400 wp_40 wd_13 wd_1401 (by decide +kernel) ⟨by rw [hR]; exact Nat.le_of_ble_eq_true rfl, by rw [hR]; exact Nat.le_of_ble_eq_true rfl⟩ hI hN hK hS hG0 (trivial) rfl hl.1 rfl (Nat.le_of_ble_eq_true rfl) dX12_law_21 ⟨Nat.zero_le _, Nat.zero_le _⟩ (fun r1020 H locs hI hp hS => ?_)
    obtain rfl := hp.symm
    have hpost : True := trivial
    rw [hQ]
    exact W.iret (v := (-5)) hx hb hr (fun t ht hW => ⟨⟨(-5), (-5), rfl, rfl, ⟨by rw [ht]; exact hI, hN.warm hW, va_K.moved hW.alike hK⟩, by first | (rw [ht]; exact hpost) | exact hpost⟩, hS.F ht⟩) hS.2.2 dX12_law_24
