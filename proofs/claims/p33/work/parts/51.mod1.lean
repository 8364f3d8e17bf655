theorem wp_40 : Cond.selects RX12 yX12_refuses yX12_refuses ∈ TB := tv 40 (by decide +kernel) (by decide +kernel)
theorem wp_41 : Cond.selects RX12 yX12_good yX12_good ∈ TB := tv 41 (by decide +kernel) (by decide +kernel)
theorem wp_42 : Cond.selects RX12 yX12_comesBehind yX12_comesBehind ∈ TB := tv 42 (by decide +kernel) (by decide +kernel)
theorem wp_46 : Cond.selects RX12 yX12_pumpedAt yX12_pumpedAt ∈ TB := tv 46 (by decide +kernel) (by decide +kernel)
theorem wp_47 : Cond.selects RX12 yX12_isOn yX12_isOn ∈ TB := tv 47 (by decide +kernel) (by decide +kernel)
theorem wp_49 : Cond.selects RX12 yX12_codeAt yX12_codeAt ∈ TB := tv 49 (by decide +kernel) (by decide +kernel)
theorem wd_1239 : (Cond.fieldLink RX12 (135 : Nat) "NineRiverModel" "foam0" "I") ∈ TB := tw 1239 (by decide +kernel) (by decide +kernel)
theorem wd_1241 : (Cond.fieldLink RX12 (34 : Nat) "NineRiverModel" "tape" "[B") ∈ TB := tw 1241 (by decide +kernel) (by decide +kernel)
theorem wd_1242 : (Cond.fieldLink RX12 (37 : Nat) "NineRiverModel" "five" "[I") ∈ TB := tw 1242 (by decide +kernel) (by decide +kernel)
theorem wd_1243 : (Cond.fieldLink RX12 (132 : Nat) "NineRiverModel" "taped" "I") ∈ TB := tw 1243 (by decide +kernel) (by decide +kernel)
theorem wd_1244 : (Cond.fieldLink RX12 (40 : Nat) "NineRiverModel" "fault" "I") ∈ TB := tw 1244 (by decide +kernel) (by decide +kernel)
theorem wd_1252 : (Cond.fieldLink RX12 (219 : Nat) "NineRiverModel" "go" "I") ∈ TB := tw 1252 (by decide +kernel) (by decide +kernel)
theorem wd_1253 : (Cond.fieldLink RX12 (216 : Nat) "NineRiverModel" "goEnd" "I") ∈ TB := tw 1253 (by decide +kernel) (by decide +kernel)
theorem wd_1254 : (Cond.fieldLink RX12 (229 : Nat) "NineRiverModel" "broken" "Z") ∈ TB := tw 1254 (by decide +kernel) (by decide +kernel)
theorem wd_1255 : (Cond.fieldLink RX12 (52 : Nat) "NineRiverModel" "asked" "[I") ∈ TB := tw 1255 (by decide +kernel) (by decide +kernel)
theorem wd_1398 : (Cond.methodLink RX12 (107 : Nat) yX12_refuses) ∈ TB := tw 1398 (by decide +kernel) (by decide +kernel)
theorem wd_1400 : (Jvm.Cond.instanceMethod yX12_refuses) ∈ TB := tw 1400 (by decide +kernel) (by decide +kernel)
theorem wd_1401 : (Cond.code yX12_refuses cX12_refuses 2 (Option.some Jvm.ClassFile.FieldType.int)) ∈ TB := tw 1401 (by decide +kernel) (by decide +kernel)
theorem wd_1402 : (Cond.methodLink RX12 (111 : Nat) yX12_good) ∈ TB := tw 1402 (by decide +kernel) (by decide +kernel)
theorem wd_1404 : (Jvm.Cond.instanceMethod yX12_good) ∈ TB := tw 1404 (by decide +kernel) (by decide +kernel)
theorem wd_1405 : (Cond.code yX12_good cX12_good 2 (Option.some Jvm.ClassFile.FieldType.int)) ∈ TB := tw 1405 (by decide +kernel) (by decide +kernel)
theorem wd_1425 : (Cond.methodLink RX12 (121 : Nat) yX12_areHours) ∈ TB := tw 1425 (by decide +kernel) (by decide +kernel)
theorem wd_1426 : (Jvm.Cond.static yX12_areHours) ∈ TB := tw 1426 (by decide +kernel) (by decide +kernel)
theorem wd_1427 : (Cond.code yX12_areHours cX12_areHours 2 (Option.some Jvm.ClassFile.FieldType.boolean)) ∈ TB := tw 1427 (by decide +kernel) (by decide +kernel)
theorem wd_1435 : (Cond.methodLink RX12 (125 : Nat) yX12_comesBehind) ∈ TB := tw 1435 (by decide +kernel) (by decide +kernel)
theorem wd_1437 : (Jvm.Cond.instanceMethod yX12_comesBehind) ∈ TB := tw 1437 (by decide +kernel) (by decide +kernel)
theorem wd_1438 : (Cond.code yX12_comesBehind cX12_comesBehind 9 (Option.some Jvm.ClassFile.FieldType.int)) ∈ TB := tw 1438 (by decide +kernel) (by decide +kernel)
theorem wd_1467 : (Cond.methodLink RX12 (266 : Nat) yX12_pumpedAt) ∈ TB := tw 1467 (by decide +kernel) (by decide +kernel)
theorem wd_1469 : (Jvm.Cond.instanceMethod yX12_pumpedAt) ∈ TB := tw 1469 (by decide +kernel) (by decide +kernel)
theorem wd_1470 : (Cond.code yX12_pumpedAt cX12_pumpedAt 6 (Option.some Jvm.ClassFile.FieldType.int)) ∈ TB := tw 1470 (by decide +kernel) (by decide +kernel)
theorem wd_1471 : (Cond.methodLink RX12 (263 : Nat) yX12_isOn) ∈ TB := tw 1471 (by decide +kernel) (by decide +kernel)
theorem wd_1473 : (Jvm.Cond.instanceMethod yX12_isOn) ∈ TB := tw 1473 (by decide +kernel) (by decide +kernel)
theorem wd_1474 : (Cond.code yX12_isOn cX12_isOn 5 (Option.some Jvm.ClassFile.FieldType.boolean)) ∈ TB := tw 1474 (by decide +kernel) (by decide +kernel)
theorem wd_1479 : (Cond.methodLink RX12 (222 : Nat) yX12_codeAt) ∈ TB := tw 1479 (by decide +kernel) (by decide +kernel)
theorem wd_1481 : (Jvm.Cond.instanceMethod yX12_codeAt) ∈ TB := tw 1481 (by decide +kernel) (by decide +kernel)
theorem wd_1482 : (Cond.code yX12_codeAt cX12_codeAt 2 (Option.some Jvm.ClassFile.FieldType.int)) ∈ TB := tw 1482 (by decide +kernel) (by decide +kernel)
theorem wd_1506 : (Cond.constantLong RX12 (225 : Nat) (1000000000 : Int64)) ∈ TB := tw 1506 (by decide +kernel) (by decide +kernel)
theorem wd_1507 : (Cond.constantLong RX12 (227 : Nat) (-1000000000 : Int64)) ∈ TB := tw 1507 (by decide +kernel) (by decide +kernel)
theorem dX12_pump_0g : (decode cX12_pump 0 = .ok (.iload_n 2, 1)) ∧ (decode cX12_pump 1 = .ok (.invokestatic 118, 3)) ∧ (decode cX12_pump 4 = .ok (.ifCond .eq 46, 3)) ∧ (decode cX12_pump 7 = .ok (.iload_n 3, 1)) ∧ (decode cX12_pump 8 = .ok (.iload_n 2, 1)) ∧ (decode cX12_pump 9 = .ok (.bipush 23, 2)) ∧ (decode cX12_pump 11 = .ok (.invokestatic 103, 3)) ∧ (decode cX12_pump 14 = .ok (.ifCond .eq 36, 3)) ∧ (decode cX12_pump 17 = .ok (.iload 4, 2)) ∧ (decode cX12_pump 19 = .ok (.iconst 0, 1)) := by decide +kernel
theorem dX12_pump_0 : decode cX12_pump 0 = .ok (.iload_n 2, 1) := dX12_pump_0g.1
theorem dX12_pump_1 : decode cX12_pump 1 = .ok (.invokestatic 118, 3) := dX12_pump_0g.2.1
theorem dX12_pump_4 : decode cX12_pump 4 = .ok (.ifCond .eq 46, 3) := dX12_pump_0g.2.2.1
theorem dX12_pump_7 : decode cX12_pump 7 = .ok (.iload_n 3, 1) := dX12_pump_0g.2.2.2.1
theorem dX12_pump_8 : decode cX12_pump 8 = .ok (.iload_n 2, 1) := dX12_pump_0g.2.2.2.2.1
theorem dX12_pump_9 : decode cX12_pump 9 = .ok (.bipush 23, 2) := dX12_pump_0g.2.2.2.2.2.1
theorem dX12_pump_11 : decode cX12_pump 11 = .ok (.invokestatic 103, 3) := dX12_pump_0g.2.2.2.2.2.2.1
theorem dX12_pump_14 : decode cX12_pump 14 = .ok (.ifCond .eq 36, 3) := dX12_pump_0g.2.2.2.2.2.2.2.1
theorem dX12_pump_17 : decode cX12_pump 17 = .ok (.iload 4, 2) := dX12_pump_0g.2.2.2.2.2.2.2.2.1
theorem dX12_pump_19 : decode cX12_pump 19 = .ok (.iconst 0, 1) := dX12_pump_0g.2.2.2.2.2.2.2.2.2
theorem dX12_pump_20g : (decode cX12_pump 20 = .ok (.bipush 23, 2)) ∧ (decode cX12_pump 22 = .ok (.invokestatic 103, 3)) ∧ (decode cX12_pump 25 = .ok (.ifCond .eq 25, 3)) ∧ (decode cX12_pump 28 = .ok (.iload 5, 2)) ∧ (decode cX12_pump 30 = .ok (.iconst 0, 1)) ∧ (decode cX12_pump 31 = .ok (.bipush 23, 2)) ∧ (decode cX12_pump 33 = .ok (.invokestatic 103, 3)) ∧ (decode cX12_pump 36 = .ok (.ifCond .eq 14, 3)) ∧ (decode cX12_pump 39 = .ok (.iload 6, 2)) ∧ (decode cX12_pump 41 = .ok (.iconst 0, 1)) := by decide +kernel
theorem dX12_pump_20 : decode cX12_pump 20 = .ok (.bipush 23, 2) := dX12_pump_20g.1
theorem dX12_pump_22 : decode cX12_pump 22 = .ok (.invokestatic 103, 3) := dX12_pump_20g.2.1
theorem dX12_pump_25 : decode cX12_pump 25 = .ok (.ifCond .eq 25, 3) := dX12_pump_20g.2.2.1
theorem dX12_pump_28 : decode cX12_pump 28 = .ok (.iload 5, 2) := dX12_pump_20g.2.2.2.1
theorem dX12_pump_30 : decode cX12_pump 30 = .ok (.iconst 0, 1) := dX12_pump_20g.2.2.2.2.1
theorem dX12_pump_31 : decode cX12_pump 31 = .ok (.bipush 23, 2) := dX12_pump_20g.2.2.2.2.2.1
theorem dX12_pump_33 : decode cX12_pump 33 = .ok (.invokestatic 103, 3) := dX12_pump_20g.2.2.2.2.2.2.1
theorem dX12_pump_36 : decode cX12_pump 36 = .ok (.ifCond .eq 14, 3) := dX12_pump_20g.2.2.2.2.2.2.2.1
theorem dX12_pump_39 : decode cX12_pump 39 = .ok (.iload 6, 2) := dX12_pump_20g.2.2.2.2.2.2.2.2.1
theorem dX12_pump_41 : decode cX12_pump 41 = .ok (.iconst 0, 1) := dX12_pump_20g.2.2.2.2.2.2.2.2.2
theorem dX12_pump_42g : (decode cX12_pump 42 = .ok (.bipush 6, 2)) ∧ (decode cX12_pump 44 = .ok (.invokestatic 103, 3)) ∧ (decode cX12_pump 47 = .ok (.ifCond .ne 9, 3)) ∧ (decode cX12_pump 50 = .ok (.aload_n 0, 1)) ∧ (decode cX12_pump 51 = .ok (.iconst (-1), 1)) ∧ (decode cX12_pump 52 = .ok (.invokevirtual 107, 3)) ∧ (decode cX12_pump 55 = .ok (.ireturn, 1)) ∧ (decode cX12_pump 56 = .ok (.iload_n 1, 1)) ∧ (decode cX12_pump 57 = .ok (.iconst 0, 1)) ∧ (decode cX12_pump 58 = .ok (.iconst 1, 1)) := by decide +kernel
theorem dX12_pump_42 : decode cX12_pump 42 = .ok (.bipush 6, 2) := dX12_pump_42g.1
theorem dX12_pump_44 : decode cX12_pump 44 = .ok (.invokestatic 103, 3) := dX12_pump_42g.2.1
theorem dX12_pump_47 : decode cX12_pump 47 = .ok (.ifCond .ne 9, 3) := dX12_pump_42g.2.2.1
theorem dX12_pump_50 : decode cX12_pump 50 = .ok (.aload_n 0, 1) := dX12_pump_42g.2.2.2.1
theorem dX12_pump_51 : decode cX12_pump 51 = .ok (.iconst (-1), 1) := dX12_pump_42g.2.2.2.2.1
theorem dX12_pump_52 : decode cX12_pump 52 = .ok (.invokevirtual 107, 3) := dX12_pump_42g.2.2.2.2.2.1
theorem dX12_pump_55 : decode cX12_pump 55 = .ok (.ireturn, 1) := dX12_pump_42g.2.2.2.2.2.2.1
theorem dX12_pump_56 : decode cX12_pump 56 = .ok (.iload_n 1, 1) := dX12_pump_42g.2.2.2.2.2.2.2.1
theorem dX12_pump_57 : decode cX12_pump 57 = .ok (.iconst 0, 1) := dX12_pump_42g.2.2.2.2.2.2.2.2.1
theorem dX12_pump_58 : decode cX12_pump 58 = .ok (.iconst 1, 1) := dX12_pump_42g.2.2.2.2.2.2.2.2.2
theorem dX12_pump_59g : (decode cX12_pump 59 = .ok (.invokestatic 103, 3)) ∧ (decode cX12_pump 62 = .ok (.ifCond .ne 10, 3)) ∧ (decode cX12_pump 65 = .ok (.aload_n 0, 1)) ∧ (decode cX12_pump 66 = .ok (.bipush (-2), 2)) ∧ (decode cX12_pump 68 = .ok (.invokevirtual 107, 3)) ∧ (decode cX12_pump 71 = .ok (.ireturn, 1)) ∧ (decode cX12_pump 72 = .ok (.iconst 0, 1)) ∧ (decode cX12_pump 73 = .ok (.iconst 5, 1)) ∧ (decode cX12_pump 74 = .ok (.iload_n 1, 1)) ∧ (decode cX12_pump 75 = .ok (.imul, 1)) := by decide +kernel
theorem dX12_pump_59 : decode cX12_pump 59 = .ok (.invokestatic 103, 3) := dX12_pump_59g.1
theorem dX12_pump_62 : decode cX12_pump 62 = .ok (.ifCond .ne 10, 3) := dX12_pump_59g.2.1
theorem dX12_pump_65 : decode cX12_pump 65 = .ok (.aload_n 0, 1) := dX12_pump_59g.2.2.1
theorem dX12_pump_66 : decode cX12_pump 66 = .ok (.bipush (-2), 2) := dX12_pump_59g.2.2.2.1
theorem dX12_pump_68 : decode cX12_pump 68 = .ok (.invokevirtual 107, 3) := dX12_pump_59g.2.2.2.2.1
theorem dX12_pump_71 : decode cX12_pump 71 = .ok (.ireturn, 1) := dX12_pump_59g.2.2.2.2.2.1
theorem dX12_pump_72 : decode cX12_pump 72 = .ok (.iconst 0, 1) := dX12_pump_59g.2.2.2.2.2.2.1
theorem dX12_pump_73 : decode cX12_pump 73 = .ok (.iconst 5, 1) := dX12_pump_59g.2.2.2.2.2.2.2.1
theorem dX12_pump_74 : decode cX12_pump 74 = .ok (.iload_n 1, 1) := dX12_pump_59g.2.2.2.2.2.2.2.2.1
theorem dX12_pump_75 : decode cX12_pump 75 = .ok (.imul, 1) := dX12_pump_59g.2.2.2.2.2.2.2.2.2
theorem dX12_pump_76g : (decode cX12_pump 76 = .ok (.iadd, 1)) ∧ (decode cX12_pump 77 = .ok (.istore 7, 2)) ∧ (decode cX12_pump 79 = .ok (.aload_n 0, 1)) ∧ (decode cX12_pump 80 = .ok (.getfield 20, 3)) ∧ (decode cX12_pump 83 = .ok (.iload 7, 2)) ∧ (decode cX12_pump 85 = .ok (.iload_n 2, 1)) ∧ (decode cX12_pump 86 = .ok (.iastore, 1)) ∧ (decode cX12_pump 87 = .ok (.aload_n 0, 1)) ∧ (decode cX12_pump 88 = .ok (.getfield 20, 3)) ∧ (decode cX12_pump 91 = .ok (.iload 7, 2)) := by decide +kernel
theorem dX12_pump_76 : decode cX12_pump 76 = .ok (.iadd, 1) := dX12_pump_76g.1
theorem dX12_pump_77 : decode cX12_pump 77 = .ok (.istore 7, 2) := dX12_pump_76g.2.1
theorem dX12_pump_79 : decode cX12_pump 79 = .ok (.aload_n 0, 1) := dX12_pump_76g.2.2.1
theorem dX12_pump_80 : decode cX12_pump 80 = .ok (.getfield 20, 3) := dX12_pump_76g.2.2.2.1
theorem dX12_pump_83 : decode cX12_pump 83 = .ok (.iload 7, 2) := dX12_pump_76g.2.2.2.2.1
theorem dX12_pump_85 : decode cX12_pump 85 = .ok (.iload_n 2, 1) := dX12_pump_76g.2.2.2.2.2.1
theorem dX12_pump_86 : decode cX12_pump 86 = .ok (.iastore, 1) := dX12_pump_76g.2.2.2.2.2.2.1
theorem dX12_pump_87 : decode cX12_pump 87 = .ok (.aload_n 0, 1) := dX12_pump_76g.2.2.2.2.2.2.2.1
theorem dX12_pump_88 : decode cX12_pump 88 = .ok (.getfield 20, 3) := dX12_pump_76g.2.2.2.2.2.2.2.2.1
theorem dX12_pump_91 : decode cX12_pump 91 = .ok (.iload 7, 2) := dX12_pump_76g.2.2.2.2.2.2.2.2.2
theorem dX12_pump_93g : (decode cX12_pump 93 = .ok (.iconst 1, 1)) ∧ (decode cX12_pump 94 = .ok (.iadd, 1)) ∧ (decode cX12_pump 95 = .ok (.iload_n 3, 1)) ∧ (decode cX12_pump 96 = .ok (.iastore, 1)) ∧ (decode cX12_pump 97 = .ok (.aload_n 0, 1)) ∧ (decode cX12_pump 98 = .ok (.getfield 20, 3)) ∧ (decode cX12_pump 101 = .ok (.iload 7, 2)) ∧ (decode cX12_pump 103 = .ok (.iconst 2, 1)) ∧ (decode cX12_pump 104 = .ok (.iadd, 1)) ∧ (decode cX12_pump 105 = .ok (.iload 4, 2)) := by decide +kernel
theorem dX12_pump_93 : decode cX12_pump 93 = .ok (.iconst 1, 1) := dX12_pump_93g.1
theorem dX12_pump_94 : decode cX12_pump 94 = .ok (.iadd, 1) := dX12_pump_93g.2.1
theorem dX12_pump_95 : decode cX12_pump 95 = .ok (.iload_n 3, 1) := dX12_pump_93g.2.2.1
theorem dX12_pump_96 : decode cX12_pump 96 = .ok (.iastore, 1) := dX12_pump_93g.2.2.2.1
theorem dX12_pump_97 : decode cX12_pump 97 = .ok (.aload_n 0, 1) := dX12_pump_93g.2.2.2.2.1
theorem dX12_pump_98 : decode cX12_pump 98 = .ok (.getfield 20, 3) := dX12_pump_93g.2.2.2.2.2.1
theorem dX12_pump_101 : decode cX12_pump 101 = .ok (.iload 7, 2) := dX12_pump_93g.2.2.2.2.2.2.1
theorem dX12_pump_103 : decode cX12_pump 103 = .ok (.iconst 2, 1) := dX12_pump_93g.2.2.2.2.2.2.2.1
theorem dX12_pump_104 : decode cX12_pump 104 = .ok (.iadd, 1) := dX12_pump_93g.2.2.2.2.2.2.2.2.1
theorem dX12_pump_105 : decode cX12_pump 105 = .ok (.iload 4, 2) := dX12_pump_93g.2.2.2.2.2.2.2.2.2
theorem dX12_pump_107g : (decode cX12_pump 107 = .ok (.iastore, 1)) ∧ (decode cX12_pump 108 = .ok (.aload_n 0, 1)) ∧ (decode cX12_pump 109 = .ok (.getfield 20, 3)) ∧ (decode cX12_pump 112 = .ok (.iload 7, 2)) ∧ (decode cX12_pump 114 = .ok (.iconst 3, 1)) ∧ (decode cX12_pump 115 = .ok (.iadd, 1)) ∧ (decode cX12_pump 116 = .ok (.iload 5, 2)) ∧ (decode cX12_pump 118 = .ok (.iastore, 1)) ∧ (decode cX12_pump 119 = .ok (.aload_n 0, 1)) ∧ (decode cX12_pump 120 = .ok (.getfield 20, 3)) := by decide +kernel
theorem dX12_pump_107 : decode cX12_pump 107 = .ok (.iastore, 1) := dX12_pump_107g.1
theorem dX12_pump_108 : decode cX12_pump 108 = .ok (.aload_n 0, 1) := dX12_pump_107g.2.1
theorem dX12_pump_109 : decode cX12_pump 109 = .ok (.getfield 20, 3) := dX12_pump_107g.2.2.1
theorem dX12_pump_112 : decode cX12_pump 112 = .ok (.iload 7, 2) := dX12_pump_107g.2.2.2.1
theorem dX12_pump_114 : decode cX12_pump 114 = .ok (.iconst 3, 1) := dX12_pump_107g.2.2.2.2.1
theorem dX12_pump_115 : decode cX12_pump 115 = .ok (.iadd, 1) := dX12_pump_107g.2.2.2.2.2.1
theorem dX12_pump_116 : decode cX12_pump 116 = .ok (.iload 5, 2) := dX12_pump_107g.2.2.2.2.2.2.1
theorem dX12_pump_118 : decode cX12_pump 118 = .ok (.iastore, 1) := dX12_pump_107g.2.2.2.2.2.2.2.1
theorem dX12_pump_119 : decode cX12_pump 119 = .ok (.aload_n 0, 1) := dX12_pump_107g.2.2.2.2.2.2.2.2.1
theorem dX12_pump_120 : decode cX12_pump 120 = .ok (.getfield 20, 3) := dX12_pump_107g.2.2.2.2.2.2.2.2.2
theorem dX12_pump_123g : (decode cX12_pump 123 = .ok (.iload 7, 2)) ∧ (decode cX12_pump 125 = .ok (.iconst 4, 1)) ∧ (decode cX12_pump 126 = .ok (.iadd, 1)) ∧ (decode cX12_pump 127 = .ok (.iload 6, 2)) ∧ (decode cX12_pump 129 = .ok (.iastore, 1)) ∧ (decode cX12_pump 130 = .ok (.aload_n 0, 1)) ∧ (decode cX12_pump 131 = .ok (.iconst 0, 1)) ∧ (decode cX12_pump 132 = .ok (.invokevirtual 111, 3)) ∧ (decode cX12_pump 135 = .ok (.ireturn, 1)) := by decide +kernel
theorem dX12_pump_123 : decode cX12_pump 123 = .ok (.iload 7, 2) := dX12_pump_123g.1
theorem dX12_pump_125 : decode cX12_pump 125 = .ok (.iconst 4, 1) := dX12_pump_123g.2.1
theorem dX12_pump_126 : decode cX12_pump 126 = .ok (.iadd, 1) := dX12_pump_123g.2.2.1
theorem dX12_pump_127 : decode cX12_pump 127 = .ok (.iload 6, 2) := dX12_pump_123g.2.2.2.1
theorem dX12_pump_129 : decode cX12_pump 129 = .ok (.iastore, 1) := dX12_pump_123g.2.2.2.2.1
theorem dX12_pump_130 : decode cX12_pump 130 = .ok (.aload_n 0, 1) := dX12_pump_123g.2.2.2.2.2.1
theorem dX12_pump_131 : decode cX12_pump 131 = .ok (.iconst 0, 1) := dX12_pump_123g.2.2.2.2.2.2.1
theorem dX12_pump_132 : decode cX12_pump 132 = .ok (.invokevirtual 111, 3) := dX12_pump_123g.2.2.2.2.2.2.2.1
theorem dX12_pump_135 : decode cX12_pump 135 = .ok (.ireturn, 1) := dX12_pump_123g.2.2.2.2.2.2.2.2
set_option maxHeartbeats 4000000 in
set_option maxRecDepth 100000 in
theorem c_X12_pump (l : Launch) (E : Nat → Nat) (D : va_G) (G : th_G) (h0 : Nat) (hG0 : G h0 = some (10, 0)) (x1 : Int32) (x2 : Int32) (x3 : Int32) (x4 : Int32) (x5 : Int32) (x6 : Int32) : Met l yX12_pump (tb (.code yX12_pump cX12_pump 8 (some .int))) (rm 2) (va_Pc [.ref h0, .int x1, .int x2, .int x3, .int x4, .int x5, .int x6] (PX E D G (fun H => True))) (QXi E D G (fun r H => ((r : Int32) = -1 ∧ ¬ (rg x2 0 23 ∧ rg x3 0 23 ∧ x2.toInt ≤ x3.toInt ∧ rg x4 0 23 ∧ rg x5 0 23 ∧ rg x6 0 6)) ∨ ((r : Int32) = -2 ∧ (rg x2 0 23 ∧ rg x3 0 23 ∧ x2.toInt ≤ x3.toInt ∧ rg x4 0 23 ∧ rg x5 0 23 ∧ rg x6 0 6) ∧ ¬ rg x1 0 1) ∨ ((r : Int32) = 0 ∧ (rg x2 0 23 ∧ rg x3 0 23 ∧ x2.toInt ≤ x3.toInt ∧ rg x4 0 23 ∧ rg x5 0 23 ∧ rg x6 0 6) ∧ rg x1 0 1))) 0 0 (th_A G) := by
  refine Met.ofW (cc := cX12_pump) (maxL := 8) (ret := (some .int)) (by decide) rfl ?_
  intro p e s m args below meth c s₁ B hml hv
  obtain ⟨hav, ⟨hI, hN, hK⟩, hX⟩ := hv
  have hx := B.exec
  have hb := B.bytes
  have hr := B.returns
  have hts := atoms_spec (ws := tb (.code yX12_pump cX12_pump 8 (some .int))) B.pre
  have hown : s.vm.findClass RX12 = some m.cls := findClass_of_methodNamed B.named
  have hlocks := B.notSynchronized
  have hS : va_S (th_A G) s.heap s.heap [] := va_S.rf
  have hl := lv_entry ([.ref h0, .int x1, .int x2, .int x3, .int x4, .int x5, .int x6]) (n := 8) (Nat.le_of_ble_eq_true rfl)
  rw [show entryFrame m args 8 = entryFrame m ([.ref h0, .int x1, .int x2, .int x3, .int x4, .int x5, .int x6] : List Value).toArray 8 from by rw [hav], lg_entry_eq]
  generalize (lg_sl ([.ref h0, .int x1, .int x2, .int x3, .int x4, .int x5, .int x6]) ++ List.replicate (8 - (lg_sl ([.ref h0, .int x1, .int x2, .int x3, .int x4, .int x5, .int x6])).length) Slot.unset).toArray = ls at hl ⊢
  have hl : lv_has ls 8 [(0, .ref h0), (1, .int x1), (2, .int x2), (3, .int x3), (4, .int x4), (5, .int x5), (6, .int x6)] := hl
  generalize hR : (headSpec (tb (.code yX12_pump cX12_pump 8 (some .int))) (rm 2)).room = R
  have hR := hR.symm
  generalize hQ : MQ below (QXi E D G (fun r H => ((r : Int32) = -1 ∧ ¬ (rg x2 0 23 ∧ rg x3 0 23 ∧ x2.toInt ≤ x3.toInt ∧ rg x4 0 23 ∧ rg x5 0 23 ∧ rg x6 0 6)) ∨ ((r : Int32) = -2 ∧ (rg x2 0 23 ∧ rg x3 0 23 ∧ x2.toInt ≤ x3.toInt ∧ rg x4 0 23 ∧ rg x5 0 23 ∧ rg x6 0 6) ∧ ¬ rg x1 0 1) ∨ ((r : Int32) = 0 ∧ (rg x2 0 23 ∧ rg x3 0 23 ∧ x2.toInt ≤ x3.toInt ∧ rg x4 0 23 ∧ rg x5 0 23 ∧ rg x6 0 6) ∧ rg x1 0 1))) args s 0 0 (th_A G) = QF
  have hQ := hQ.symm
  refine lv_iload_n hx hb dX12_pump_0 rfl (lv_at hl 2 rfl) ?_
  refine th_cSs (As := [.int x2]) (rest := []) (n := 1) (d := 1) ⟨hx, hb, hml, hown, hts⟩ (c_X12_isCell l s.heap x2) wd_1414 wd_1415 wd_13 wd_1416 (by decide +kernel) ⟨by rw [hR]; exact Nat.le_of_ble_eq_true rfl, by rw [hR]; exact Nat.le_of_ble_eq_true rfl⟩ hN hS rfl hl.1 rfl (Nat.le_of_ble_eq_true rfl) dX12_pump_1 ⟨Nat.zero_le _, Nat.zero_le _⟩ (fun r1 locs hp hS => ?_)
  rcases hp with ⟨rfl, hp⟩ | ⟨rfl, hp⟩
  · skip
    try simp only [rg, not_and, Int.not_le] at hp
    have hp2 := hp
    refine lv_if_eq (tgt := 50) hx hb dX12_pump_4 (by decide) (fun c => absurd c (by decide)) (fun _ => ?_)
    refine lv_iload_n hx hb dX12_pump_7 rfl (lv_at hl 3 rfl) ?_
    refine lv_iload_n hx hb dX12_pump_8 rfl (lv_at hl 2 rfl) ?_
    refine lv_bipush (v := 23) hx hb dX12_pump_9 (by decide) ?_
    refine th_cSs (As := [.int x3, .int x2, .int 23]) (rest := []) (n := 3) (d := 0) ⟨hx, hb, hml, hown, hts⟩ (c_X12_lies l s.heap x3 x2 23) wd_1395 wd_1396 wd_13 wd_1397 (by decide +kernel) ⟨by rw [hR]; exact Nat.le_of_ble_eq_true rfl, by rw [hR]; exact Nat.le_of_ble_eq_true rfl⟩ hN hS rfl hl.1 rfl (Nat.le_of_ble_eq_true rfl) dX12_pump_11 ⟨Nat.zero_le _, Nat.zero_le _⟩ (fun r3 locs hp hS => ?_)
    rcases hp with ⟨rfl, hp⟩ | ⟨rfl, hp⟩
    · skip
      try simp only [rg, not_and, Int.not_le] at hp
      have hp4 := hp
      try rw [show (23 : Int32).toInt = 23 from by decide] at hp4
      refine lv_if_eq (tgt := 50) hx hb dX12_pump_14 (by decide) (fun c => absurd c (by decide)) (fun _ => ?_)
      refine lv_iload hx hb dX12_pump_17 (lv_at hl 4 rfl) ?_
      refine lv_iconst (v := 0) hx hb dX12_pump_19 (by decide) ?_
      refine lv_bipush (v := 23) hx hb dX12_pump_20 (by decide) ?_
      refine th_cSs (As := [.int x4, .int 0, .int 23]) (rest := []) (n := 3) (d := 0) ⟨hx, hb, hml, hown, hts⟩ (c_X12_lies l s.heap x4 0 23) wd_1395 wd_1396 wd_13 wd_1397 (by decide +kernel) ⟨by rw [hR]; exact Nat.le_of_ble_eq_true rfl, by rw [hR]; exact Nat.le_of_ble_eq_true rfl⟩ hN hS rfl hl.1 rfl (Nat.le_of_ble_eq_true rfl) dX12_pump_22 ⟨Nat.zero_le _, Nat.zero_le _⟩ (fun r5 locs hp hS => ?_)
      rcases hp with ⟨rfl, hp⟩ | ⟨rfl, hp⟩
      · skip
        try simp only [rg, not_and, Int.not_le] at hp
        have hp6 := hp
        try rw [show (0 : Int32).toInt = 0 from by decide] at hp6
        try rw [show (23 : Int32).toInt = 23 from by decide] at hp6
        refine lv_if_eq (tgt := 50) hx hb dX12_pump_25 (by decide) (fun c => absurd c (by decide)) (fun _ => ?_)
        refine lv_iload hx hb dX12_pump_28 (lv_at hl 5 rfl) ?_
        refine lv_iconst (v := 0) hx hb dX12_pump_30 (by decide) ?_
        refine lv_bipush (v := 23) hx hb dX12_pump_31 (by decide) ?_
        refine th_cSs (As := [.int x5, .int 0, .int 23]) (rest := []) (n := 3) (d := 0) ⟨hx, hb, hml, hown, hts⟩ (c_X12_lies l s.heap x5 0 23) wd_1395 wd_1396 wd_13 wd_1397 (by decide +kernel) ⟨by rw [hR]; exact Nat.le_of_ble_eq_true rfl, by rw [hR]; exact Nat.le_of_ble_eq_true rfl⟩ hN hS rfl hl.1 rfl (Nat.le_of_ble_eq_true rfl) dX12_pump_33 ⟨Nat.zero_le _, Nat.zero_le _⟩ (fun r7 locs hp hS => ?_)
        rcases hp with ⟨rfl, hp⟩ | ⟨rfl, hp⟩
        · skip
          try simp only [rg, not_and, Int.not_le] at hp
          have hp8 := hp
          try rw [show (0 : Int32).toInt = 0 from by decide] at hp8
          try rw [show (23 : Int32).toInt = 23 from by decide] at hp8
          refine lv_if_eq (tgt := 50) hx hb dX12_pump_36 (by decide) (fun c => absurd c (by decide)) (fun _ => ?_)
          refine lv_iload hx hb dX12_pump_39 (lv_at hl 6 rfl) ?_
          refine lv_iconst (v := 0) hx hb dX12_pump_41 (by decide) ?_
          refine lv_bipush (v := 6) hx hb dX12_pump_42 (by decide) ?_
          refine th_cSs (As := [.int x6, .int 0, .int 6]) (rest := []) (n := 3) (d := 0) ⟨hx, hb, hml, hown, hts⟩ (c_X12_lies l s.heap x6 0 6) wd_1395 wd_1396 wd_13 wd_1397 (by decide +kernel) ⟨by rw [hR]; exact Nat.le_of_ble_eq_true rfl, by rw [hR]; exact Nat.le_of_ble_eq_true rfl⟩ hN hS rfl hl.1 rfl (Nat.le_of_ble_eq_true rfl) dX12_pump_44 ⟨Nat.zero_le _, Nat.zero_le _⟩ (fun r9 locs hp hS => ?_)
          rcases hp with ⟨rfl, hp⟩ | ⟨rfl, hp⟩
          · skip
            try simp only [rg, not_and, Int.not_le] at hp
            have hp10 := hp
            try rw [show (0 : Int32).toInt = 0 from by decide] at hp10
            try rw [show (6 : Int32).toInt = 6 from by decide] at hp10
            refine lv_if_ne (tgt := 56) hx hb dX12_pump_47 (by decide) (fun _ => ?_) (fun c => absurd c (by decide))
            refine lv_iload_n hx hb dX12_pump_56 rfl (lv_at hl 1 rfl) ?_
            refine lv_iconst (v := 0) hx hb dX12_pump_57 (by decide) ?_
            refine lv_iconst (v := 1) hx hb dX12_pump_58 (by decide) ?_
            refine th_cSs (As := [.int x1, .int 0, .int 1]) (rest := []) (n := 3) (d := 0) ⟨hx, hb, hml, hown, hts⟩ (c_X12_lies l s.heap x1 0 1) wd_1395 wd_1396 wd_13 wd_1397 (by decide +kernel) ⟨by rw [hR]; exact Nat.le_of_ble_eq_true rfl, by rw [hR]; exact Nat.le_of_ble_eq_true rfl⟩ hN hS rfl hl.1 rfl (Nat.le_of_ble_eq_true rfl) dX12_pump_59 ⟨Nat.zero_le _, Nat.zero_le _⟩ (fun r11 locs hp hS => ?_)
            rcases hp with ⟨rfl, hp⟩ | ⟨rfl, hp⟩
            · skip
              try simp only [rg, not_and, Int.not_le] at hp
              have hp12 := hp
              try rw [show (0 : Int32).toInt = 0 from by decide] at hp12
              try rw [show (1 : Int32).toInt = 1 from by decide] at hp12
              refine lv_if_ne (tgt := 72) hx hb dX12_pump_62 (by decide) (fun _ => ?_) (fun c => absurd c (by decide))
              refine lv_iconst (v := 0) hx hb dX12_pump_72 (by decide) ?_
              refine lv_iconst (v := 5) hx hb dX12_pump_73 (by decide) ?_
              refine lv_iload_n hx hb dX12_pump_74 rfl (lv_at hl 1 rfl) ?_
              refine lv_imul hx hb dX12_pump_75 ?_
              refine lv_topi (fun v13 e14 => ?_)
              have tv13 : v13.toInt = (5) * x1.toInt := iv_mul (by decide) rfl e14 (by omega) (by omega)
              refine lv_iadd hx hb dX12_pump_76 ?_
              refine lv_topi (fun v15 e16 => ?_)
              have tv15 : v15.toInt = (0) + v13.toInt := iv_add (by decide) rfl e16 (by omega) (by omega)
              refine lv_istore (lv' := [(7, .int v15), (0, .ref h0), (1, .int x1), (2, .int x2), (3, .int x3), (4, .int x4), (5, .int x5), (6, .int x6)]) hx hb dX12_pump_77 hl (by decide) rfl (fun ls hl => ?_)
              refine lv_aload_n hx hb dX12_pump_79 rfl (lv_at hl 1 rfl) ?_
              refine gmA hx hb hts inT12 hown hK hI List.not_mem_nil hG0 3 (by decide) (hts _ (tb_c wd_1236)) rfl rfl dX12_pump_80 (fun a17 hq18 hf19 => ?_)
              refine lv_iload hx hb dX12_pump_83 (lv_at hl 0 rfl) ?_
              refine lv_iload_n hx hb dX12_pump_85 rfl (lv_at hl 3 rfl) ?_
              obtain ⟨F20, hA21, hP22⟩ := om_1 hI hq18 List.not_mem_nil
              refine th_iast hx hb hK hA21 0 rfl hS ⟨_, hq18⟩ (iv_in (X := v15.toInt) rfl (by omega) (by omega)) dX12_pump_86 (fun H locs hA23 oq hS => ?_)
              have hP24 := kOk.set (i := v15) (v := x2) hP22 (X := v15.toInt) (V := x2.toInt) rfl rfl (by omega) (by omega) (ks_pumps (by omega) (by omega) (by omega))
              have hI := th_I.put hI hq18 hA23 (ok_m1 hP24) oq
              have hf19 := fr.arr hG0 hq18 (by decide) oq hf19
              have e25 : x2 = (upd F20 (v15 : Int32).toNatClampNeg x2) (v15 : Int32).toNatClampNeg := rd_us
              refine lv_aload_n hx hb dX12_pump_87 rfl (lv_at hl 1 rfl) ?_
              refine gmA hx hb hts inT12 hown hK hI List.not_mem_nil hG0 3 (by decide) (hts _ (tb_c wd_1236)) rfl rfl dX12_pump_88 (fun a26 hq27 hf28 => ?_)
              obtain rfl := fr.uniq (by decide) hf19 hf28
              refine lv_iload hx hb dX12_pump_91 (lv_at hl 0 rfl) ?_
              refine lv_iconst (v := 1) hx hb dX12_pump_93 (by decide) ?_
              refine lv_iadd hx hb dX12_pump_94 ?_
              refine lv_topi (fun v29 e30 => ?_)
              have tv29 : v29.toInt = v15.toInt + (1) := iv_add rfl (by decide) e30 (by omega) (by omega)
              refine lv_iload_n hx hb dX12_pump_95 rfl (lv_at hl 4 rfl) ?_
              refine th_iast hx hb hK hA23 0 rfl hS ⟨_, hq18⟩ (iv_in (X := v29.toInt) rfl (by omega) (by omega)) dX12_pump_96 (fun H locs hA31 oq hS => ?_)
              have hP32 := kOk.set (i := v29) (v := x3) hP24 (X := v29.toInt) (V := x3.toInt) rfl rfl (by omega) (by omega) (ks_pumps (by omega) (by omega) (by omega))
              have hI := th_I.put hI hq18 hA31 (ok_m1 hP32) oq
              have hf19 := fr.arr hG0 hq18 (by decide) oq hf19
              have e33 := rd_un (i := v15) (j := v29) (v := x3) e25 (X := v15.toInt) (Y := v29.toInt) rfl rfl (by omega) (by omega) (by omega)
              have e34 : x3 = (upd (upd F20 (v15 : Int32).toNatClampNeg x2) (v29 : Int32).toNatClampNeg x3) (v29 : Int32).toNatClampNeg := rd_us
              refine lv_aload_n hx hb dX12_pump_97 rfl (lv_at hl 1 rfl) ?_
              refine gmA hx hb hts inT12 hown hK hI List.not_mem_nil hG0 3 (by decide) (hts _ (tb_c wd_1236)) rfl rfl dX12_pump_98 (fun a35 hq36 hf37 => ?_)
              obtain rfl := fr.uniq (by decide) hf19 hf37
              refine lv_iload hx hb dX12_pump_101 (lv_at hl 0 rfl) ?_
              refine lv_iconst (v := 2) hx hb dX12_pump_103 (by decide) ?_
              refine lv_iadd hx hb dX12_pump_104 ?_
              refine lv_topi (fun v38 e39 => ?_)
              have tv38 : v38.toInt = v15.toInt + (2) := iv_add rfl (by decide) e39 (by omega) (by omega)
              refine lv_iload hx hb dX12_pump_105 (lv_at hl 5 rfl) ?_
              refine th_iast hx hb hK hA31 0 rfl hS ⟨_, hq18⟩ (iv_in (X := v38.toInt) rfl (by omega) (by omega)) dX12_pump_107 (fun H locs hA40 oq hS => ?_)
              have hP41 := kOk.set (i := v38) (v := x4) hP32 (X := v38.toInt) (V := x4.toInt) rfl rfl (by omega) (by omega) (ks_pumps (by omega) (by omega) (by omega))
              have hI := th_I.put hI hq18 hA40 (ok_m1 hP41) oq
              have hf19 := fr.arr hG0 hq18 (by decide) oq hf19
              have e42 := rd_un (i := v15) (j := v38) (v := x4) e33 (X := v15.toInt) (Y := v38.toInt) rfl rfl (by omega) (by omega) (by omega)
              have e43 := rd_un (i := v29) (j := v38) (v := x4) e34 (X := v29.toInt) (Y := v38.toInt) rfl rfl (by omega) (by omega) (by omega)
              have e44 : x4 = (upd (upd (upd F20 (v15 : Int32).toNatClampNeg x2) (v29 : Int32).toNatClampNeg x3) (v38 : Int32).toNatClampNeg x4) (v38 : Int32).toNatClampNeg := rd_us
              refine lv_aload_n hx hb dX12_pump_108 rfl (lv_at hl 1 rfl) ?_
              refine gmA hx hb hts inT12 hown hK hI List.not_mem_nil hG0 3 (by decide) (hts _ (tb_c wd_1236)) rfl rfl dX12_pump_109 (fun a45 hq46 hf47 => ?_)
              obtain rfl := fr.uniq (by decide) hf19 hf47
              refine lv_iload hx hb dX12_pump_112 (lv_at hl 0 rfl) ?_
              refine lv_iconst (v := 3) hx hb dX12_pump_114 (by decide) ?_
              refine lv_iadd hx hb dX12_pump_115 ?_
              refine lv_topi (fun v48 e49 => ?_)
              have tv48 : v48.toInt = v15.toInt + (3) := iv_add rfl (by decide) e49 (by omega) (by omega)
              refine lv_iload hx hb dX12_pump_116 (lv_at hl 6 rfl) ?_
              refine th_iast hx hb hK hA40 0 rfl hS ⟨_, hq18⟩ (iv_in (X := v48.toInt) rfl (by omega) (by omega)) dX12_pump_118 (fun H locs hA50 oq hS => ?_)
              have hP51 := kOk.set (i := v48) (v := x5) hP41 (X := v48.toInt) (V := x5.toInt) rfl rfl (by omega) (by omega) (ks_pumps (by omega) (by omega) (by omega))
              have hI := th_I.put hI hq18 hA50 (ok_m1 hP51) oq
              have hf19 := fr.arr hG0 hq18 (by decide) oq hf19
              have e52 := rd_un (i := v15) (j := v48) (v := x5) e42 (X := v15.toInt) (Y := v48.toInt) rfl rfl (by omega) (by omega) (by omega)
              have e53 := rd_un (i := v29) (j := v48) (v := x5) e43 (X := v29.toInt) (Y := v48.toInt) rfl rfl (by omega) (by omega) (by omega)
              have e54 := rd_un (i := v38) (j := v48) (v := x5) e44 (X := v38.toInt) (Y := v48.toInt) rfl rfl (by omega) (by omega) (by omega)
              have e55 : x5 = (upd (upd (upd (upd F20 (v15 : Int32).toNatClampNeg x2) (v29 : Int32).toNatClampNeg x3) (v38 : Int32).toNatClampNeg x4) (v48 : Int32).toNatClampNeg x5) (v48 : Int32).toNatClampNeg := rd_us
              refine lv_aload_n hx hb dX12_pump_119 rfl (lv_at hl 1 rfl) ?_
              refine gmA hx hb hts inT12 hown hK hI List.not_mem_nil hG0 3 (by decide) (hts _ (tb_c wd_1236)) rfl rfl dX12_pump_120 (fun a56 hq57 hf58 => ?_)
              obtain rfl := fr.uniq (by decide) hf19 hf58
              refine lv_iload hx hb dX12_pump_123 (lv_at hl 0 rfl) ?_
              refine lv_iconst (v := 4) hx hb dX12_pump_125 (by decide) ?_
              refine lv_iadd hx hb dX12_pump_126 ?_
              refine lv_topi (fun v59 e60 => ?_)
              have tv59 : v59.toInt = v15.toInt + (4) := iv_add rfl (by decide) e60 (by omega) (by omega)
              refine lv_iload hx hb dX12_pump_127 (lv_at hl 7 rfl) ?_
              refine th_iast hx hb hK hA50 0 rfl hS ⟨_, hq18⟩ (iv_in (X := v59.toInt) rfl (by omega) (by omega)) dX12_pump_129 (fun H locs hA61 oq hS => ?_)
              have hP62 := kOk.set (i := v59) (v := x6) hP51 (X := v59.toInt) (V := x6.toInt) rfl rfl (by omega) (by omega) (ks_pumps (by omega) (by omega) (by omega))
              have hI := th_I.put hI hq18 hA61 (ok_m1 hP62) oq
              have hf19 := fr.arr hG0 hq18 (by decide) oq hf19
              have e63 := rd_un (i := v15) (j := v59) (v := x6) e52 (X := v15.toInt) (Y := v59.toInt) rfl rfl (by omega) (by omega) (by omega)
              have e64 := rd_un (i := v29) (j := v59) (v := x6) e53 (X := v29.toInt) (Y := v59.toInt) rfl rfl (by omega) (by omega) (by omega)
              have e65 := rd_un (i := v38) (j := v59) (v := x6) e54 (X := v38.toInt) (Y := v59.toInt) rfl rfl (by omega) (by omega) (by omega)
              have e66 := rd_un (i := v48) (j := v59) (v := x6) e55 (X := v48.toInt) (Y := v59.toInt) rfl rfl (by omega) (by omega) (by omega)
              have e67 : x6 = (upd (upd (upd (upd (upd F20 (v15 : Int32).toNatClampNeg x2) (v29 : Int32).toNatClampNeg x3) (v38 : Int32).toNatClampNeg x4) (v48 : Int32).toNatClampNeg x5) (v59 : Int32).toNatClampNeg x6) (v59 : Int32).toNatClampNeg := rd_us
              refine lv_aload_n hx hb dX12_pump_130 rfl (lv_at hl 1 rfl) ?_
              refine lv_iconst (v := 0) hx hb dX12_pump_131 (by decide) ?_
              refine mx_i (As := [.int 0]) (rest := []) (n := 1) (d := 0) ⟨hx, hb, hml, hown, hts⟩ (c_X12_good l E D G h0 hG0 0) wd_1402 wd_1404 wp_41 wd_13 wd_1405 (by decide +kernel) ⟨by rw [hR]; exact Nat.le_of_ble_eq_true rfl, by rw [hR]; exact Nat.le_of_ble_eq_true rfl⟩ hI hN hK hS hG0 (trivial) rfl hl.1 rfl (Nat.le_of_ble_eq_true rfl) dX12_pump_132 ⟨Nat.zero_le _, Nat.zero_le _⟩ (fun r68 H locs hI hp hS => ?_)
              obtain rfl := hp.symm
              have hpost : ((0 : Int32) = -1 ∧ ¬ (rg x2 0 23 ∧ rg x3 0 23 ∧ x2.toInt ≤ x3.toInt ∧ rg x4 0 23 ∧ rg x5 0 23 ∧ rg x6 0 6)) ∨ ((0 : Int32) = -2 ∧ (rg x2 0 23 ∧ rg x3 0 23 ∧ x2.toInt ≤ x3.toInt ∧ rg x4 0 23 ∧ rg x5 0 23 ∧ rg x6 0 6) ∧ ¬ rg x1 0 1) ∨ ((0 : Int32) = 0 ∧ (rg x2 0 23 ∧ rg x3 0 23 ∧ x2.toInt ≤ x3.toInt ∧ rg x4 0 23 ∧ rg x5 0 23 ∧ rg x6 0 6) ∧ rg x1 0 1) := by first | exact Or.inl ⟨rfl, by simp only [rg]; omega⟩ | exact Or.inr (Or.inl ⟨rfl, by simp only [rg]; omega⟩) | exact Or.inr (Or.inr ⟨rfl, by simp only [rg]; omega⟩)
              rw [hQ]
              exact W.iret (v := 0) hx hb hr (fun t ht hW => ⟨⟨0, 0, rfl, rfl, ⟨by rw [ht]; exact hI, hN.warm hW, va_K.moved hW.alike hK⟩, by first | (rw [ht]; exact hpost) | exact hpost⟩, hS.F ht⟩) hS.2.2 dX12_pump_135
            · skip
              try simp only [rg, not_and, Int.not_le] at hp
              have hp69 := hp
              try rw [show (0 : Int32).toInt = 0 from by decide] at hp69
              try rw [show (1 : Int32).toInt = 1 from by decide] at hp69
              refine lv_if_ne (tgt := 72) hx hb dX12_pump_62 (by decide) (fun c => absurd c (by decide)) (fun _ => ?_)
              refine lv_aload_n hx hb dX12_pump_65 rfl (lv_at hl 0 rfl) ?_
              refine lv_bipush (v := (-2)) hx hb dX12_pump_66 (by decide) ?_
              refine mx_i (As := [.int (-2)]) (rest := []) (n := 1) (d := 0) ⟨hx, hb, hml, hown, hts⟩ (c_X12_refuses l E D G h0 hG0 (-2) ⟨by decide, by decide⟩) wd_1398 wd_1400 wp_40 wd_13 wd_1401 (by decide +kernel) ⟨by rw [hR]; exact Nat.le_of_ble_eq_true rfl, by rw [hR]; exact Nat.le_of_ble_eq_true rfl⟩ hI hN hK hS hG0 (trivial) rfl hl.1 rfl (Nat.le_of_ble_eq_true rfl) dX12_pump_68 ⟨Nat.zero_le _, Nat.zero_le _⟩ (fun r70 H locs hI hp hS => ?_)
              obtain rfl := hp.symm
              have hpost : (((-2) : Int32) = -1 ∧ ¬ (rg x2 0 23 ∧ rg x3 0 23 ∧ x2.toInt ≤ x3.toInt ∧ rg x4 0 23 ∧ rg x5 0 23 ∧ rg x6 0 6)) ∨ (((-2) : Int32) = -2 ∧ (rg x2 0 23 ∧ rg x3 0 23 ∧ x2.toInt ≤ x3.toInt ∧ rg x4 0 23 ∧ rg x5 0 23 ∧ rg x6 0 6) ∧ ¬ rg x1 0 1) ∨ (((-2) : Int32) = 0 ∧ (rg x2 0 23 ∧ rg x3 0 23 ∧ x2.toInt ≤ x3.toInt ∧ rg x4 0 23 ∧ rg x5 0 23 ∧ rg x6 0 6) ∧ rg x1 0 1) := by first | exact Or.inl ⟨rfl, by simp only [rg]; omega⟩ | exact Or.inr (Or.inl ⟨rfl, by simp only [rg]; omega⟩) | exact Or.inr (Or.inr ⟨rfl, by simp only [rg]; omega⟩)
              rw [hQ]
              exact W.iret (v := (-2)) hx hb hr (fun t ht hW => ⟨⟨(-2), (-2), rfl, rfl, ⟨by rw [ht]; exact hI, hN.warm hW, va_K.moved hW.alike hK⟩, by first | (rw [ht]; exact hpost) | exact hpost⟩, hS.F ht⟩) hS.2.2 dX12_pump_71
          · skip
            try simp only [rg, not_and, Int.not_le] at hp
            have hp71 := hp
            try rw [show (0 : Int32).toInt = 0 from by decide] at hp71
            try rw [show (6 : Int32).toInt = 6 from by decide] at hp71
            refine lv_if_ne (tgt := 56) hx hb dX12_pump_47 (by decide) (fun c => absurd c (by decide)) (fun _ => ?_)
            refine lv_aload_n hx hb dX12_pump_50 rfl (lv_at hl 0 rfl) ?_
            refine lv_iconst (v := (-1)) hx hb dX12_pump_51 (by decide) ?_
            refine mx_i (As := [.int (-1)]) (rest := []) (n := 1) (d := 0) ⟨hx, hb, hml, hown, hts⟩ (c_X12_refuses l E D G h0 hG0 (-1) ⟨by decide, by decide⟩) wd_1398 wd_1400 wp_40 wd_13 wd_1401 (by decide +kernel) ⟨by rw [hR]; exact Nat.le_of_ble_eq_true rfl, by rw [hR]; exact Nat.le_of_ble_eq_true rfl⟩ hI hN hK hS hG0 (trivial) rfl hl.1 rfl (Nat.le_of_ble_eq_true rfl) dX12_pump_52 ⟨Nat.zero_le _, Nat.zero_le _⟩ (fun r72 H locs hI hp hS => ?_)
            obtain rfl := hp.symm
            have hpost : (((-1) : Int32) = -1 ∧ ¬ (rg x2 0 23 ∧ rg x3 0 23 ∧ x2.toInt ≤ x3.toInt ∧ rg x4 0 23 ∧ rg x5 0 23 ∧ rg x6 0 6)) ∨ (((-1) : Int32) = -2 ∧ (rg x2 0 23 ∧ rg x3 0 23 ∧ x2.toInt ≤ x3.toInt ∧ rg x4 0 23 ∧ rg x5 0 23 ∧ rg x6 0 6) ∧ ¬ rg x1 0 1) ∨ (((-1) : Int32) = 0 ∧ (rg x2 0 23 ∧ rg x3 0 23 ∧ x2.toInt ≤ x3.toInt ∧ rg x4 0 23 ∧ rg x5 0 23 ∧ rg x6 0 6) ∧ rg x1 0 1) := by first | exact Or.inl ⟨rfl, by simp only [rg]; omega⟩ | exact Or.inr (Or.inl ⟨rfl, by simp only [rg]; omega⟩) | exact Or.inr (Or.inr ⟨rfl, by simp only [rg]; omega⟩)
            rw [hQ]
            exact W.iret (v := (-1)) hx hb hr (fun t ht hW => ⟨⟨(-1), (-1), rfl, rfl, ⟨by rw [ht]; exact hI, hN.warm hW, va_K.moved hW.alike hK⟩, by first | (rw [ht]; exact hpost) | exact hpost⟩, hS.F ht⟩) hS.2.2 dX12_pump_55
        · skip
          try simp only [rg, not_and, Int.not_le] at hp
          have hp73 := hp
          try rw [show (0 : Int32).toInt = 0 from by decide] at hp73
          try rw [show (23 : Int32).toInt = 23 from by decide] at hp73
          refine lv_if_eq (tgt := 50) hx hb dX12_pump_36 (by decide) (fun _ => ?_) (fun c => absurd c (by decide))
          refine lv_aload_n hx hb dX12_pump_50 rfl (lv_at hl 0 rfl) ?_
          refine lv_iconst (v := (-1)) hx hb dX12_pump_51 (by decide) ?_
          refine mx_i (As := [.int (-1)]) (rest := []) (n := 1) (d := 0) ⟨hx, hb, hml, hown, hts⟩ (c_X12_refuses l E D G h0 hG0 (-1) ⟨by decide, by decide⟩) wd_1398 wd_1400 wp_40 wd_13 wd_1401 (by decide +kernel) ⟨by rw [hR]; exact Nat.le_of_ble_eq_true rfl, by rw [hR]; exact Nat.le_of_ble_eq_true rfl⟩ hI hN hK hS hG0 (trivial) rfl hl.1 rfl (Nat.le_of_ble_eq_true rfl) dX12_pump_52 ⟨Nat.zero_le _, Nat.zero_le _⟩ (fun r74 H locs hI hp hS => ?_)
          obtain rfl := hp.symm
          have hpost : (((-1) : Int32) = -1 ∧ ¬ (rg x2 0 23 ∧ rg x3 0 23 ∧ x2.toInt ≤ x3.toInt ∧ rg x4 0 23 ∧ rg x5 0 23 ∧ rg x6 0 6)) ∨ (((-1) : Int32) = -2 ∧ (rg x2 0 23 ∧ rg x3 0 23 ∧ x2.toInt ≤ x3.toInt ∧ rg x4 0 23 ∧ rg x5 0 23 ∧ rg x6 0 6) ∧ ¬ rg x1 0 1) ∨ (((-1) : Int32) = 0 ∧ (rg x2 0 23 ∧ rg x3 0 23 ∧ x2.toInt ≤ x3.toInt ∧ rg x4 0 23 ∧ rg x5 0 23 ∧ rg x6 0 6) ∧ rg x1 0 1) := by first | exact Or.inl ⟨rfl, by simp only [rg]; omega⟩ | exact Or.inr (Or.inl ⟨rfl, by simp only [rg]; omega⟩) | exact Or.inr (Or.inr ⟨rfl, by simp only [rg]; omega⟩)
          rw [hQ]
          exact W.iret (v := (-1)) hx hb hr (fun t ht hW => ⟨⟨(-1), (-1), rfl, rfl, ⟨by rw [ht]; exact hI, hN.warm hW, va_K.moved hW.alike hK⟩, by first | (rw [ht]; exact hpost) | exact hpost⟩, hS.F ht⟩) hS.2.2 dX12_pump_55
      · skip
        try simp only [rg, not_and, Int.not_le] at hp
        have hp75 := hp
        try rw [show (0 : Int32).toInt = 0 from by decide] at hp75
        try rw [show (23 : Int32).toInt = 23 from by decide] at hp75
        refine lv_if_eq (tgt := 50) hx hb dX12_pump_25 (by decide) (fun _ => ?_) (fun c => absurd c (by decide))
        refine lv_aload_n hx hb dX12_pump_50 rfl (lv_at hl 0 rfl) ?_
        refine lv_iconst (v := (-1)) hx hb dX12_pump_51 (by decide) ?_
        refine mx_i (As := [.int (-1)]) (rest := []) (n := 1) (d := 0) ⟨hx, hb, hml, hown, hts⟩ (c_X12_refuses l E D G h0 hG0 (-1) ⟨by decide, by decide⟩) wd_1398 wd_1400 wp_40 wd_13 wd_1401 (by decide +kernel) ⟨by rw [hR]; exact Nat.le_of_ble_eq_true rfl, by rw [hR]; exact Nat.le_of_ble_eq_true rfl⟩ hI hN hK hS hG0 (trivial) rfl hl.1 rfl (Nat.le_of_ble_eq_true rfl) dX12_pump_52 ⟨Nat.zero_le _, Nat.zero_le _⟩ (fun r76 H locs hI hp hS => ?_)
        obtain rfl := hp.symm
        have hpost : (((-1) : Int32) = -1 ∧ ¬ (rg x2 0 23 ∧ rg x3 0 23 ∧ x2.toInt ≤ x3.toInt ∧ rg x4 0 23 ∧ rg x5 0 23 ∧ rg x6 0 6)) ∨ (((-1) : Int32) = -2 ∧ (rg x2 0 23 ∧ rg x3 0 23 ∧ x2.toInt ≤ x3.toInt ∧ rg x4 0 23 ∧ rg x5 0 23 ∧ rg x6 0 6) ∧ ¬ rg x1 0 1) ∨ (((-1) : Int32) = 0 ∧ (rg x2 0 23 ∧ rg x3 0 23 ∧ x2.toInt ≤ x3.toInt ∧ rg x4 0 23 ∧ rg x5 0 23 ∧ rg x6 0 6) ∧ rg x1 0 1) := by first | exact Or.inl ⟨rfl, by simp only [rg]; omega⟩ | exact Or.inr (Or.inl ⟨rfl, by simp only [rg]; omega⟩) | exact Or.inr (Or.inr ⟨rfl, by simp only [rg]; omega⟩)
        rw [hQ]
        exact W.iret (v := (-1)) hx hb hr (fun t ht hW => ⟨⟨(-1), (-1), rfl, rfl, ⟨by rw [ht]; exact hI, hN.warm hW, va_K.moved hW.alike hK⟩, by first | (rw [ht]; exact hpost) | exact hpost⟩, hS.F ht⟩) hS.2.2 dX12_pump_55
    · skip
      try simp only [rg, not_and, Int.not_le] at hp
      have hp77 := hp
      try rw [show (23 : Int32).toInt = 23 from by decide] at hp77
      refine lv_if_eq (tgt := 50) hx hb dX12_pump_14 (by decide) (fun _ => ?_) (fun c => absurd c (by decide))
      refine lv_aload_n hx hb dX12_pump_50 rfl (lv_at hl 0 rfl) ?_
      refine lv_iconst (v := (-1)) hx hb dX12_pump_51 (by decide) ?_
      refine mx_i (As := [.int (-1)]) (rest := []) (n := 1) (d := 0) ⟨hx, hb, hml, hown, hts⟩ (c_X12_refuses l E D G h0 hG0 (-1) ⟨by decide, by decide⟩) wd_1398 wd_1400 wp_40 wd_13 wd_1401 (by decide +kernel) ⟨by rw [hR]; exact Nat.le_of_ble_eq_true rfl, by rw [hR]; exact Nat.le_of_ble_eq_true rfl⟩ hI hN hK hS hG0 (trivial) rfl hl.1 rfl (Nat.le_of_ble_eq_true rfl) dX12_pump_52 ⟨Nat.zero_le _, Nat.zero_le _⟩ (fun r78 H locs hI hp hS => ?_)
      obtain rfl := hp.symm
      have hpost : (((-1) : Int32) = -1 ∧ ¬ (rg x2 0 23 ∧ rg x3 0 23 ∧ x2.toInt ≤ x3.toInt ∧ rg x4 0 23 ∧ rg x5 0 23 ∧ rg x6 0 6)) ∨ (((-1) : Int32) = -2 ∧ (rg x2 0 23 ∧ rg x3 0 23 ∧ x2.toInt ≤ x3.toInt ∧ rg x4 0 23 ∧ rg x5 0 23 ∧ rg x6 0 6) ∧ ¬ rg x1 0 1) ∨ (((-1) : Int32) = 0 ∧ (rg x2 0 23 ∧ rg x3 0 23 ∧ x2.toInt ≤ x3.toInt ∧ rg x4 0 23 ∧ rg x5 0 23 ∧ rg x6 0 6) ∧ rg x1 0 1) := by first | exact Or.inl ⟨rfl, by simp only [rg]; omega⟩ | exact Or.inr (Or.inl ⟨rfl, by simp only [rg]; omega⟩) | exact Or.inr (Or.inr ⟨rfl, by simp only [rg]; omega⟩)
      rw [hQ]
      exact W.iret (v := (-1)) hx hb hr (fun t ht hW => ⟨⟨(-1), (-1), rfl, rfl, ⟨by rw [ht]; exact hI, hN.warm hW, va_K.moved hW.alike hK⟩, by first | (rw [ht]; exact hpost) | exact hpost⟩, hS.F ht⟩) hS.2.2 dX12_pump_55
  · skip
    try simp only [rg, not_and, Int.not_le] at hp
    have hp79 := hp
    refine lv_if_eq (tgt := 50) hx hb dX12_pump_4 (by decide) (fun _ => ?_) (fun c => absurd c (by decide))
    refine lv_aload_n hx hb dX12_pump_50 rfl (lv_at hl 0 rfl) ?_
    refine lv_iconst (v := (-1)) hx hb dX12_pump_51 (by decide) ?_
    refine mx_i (As := [.int (-1)]) (rest := []) (n := 1) (d := 0) ⟨hx, hb, hml, hown, hts⟩ (c_X12_refuses l E D G h0 hG0 (-1) ⟨by decide, by decide⟩) wd_1398 wd_1400 wp_40 wd_13 wd_1401 (by decide +kernel) ⟨by rw [hR]; exact Nat.le_of_ble_eq_true rfl, by rw [hR]; exact Nat.le_of_ble_eq_true rfl⟩ hI hN hK hS hG0 (trivial) rfl hl.1 rfl (Nat.le_of_ble_eq_true rfl) dX12_pump_52 ⟨Nat.zero_le _, Nat.zero_le _⟩ (fun r80 H locs hI hp hS => ?_)
    obtain rfl := hp.symm
    have hpost : (((-1) : Int32) = -1 ∧ ¬ (rg x2 0 23 ∧ rg x3 0 23 ∧ x2.toInt ≤ x3.toInt ∧ rg x4 0 23 ∧ rg x5 0 23 ∧ rg x6 0 6)) ∨ (((-1) : Int32) = -2 ∧ (rg x2 0 23 ∧ rg x3 0 23 ∧ x2.toInt ≤ x3.toInt ∧ rg x4 0 23 ∧ rg x5 0 23 ∧ rg x6 0 6) ∧ ¬ rg x1 0 1) ∨ (((-1) : Int32) = 0 ∧ (rg x2 0 23 ∧ rg x3 0 23 ∧ x2.toInt ≤ x3.toInt ∧ rg x4 0 23 ∧ rg x5 0 23 ∧ rg x6 0 6) ∧ rg x1 0 1) := by first | exact Or.inl ⟨rfl, by simp only [rg]; omega⟩ | exact Or.inr (Or.inl ⟨rfl, by simp only [rg]; omega⟩) | exact Or.inr (Or.inr ⟨rfl, by simp only [rg]; omega⟩)
    rw [hQ]
    exact W.iret (v := (-1)) hx hb hr (fun t ht hW => ⟨⟨(-1), (-1), rfl, rfl, ⟨by rw [ht]; exact hI, hN.warm hW, va_K.moved hW.alike hK⟩, by first | (rw [ht]; exact hpost) | exact hpost⟩, hS.F ht⟩) hS.2.2 dX12_pump_55
theorem dX12_of_0g : (decode cX12_of 0 = .ok (.iload_n 1, 1)) ∧ (decode cX12_of 1 = .ok (.iconst 0, 1)) ∧ (decode cX12_of 2 = .ok (.iconst 1, 1)) ∧ (decode cX12_of 3 = .ok (.invokestatic 103, 3)) ∧ (decode cX12_of 6 = .ok (.ifCond .eq 27, 3)) ∧ (decode cX12_of 9 = .ok (.iload_n 2, 1)) ∧ (decode cX12_of 10 = .ok (.iconst 0, 1)) ∧ (decode cX12_of 11 = .ok (.iconst 4, 1)) ∧ (decode cX12_of 12 = .ok (.invokestatic 103, 3)) ∧ (decode cX12_of 15 = .ok (.ifCond .eq 18, 3)) := by decide +kernel
theorem dX12_of_0 : decode cX12_of 0 = .ok (.iload_n 1, 1) := dX12_of_0g.1
theorem dX12_of_1 : decode cX12_of 1 = .ok (.iconst 0, 1) := dX12_of_0g.2.1
theorem dX12_of_2 : decode cX12_of 2 = .ok (.iconst 1, 1) := dX12_of_0g.2.2.1
theorem dX12_of_3 : decode cX12_of 3 = .ok (.invokestatic 103, 3) := dX12_of_0g.2.2.2.1
theorem dX12_of_6 : decode cX12_of 6 = .ok (.ifCond .eq 27, 3) := dX12_of_0g.2.2.2.2.1
theorem dX12_of_9 : decode cX12_of 9 = .ok (.iload_n 2, 1) := dX12_of_0g.2.2.2.2.2.1
theorem dX12_of_10 : decode cX12_of 10 = .ok (.iconst 0, 1) := dX12_of_0g.2.2.2.2.2.2.1
theorem dX12_of_11 : decode cX12_of 11 = .ok (.iconst 4, 1) := dX12_of_0g.2.2.2.2.2.2.2.1
theorem dX12_of_12 : decode cX12_of 12 = .ok (.invokestatic 103, 3) := dX12_of_0g.2.2.2.2.2.2.2.2.1
theorem dX12_of_15 : decode cX12_of 15 = .ok (.ifCond .eq 18, 3) := dX12_of_0g.2.2.2.2.2.2.2.2.2
theorem dX12_of_18g : (decode cX12_of 18 = .ok (.aload_n 0, 1)) ∧ (decode cX12_of 19 = .ok (.getfield 20, 3)) ∧ (decode cX12_of 22 = .ok (.iconst 0, 1)) ∧ (decode cX12_of 23 = .ok (.iconst 5, 1)) ∧ (decode cX12_of 24 = .ok (.iload_n 1, 1)) ∧ (decode cX12_of 25 = .ok (.imul, 1)) ∧ (decode cX12_of 26 = .ok (.iadd, 1)) ∧ (decode cX12_of 27 = .ok (.iload_n 2, 1)) ∧ (decode cX12_of 28 = .ok (.iadd, 1)) ∧ (decode cX12_of 29 = .ok (.iaload, 1)) := by decide +kernel
theorem dX12_of_18 : decode cX12_of 18 = .ok (.aload_n 0, 1) := dX12_of_18g.1
theorem dX12_of_19 : decode cX12_of 19 = .ok (.getfield 20, 3) := dX12_of_18g.2.1
theorem dX12_of_22 : decode cX12_of 22 = .ok (.iconst 0, 1) := dX12_of_18g.2.2.1
theorem dX12_of_23 : decode cX12_of 23 = .ok (.iconst 5, 1) := dX12_of_18g.2.2.2.1
theorem dX12_of_24 : decode cX12_of 24 = .ok (.iload_n 1, 1) := dX12_of_18g.2.2.2.2.1
theorem dX12_of_25 : decode cX12_of 25 = .ok (.imul, 1) := dX12_of_18g.2.2.2.2.2.1
theorem dX12_of_26 : decode cX12_of 26 = .ok (.iadd, 1) := dX12_of_18g.2.2.2.2.2.2.1
theorem dX12_of_27 : decode cX12_of 27 = .ok (.iload_n 2, 1) := dX12_of_18g.2.2.2.2.2.2.2.1
theorem dX12_of_28 : decode cX12_of 28 = .ok (.iadd, 1) := dX12_of_18g.2.2.2.2.2.2.2.2.1
theorem dX12_of_29 : decode cX12_of 29 = .ok (.iaload, 1) := dX12_of_18g.2.2.2.2.2.2.2.2.2
theorem dX12_of_30g : (decode cX12_of 30 = .ok (.goto 4, 3)) ∧ (decode cX12_of 33 = .ok (.iconst (-1), 1)) ∧ (decode cX12_of 34 = .ok (.ireturn, 1)) := by decide +kernel
theorem dX12_of_30 : decode cX12_of 30 = .ok (.goto 4, 3) := dX12_of_30g.1
theorem dX12_of_33 : decode cX12_of 33 = .ok (.iconst (-1), 1) := dX12_of_30g.2.1
theorem dX12_of_34 : decode cX12_of 34 = .ok (.ireturn, 1) := dX12_of_30g.2.2
set_option maxHeartbeats 4000000 in
set_option maxRecDepth 100000 in
theorem c_X12_of (l : Launch) (E : Nat → Nat) (D : va_G) (G : th_G) (h0 : Nat) (hG0 : G h0 = some (10, 0)) (x1 : Int32) (x2 : Int32) : Met l yX12_of (tb (.code yX12_of cX12_of 3 (some .int))) (rm 1) (va_Pc [.ref h0, .int x1, .int x2] (PX E D G (fun H => True))) (QXi E D G (fun r H => True)) 0 0 (th_A G) := by
  refine Met.ofW (cc := cX12_of) (maxL := 3) (ret := (some .int)) (by decide) rfl ?_
  intro p e s m args below meth c s₁ B hml hv
  obtain ⟨hav, ⟨hI, hN, hK⟩, hX⟩ := hv
  have hx := B.exec
  have hb := B.bytes
  have hr := B.returns
  have hts := atoms_spec (ws := tb (.code yX12_of cX12_of 3 (some .int))) B.pre
  have hown : s.vm.findClass RX12 = some m.cls := findClass_of_methodNamed B.named
  have hlocks := B.notSynchronized
  have hS : va_S (th_A G) s.heap s.heap [] := va_S.rf
  have hl := lv_entry ([.ref h0, .int x1, .int x2]) (n := 3) (Nat.le_of_ble_eq_true rfl)
  rw [show entryFrame m args 3 = entryFrame m ([.ref h0, .int x1, .int x2] : List Value).toArray 3 from by rw [hav], lg_entry_eq]
  generalize (lg_sl ([.ref h0, .int x1, .int x2]) ++ List.replicate (3 - (lg_sl ([.ref h0, .int x1, .int x2])).length) Slot.unset).toArray = ls at hl ⊢
  have hl : lv_has ls 3 [(0, .ref h0), (1, .int x1), (2, .int x2)] := hl
  generalize hR : (headSpec (tb (.code yX12_of cX12_of 3 (some .int))) (rm 1)).room = R
  have hR := hR.symm
  generalize hQ : MQ below (QXi E D G (fun r H => True)) args s 0 0 (th_A G) = QF
  have hQ := hQ.symm
  refine lv_iload_n hx hb dX12_of_0 rfl (lv_at hl 1 rfl) ?_
  refine lv_iconst (v := 0) hx hb dX12_of_1 (by decide) ?_
  refine lv_iconst (v := 1) hx hb dX12_of_2 (by decide) ?_
  refine th_cSs (As := [.int x1, .int 0, .int 1]) (rest := []) (n := 3) (d := 0) ⟨hx, hb, hml, hown, hts⟩ (c_X12_lies l s.heap x1 0 1) wd_1395 wd_1396 wd_13 wd_1397 (by decide +kernel) ⟨by rw [hR]; exact Nat.le_of_ble_eq_true rfl, by rw [hR]; exact Nat.le_of_ble_eq_true rfl⟩ hN hS rfl hl.1 rfl (Nat.le_of_ble_eq_true rfl) dX12_of_3 ⟨Nat.zero_le _, Nat.zero_le _⟩ (fun r1 locs hp hS => ?_)
  rcases hp with ⟨rfl, hp⟩ | ⟨rfl, hp⟩
  · skip
    try simp only [rg, not_and, Int.not_le] at hp
    have hp2 := hp
    try rw [show (0 : Int32).toInt = 0 from by decide] at hp2
    try rw [show (1 : Int32).toInt = 1 from by decide] at hp2
    refine lv_if_eq (tgt := 33) hx hb dX12_of_6 (by decide) (fun c => absurd c (by decide)) (fun _ => ?_)
    refine lv_iload_n hx hb dX12_of_9 rfl (lv_at hl 2 rfl) ?_
    refine lv_iconst (v := 0) hx hb dX12_of_10 (by decide) ?_
    refine lv_iconst (v := 4) hx hb dX12_of_11 (by decide) ?_
    refine th_cSs (As := [.int x2, .int 0, .int 4]) (rest := []) (n := 3) (d := 0) ⟨hx, hb, hml, hown, hts⟩ (c_X12_lies l s.heap x2 0 4) wd_1395 wd_1396 wd_13 wd_1397 (by decide +kernel) ⟨by rw [hR]; exact Nat.le_of_ble_eq_true rfl, by rw [hR]; exact Nat.le_of_ble_eq_true rfl⟩ hN hS rfl hl.1 rfl (Nat.le_of_ble_eq_true rfl) dX12_of_12 ⟨Nat.zero_le _, Nat.zero_le _⟩ (fun r3 locs hp hS => ?_)
    rcases hp with ⟨rfl, hp⟩ | ⟨rfl, hp⟩
    · skip
      try simp only [rg, not_and, Int.not_le] at hp
      have hp4 := hp
      try rw [show (0 : Int32).toInt = 0 from by decide] at hp4
      try rw [show (4 : Int32).toInt = 4 from by decide] at hp4
      refine lv_if_eq (tgt := 33) hx hb dX12_of_15 (by decide) (fun c => absurd c (by decide)) (fun _ => ?_)
      refine lv_aload_n hx hb dX12_of_18 rfl (lv_at hl 0 rfl) ?_
      refine gmA hx hb hts inT12 hown hK hI List.not_mem_nil hG0 3 (by decide) (hts _ (tb_c wd_1236)) rfl rfl dX12_of_19 (fun a5 hq6 hf7 => ?_)
      refine lv_iconst (v := 0) hx hb dX12_of_22 (by decide) ?_
      refine lv_iconst (v := 5) hx hb dX12_of_23 (by decide) ?_
      refine lv_iload_n hx hb dX12_of_24 rfl (lv_at hl 1 rfl) ?_
      refine lv_imul hx hb dX12_of_25 ?_
      refine lv_topi (fun v8 e9 => ?_)
      have tv8 : v8.toInt = (5) * x1.toInt := iv_mul (by decide) rfl e9 (by omega) (by omega)
      refine lv_iadd hx hb dX12_of_26 ?_
      refine lv_topi (fun v10 e11 => ?_)
      have tv10 : v10.toInt = (0) + v8.toInt := iv_add (by decide) rfl e11 (by omega) (by omega)
      refine lv_iload_n hx hb dX12_of_27 rfl (lv_at hl 2 rfl) ?_
      refine lv_iadd hx hb dX12_of_28 ?_
      refine lv_topi (fun v12 e13 => ?_)
      have tv12 : v12.toInt = v10.toInt + x2.toInt := iv_add rfl rfl e13 (by omega) (by omega)
      obtain ⟨F14, hA15, hP16⟩ := om_1 hI hq6 List.not_mem_nil
      refine th_iald hx hb hK hA15 0 rfl (iv_in (X := v12.toInt) rfl (by omega) (by omega)) dX12_of_29 (fun v17 e18 => ?_)
      refine lv_goto (tgt := 34) hx hb dX12_of_30 (by decide) ?_
      have hpost : True := trivial
      rw [hQ]
      exact W.iret (v := v17) hx hb hr (fun t ht hW => ⟨⟨v17, v17, rfl, rfl, ⟨by rw [ht]; exact hI, hN.warm hW, va_K.moved hW.alike hK⟩, by first | (rw [ht]; exact hpost) | exact hpost⟩, hS.F ht⟩) hS.2.2 dX12_of_34
    · skip
      try simp only [rg, not_and, Int.not_le] at hp
      have hp19 := hp
      try rw [show (0 : Int32).toInt = 0 from by decide] at hp19
      try rw [show (4 : Int32).toInt = 4 from by decide] at hp19
      refine lv_if_eq (tgt := 33) hx hb dX12_of_15 (by decide) (fun _ => ?_) (fun c => absurd c (by decide))
      refine lv_iconst (v := (-1)) hx hb dX12_of_33 (by decide) ?_
      have hpost : True := trivial
      rw [hQ]
      exact W.iret (v := (-1)) hx hb hr (fun t ht hW => ⟨⟨(-1), (-1), rfl, rfl, ⟨by rw [ht]; exact hI, hN.warm hW, va_K.moved hW.alike hK⟩, by first | (rw [ht]; exact hpost) | exact hpost⟩, hS.F ht⟩) hS.2.2 dX12_of_34
  · skip
    try simp only [rg, not_and, Int.not_le] at hp
    have hp20 := hp
    try rw [show (0 : Int32).toInt = 0 from by decide] at hp20
    try rw [show (1 : Int32).toInt = 1 from by decide] at hp20
    refine lv_if_eq (tgt := 33) hx hb dX12_of_6 (by decide) (fun _ => ?_) (fun c => absurd c (by decide))
    refine lv_iconst (v := (-1)) hx hb dX12_of_33 (by decide) ?_
    have hpost : True := trivial
    rw [hQ]
    exact W.iret (v := (-1)) hx hb hr (fun t ht hW => ⟨⟨(-1), (-1), rfl, rfl, ⟨by rw [ht]; exact hI, hN.warm hW, va_K.moved hW.alike hK⟩, by first | (rw [ht]; exact hpost) | exact hpost⟩, hS.F ht⟩) hS.2.2 dX12_of_34
theorem dX12_strike_0g : (decode cX12_strike 0 = .ok (.iload_n 1, 1)) ∧ (decode cX12_strike 1 = .ok (.iload_n 2, 1)) ∧ (decode cX12_strike 2 = .ok (.invokestatic 121, 3)) ∧ (decode cX12_strike 5 = .ok (.ifCond .eq 12, 3)) ∧ (decode cX12_strike 8 = .ok (.iload_n 3, 1)) ∧ (decode cX12_strike 9 = .ok (.iconst 0, 1)) ∧ (decode cX12_strike 10 = .ok (.iconst 1, 1)) ∧ (decode cX12_strike 11 = .ok (.invokestatic 103, 3)) ∧ (decode cX12_strike 14 = .ok (.ifCond .ne 9, 3)) ∧ (decode cX12_strike 17 = .ok (.aload_n 0, 1)) := by decide +kernel
theorem dX12_strike_0 : decode cX12_strike 0 = .ok (.iload_n 1, 1) := dX12_strike_0g.1
theorem dX12_strike_1 : decode cX12_strike 1 = .ok (.iload_n 2, 1) := dX12_strike_0g.2.1
theorem dX12_strike_2 : decode cX12_strike 2 = .ok (.invokestatic 121, 3) := dX12_strike_0g.2.2.1
theorem dX12_strike_5 : decode cX12_strike 5 = .ok (.ifCond .eq 12, 3) := dX12_strike_0g.2.2.2.1
theorem dX12_strike_8 : decode cX12_strike 8 = .ok (.iload_n 3, 1) := dX12_strike_0g.2.2.2.2.1
theorem dX12_strike_9 : decode cX12_strike 9 = .ok (.iconst 0, 1) := dX12_strike_0g.2.2.2.2.2.1
theorem dX12_strike_10 : decode cX12_strike 10 = .ok (.iconst 1, 1) := dX12_strike_0g.2.2.2.2.2.2.1
theorem dX12_strike_11 : decode cX12_strike 11 = .ok (.invokestatic 103, 3) := dX12_strike_0g.2.2.2.2.2.2.2.1
theorem dX12_strike_14 : decode cX12_strike 14 = .ok (.ifCond .ne 9, 3) := dX12_strike_0g.2.2.2.2.2.2.2.2.1
theorem dX12_strike_17 : decode cX12_strike 17 = .ok (.aload_n 0, 1) := dX12_strike_0g.2.2.2.2.2.2.2.2.2
theorem dX12_strike_18g : (decode cX12_strike 18 = .ok (.iconst (-1), 1)) ∧ (decode cX12_strike 19 = .ok (.invokevirtual 107, 3)) ∧ (decode cX12_strike 22 = .ok (.ireturn, 1)) ∧ (decode cX12_strike 23 = .ok (.iconst 0, 1)) ∧ (decode cX12_strike 24 = .ok (.istore 4, 2)) ∧ (decode cX12_strike 26 = .ok (.iload_n 1, 1)) ∧ (decode cX12_strike 27 = .ok (.istore 5, 2)) ∧ (decode cX12_strike 29 = .ok (.iload 5, 2)) ∧ (decode cX12_strike 31 = .ok (.iload_n 2, 1)) ∧ (decode cX12_strike 32 = .ok (.if_icmp .gt 44, 3)) := by decide +kernel
theorem dX12_strike_18 : decode cX12_strike 18 = .ok (.iconst (-1), 1) := dX12_strike_18g.1
theorem dX12_strike_19 : decode cX12_strike 19 = .ok (.invokevirtual 107, 3) := dX12_strike_18g.2.1
theorem dX12_strike_22 : decode cX12_strike 22 = .ok (.ireturn, 1) := dX12_strike_18g.2.2.1
theorem dX12_strike_23 : decode cX12_strike 23 = .ok (.iconst 0, 1) := dX12_strike_18g.2.2.2.1
theorem dX12_strike_24 : decode cX12_strike 24 = .ok (.istore 4, 2) := dX12_strike_18g.2.2.2.2.1
theorem dX12_strike_26 : decode cX12_strike 26 = .ok (.iload_n 1, 1) := dX12_strike_18g.2.2.2.2.2.1
theorem dX12_strike_27 : decode cX12_strike 27 = .ok (.istore 5, 2) := dX12_strike_18g.2.2.2.2.2.2.1
theorem dX12_strike_29 : decode cX12_strike 29 = .ok (.iload 5, 2) := dX12_strike_18g.2.2.2.2.2.2.2.1
theorem dX12_strike_31 : decode cX12_strike 31 = .ok (.iload_n 2, 1) := dX12_strike_18g.2.2.2.2.2.2.2.2.1
theorem dX12_strike_32 : decode cX12_strike 32 = .ok (.if_icmp .gt 44, 3) := dX12_strike_18g.2.2.2.2.2.2.2.2.2
theorem dX12_strike_35g : (decode cX12_strike 35 = .ok (.iload 4, 2)) ∧ (decode cX12_strike 37 = .ok (.aload_n 0, 1)) ∧ (decode cX12_strike 38 = .ok (.getfield 20, 3)) ∧ (decode cX12_strike 41 = .ok (.bipush 10, 2)) ∧ (decode cX12_strike 43 = .ok (.iload 5, 2)) ∧ (decode cX12_strike 45 = .ok (.iadd, 1)) ∧ (decode cX12_strike 46 = .ok (.iaload, 1)) ∧ (decode cX12_strike 47 = .ok (.iload_n 3, 1)) ∧ (decode cX12_strike 48 = .ok (.if_icmp .ne 7, 3)) ∧ (decode cX12_strike 51 = .ok (.iconst 0, 1)) := by decide +kernel
theorem dX12_strike_35 : decode cX12_strike 35 = .ok (.iload 4, 2) := dX12_strike_35g.1
theorem dX12_strike_37 : decode cX12_strike 37 = .ok (.aload_n 0, 1) := dX12_strike_35g.2.1
theorem dX12_strike_38 : decode cX12_strike 38 = .ok (.getfield 20, 3) := dX12_strike_35g.2.2.1
theorem dX12_strike_41 : decode cX12_strike 41 = .ok (.bipush 10, 2) := dX12_strike_35g.2.2.2.1
theorem dX12_strike_43 : decode cX12_strike 43 = .ok (.iload 5, 2) := dX12_strike_35g.2.2.2.2.1
theorem dX12_strike_45 : decode cX12_strike 45 = .ok (.iadd, 1) := dX12_strike_35g.2.2.2.2.2.1
theorem dX12_strike_46 : decode cX12_strike 46 = .ok (.iaload, 1) := dX12_strike_35g.2.2.2.2.2.2.1
theorem dX12_strike_47 : decode cX12_strike 47 = .ok (.iload_n 3, 1) := dX12_strike_35g.2.2.2.2.2.2.2.1
theorem dX12_strike_48 : decode cX12_strike 48 = .ok (.if_icmp .ne 7, 3) := dX12_strike_35g.2.2.2.2.2.2.2.2.1
theorem dX12_strike_51 : decode cX12_strike 51 = .ok (.iconst 0, 1) := dX12_strike_35g.2.2.2.2.2.2.2.2.2
theorem dX12_strike_52g : (decode cX12_strike 52 = .ok (.goto 4, 3)) ∧ (decode cX12_strike 55 = .ok (.iconst 1, 1)) ∧ (decode cX12_strike 56 = .ok (.iadd, 1)) ∧ (decode cX12_strike 57 = .ok (.istore 4, 2)) ∧ (decode cX12_strike 59 = .ok (.aload_n 0, 1)) ∧ (decode cX12_strike 60 = .ok (.getfield 20, 3)) ∧ (decode cX12_strike 63 = .ok (.bipush 10, 2)) ∧ (decode cX12_strike 65 = .ok (.iload 5, 2)) ∧ (decode cX12_strike 67 = .ok (.iadd, 1)) ∧ (decode cX12_strike 68 = .ok (.iload_n 3, 1)) := by decide +kernel
theorem dX12_strike_52 : decode cX12_strike 52 = .ok (.goto 4, 3) := dX12_strike_52g.1
theorem dX12_strike_55 : decode cX12_strike 55 = .ok (.iconst 1, 1) := dX12_strike_52g.2.1
theorem dX12_strike_56 : decode cX12_strike 56 = .ok (.iadd, 1) := dX12_strike_52g.2.2.1
theorem dX12_strike_57 : decode cX12_strike 57 = .ok (.istore 4, 2) := dX12_strike_52g.2.2.2.1
theorem dX12_strike_59 : decode cX12_strike 59 = .ok (.aload_n 0, 1) := dX12_strike_52g.2.2.2.2.1
theorem dX12_strike_60 : decode cX12_strike 60 = .ok (.getfield 20, 3) := dX12_strike_52g.2.2.2.2.2.1
theorem dX12_strike_63 : decode cX12_strike 63 = .ok (.bipush 10, 2) := dX12_strike_52g.2.2.2.2.2.2.1
theorem dX12_strike_65 : decode cX12_strike 65 = .ok (.iload 5, 2) := dX12_strike_52g.2.2.2.2.2.2.2.1
theorem dX12_strike_67 : decode cX12_strike 67 = .ok (.iadd, 1) := dX12_strike_52g.2.2.2.2.2.2.2.2.1
theorem dX12_strike_68 : decode cX12_strike 68 = .ok (.iload_n 3, 1) := dX12_strike_52g.2.2.2.2.2.2.2.2.2
theorem dX12_strike_69g : (decode cX12_strike 69 = .ok (.iastore, 1)) ∧ (decode cX12_strike 70 = .ok (.iinc 5 1, 3)) ∧ (decode cX12_strike 73 = .ok (.goto (-44), 3)) ∧ (decode cX12_strike 76 = .ok (.aload_n 0, 1)) ∧ (decode cX12_strike 77 = .ok (.iload 4, 2)) ∧ (decode cX12_strike 79 = .ok (.invokevirtual 111, 3)) ∧ (decode cX12_strike 82 = .ok (.ireturn, 1)) := by decide +kernel
theorem dX12_strike_69 : decode cX12_strike 69 = .ok (.iastore, 1) := dX12_strike_69g.1
theorem dX12_strike_70 : decode cX12_strike 70 = .ok (.iinc 5 1, 3) := dX12_strike_69g.2.1
theorem dX12_strike_73 : decode cX12_strike 73 = .ok (.goto (-44), 3) := dX12_strike_69g.2.2.1
theorem dX12_strike_76 : decode cX12_strike 76 = .ok (.aload_n 0, 1) := dX12_strike_69g.2.2.2.1
theorem dX12_strike_77 : decode cX12_strike 77 = .ok (.iload 4, 2) := dX12_strike_69g.2.2.2.2.1
theorem dX12_strike_79 : decode cX12_strike 79 = .ok (.invokevirtual 111, 3) := dX12_strike_69g.2.2.2.2.2.1
theorem dX12_strike_82 : decode cX12_strike 82 = .ok (.ireturn, 1) := dX12_strike_69g.2.2.2.2.2.2
set_option maxHeartbeats 4000000 in
set_option maxRecDepth 100000 in
theorem c_X12_strike (l : Launch) (E : Nat → Nat) (D : va_G) (G : th_G) (h0 : Nat) (hG0 : G h0 = some (10, 0)) (x1 : Int32) (x2 : Int32) (x3 : Int32) : Met l yX12_strike (tb (.code yX12_strike cX12_strike 6 (some .int))) (rm 3) (va_Pc [.ref h0, .int x1, .int x2, .int x3] (PX E D G (fun H => True))) (QXi E D G (fun r H => True)) 0 0 (th_A G) := by
  refine Met.ofW (cc := cX12_strike) (maxL := 6) (ret := (some .int)) (by decide) rfl ?_
  intro p e s m args below meth c s₁ B hml hv
  obtain ⟨hav, ⟨hI, hN, hK⟩, hX⟩ := hv
  have hx := B.exec
  have hb := B.bytes
  have hr := B.returns
  have hts := atoms_spec (ws := tb (.code yX12_strike cX12_strike 6 (some .int))) B.pre
  have hown : s.vm.findClass RX12 = some m.cls := findClass_of_methodNamed B.named
  have hlocks := B.notSynchronized
  have hS : va_S (th_A G) s.heap s.heap [] := va_S.rf
  have hl := lv_entry ([.ref h0, .int x1, .int x2, .int x3]) (n := 6) (Nat.le_of_ble_eq_true rfl)
  rw [show entryFrame m args 6 = entryFrame m ([.ref h0, .int x1, .int x2, .int x3] : List Value).toArray 6 from by rw [hav], lg_entry_eq]
  generalize (lg_sl ([.ref h0, .int x1, .int x2, .int x3]) ++ List.replicate (6 - (lg_sl ([.ref h0, .int x1, .int x2, .int x3])).length) Slot.unset).toArray = ls at hl ⊢
  have hl : lv_has ls 6 [(0, .ref h0), (1, .int x1), (2, .int x2), (3, .int x3)] := hl
  generalize hR : (headSpec (tb (.code yX12_strike cX12_strike 6 (some .int))) (rm 3)).room = R
  have hR := hR.symm
  generalize hQ : MQ below (QXi E D G (fun r H => True)) args s 0 0 (th_A G) = QF
  have hQ := hQ.symm
  have J_29 : ∀ (nn : Nat) (H : Heap) (locs : List Loc) (ls : Array Slot) (v2798 : Int32) (v2799 : Int32) , (Int.toNat (96 - v2798.toInt) = nn) → lv_has ls 6 [(5, .int v2798), (4, .int v2799), (0, .ref h0), (1, .int x1), (2, .int x2), (3, .int x3)] → ((0 : Int) ≤ v2798.toInt ∧ v2798.toInt ≤ 96) → ((0 : Int) ≤ x1.toInt ∧ x1.toInt ≤ 95) → ((0 : Int) ≤ x2.toInt ∧ x2.toInt ≤ 95) → ((0 : Int) ≤ x3.toInt ∧ x3.toInt ≤ 1) → th_I (okM E) D G [] H → va_S (th_A G) s.heap H locs → W p l e R s m args below meth c H locs 0 0 QF (F0 m 29 ls []) := by
    intro nn
    induction nn using Nat.strongRecOn with
    | ind nn ih_29 =>
      intro H locs ls v2798 v2799  hm hl k2800 k2801 k2802 k2803 hI hS
      have J_56 : ∀ (H : Heap) (locs : List Loc) (ls : Array Slot) (v2806 : Int32) (v2807 : Int32) , lv_has ls 6 [(5, .int v2798), (4, .int v2799), (0, .ref h0), (1, .int x1), (2, .int x2), (3, .int x3)] → ((0 : Int) ≤ v2798.toInt ∧ v2798.toInt ≤ 95) → ((0 : Int) ≤ v2806.toInt ∧ v2806.toInt ≤ 1) → th_I (okM E) D G [] H → va_S (th_A G) s.heap H locs → W p l e R s m args below meth c H locs 0 0 QF (F0 m 56 ls [.int v2806, .int v2807]) := by
        intro H locs ls v2806 v2807  hl k2808 k2809 hI hS
        refine lv_iadd hx hb dX12_strike_56 ?_
        refine lv_topi (fun v2810 e2811 => ?_)
        try have tv2810 : v2810.toInt = v2807.toInt + v2806.toInt := iv_add rfl rfl e2811 (by omega) (by omega)
        refine lv_istore (lv' := [(4, .int v2810), (5, .int v2798), (0, .ref h0), (1, .int x1), (2, .int x2), (3, .int x3)]) hx hb dX12_strike_57 hl (by decide) rfl (fun ls hl => ?_)
        refine lv_aload_n hx hb dX12_strike_59 rfl (lv_at hl 2 rfl) ?_
        refine gmA hx hb hts inT12 hown hK hI List.not_mem_nil hG0 3 (by decide) (hts _ (tb_c wd_1236)) rfl rfl dX12_strike_60 (fun a2812 hq2813 hf2814 => ?_)
        refine lv_bipush (v := 10) hx hb dX12_strike_63 (by decide) ?_
        refine lv_iload hx hb dX12_strike_65 (lv_at hl 1 rfl) ?_
        refine lv_iadd hx hb dX12_strike_67 ?_
        refine lv_topi (fun v2815 e2816 => ?_)
        have tv2815 : v2815.toInt = (10) + v2798.toInt := iv_add (by decide) rfl e2816 (by omega) (by omega)
        refine lv_iload_n hx hb dX12_strike_68 rfl (lv_at hl 5 rfl) ?_
        obtain ⟨F2817, hA2818, hP2819⟩ := om_1 hI hq2813 List.not_mem_nil
        refine th_iast hx hb hK hA2818 0 rfl hS ⟨_, hq2813⟩ (iv_in (X := v2815.toInt) rfl (by omega) (by omega)) dX12_strike_69 (fun H locs hA2820 oq hS => ?_)
        have hP2821 := kOk.set (i := v2815) (v := x3) hP2819 (X := v2815.toInt) (V := x3.toInt) rfl rfl (by omega) (by omega) (ks_pumps (by omega) (by omega) (by omega))
        have hI := th_I.put hI hq2813 hA2820 (ok_m1 hP2821) oq
        have hf2814 := fr.arr hG0 hq2813 (by decide) oq hf2814
        have e2822 : x3 = (upd F2817 (v2815 : Int32).toNatClampNeg x3) (v2815 : Int32).toNatClampNeg := rd_us
        obtain ⟨v2823, e2824⟩ : ∃ y : Int32, y = v2798 + (1) := ⟨_, rfl⟩
        have tv2823 : v2823.toInt = v2798.toInt + (1) := iv_add rfl (by decide) e2824 (by omega) (by omega)
        refine lv_iinc (v := v2823) (lv' := [(5, .int v2823), (4, .int v2810), (0, .ref h0), (1, .int x1), (2, .int x2), (3, .int x3)]) hx hb dX12_strike_70 hl (k := 1) rfl (by rw [e2824]; rfl) (by decide) rfl (fun ls hl => ?_)
        refine lv_goto (tgt := 29) hx hb dX12_strike_73 (by decide) ?_
        exact ih_29 _ (by omega) H locs ls v2823 v2810  rfl (lv_sub hl [0, 1, 2, 3, 4, 5] rfl) ⟨by omega, by omega⟩ ⟨by omega, by omega⟩ ⟨by omega, by omega⟩ ⟨by omega, by omega⟩ hI hS
      refine lv_iload hx hb dX12_strike_29 (lv_at hl 0 rfl) ?_
      refine lv_iload_n hx hb dX12_strike_31 rfl (lv_at hl 4 rfl) ?_
      refine lv_icmp_gt (tgt := 76) hx hb dX12_strike_32 (by decide) (fun c2825 => ?_) (fun c2825 => ?_)
      · skip
        have k2826 := iv_lt (X := x2.toInt) (Y := v2798.toInt) rfl rfl c2825
        refine lv_aload_n hx hb dX12_strike_76 rfl (lv_at hl 2 rfl) ?_
        refine lv_iload hx hb dX12_strike_77 (lv_at hl 1 rfl) ?_
        refine mx_i (As := [.int v2799]) (rest := []) (n := 1) (d := 0) ⟨hx, hb, hml, hown, hts⟩ (c_X12_good l E D G h0 hG0 v2799) wd_1402 wd_1404 wp_41 wd_13 wd_1405 (by decide +kernel) ⟨by rw [hR]; exact Nat.le_of_ble_eq_true rfl, by rw [hR]; exact Nat.le_of_ble_eq_true rfl⟩ hI hN hK hS hG0 (trivial) rfl hl.1 rfl (Nat.le_of_ble_eq_true rfl) dX12_strike_79 ⟨Nat.zero_le _, Nat.zero_le _⟩ (fun r2827 H locs hI hp hS => ?_)
        obtain rfl := hp.symm
        have hpost : True := trivial
        rw [hQ]
        exact W.iret (v := v2799) hx hb hr (fun t ht hW => ⟨⟨v2799, v2799, rfl, rfl, ⟨by rw [ht]; exact hI, hN.warm hW, va_K.moved hW.alike hK⟩, by first | (rw [ht]; exact hpost) | exact hpost⟩, hS.F ht⟩) hS.2.2 dX12_strike_82
      · skip
        have k2828 := iv_nlt (X := x2.toInt) (Y := v2798.toInt) rfl rfl c2825
        refine lv_iload hx hb dX12_strike_35 (lv_at hl 1 rfl) ?_
        refine lv_aload_n hx hb dX12_strike_37 rfl (lv_at hl 2 rfl) ?_
        refine gmA hx hb hts inT12 hown hK hI List.not_mem_nil hG0 3 (by decide) (hts _ (tb_c wd_1236)) rfl rfl dX12_strike_38 (fun a2829 hq2830 hf2831 => ?_)
        refine lv_bipush (v := 10) hx hb dX12_strike_41 (by decide) ?_
        refine lv_iload hx hb dX12_strike_43 (lv_at hl 0 rfl) ?_
        refine lv_iadd hx hb dX12_strike_45 ?_
        refine lv_topi (fun v2832 e2833 => ?_)
        have tv2832 : v2832.toInt = (10) + v2798.toInt := iv_add (by decide) rfl e2833 (by omega) (by omega)
        obtain ⟨F2834, hA2835, hP2836⟩ := om_1 hI hq2830 List.not_mem_nil
        refine th_iald hx hb hK hA2835 0 rfl (iv_in (X := v2832.toInt) rfl (by omega) (by omega)) dX12_strike_46 (fun v2837 e2838 => ?_)
        refine lv_iload_n hx hb dX12_strike_47 rfl (lv_at hl 5 rfl) ?_
        have k2839 := iv_lo v2837
        have k2840 := iv_hi v2837
        refine lv_icmp_ne (tgt := 55) hx hb dX12_strike_48 (by decide) (fun c2841 => ?_) (fun c2841 => ?_)
        · skip
          have k2842 := iv_ne (X := v2837.toInt) (Y := x3.toInt) rfl rfl c2841
          refine lv_iconst (v := 1) hx hb dX12_strike_55 (by decide) ?_
          exact J_56 H locs ls 1 v2799  (lv_sub hl [0, 1, 2, 3, 4, 5] rfl) ⟨by omega, by omega⟩ ⟨by decide, by decide⟩ hI hS
        · skip
          have k2843 := iv_eq (X := v2837.toInt) (Y := x3.toInt) rfl rfl c2841
          refine lv_iconst (v := 0) hx hb dX12_strike_51 (by decide) ?_
          refine lv_goto (tgt := 56) hx hb dX12_strike_52 (by decide) ?_
          exact J_56 H locs ls 0 v2799  (lv_sub hl [0, 1, 2, 3, 4, 5] rfl) ⟨by omega, by omega⟩ ⟨by decide, by decide⟩ hI hS
  have J_17 : ∀ (H : Heap) (locs : List Loc) (ls : Array Slot)  , lv_has ls 6 [(0, .ref h0), (1, .int x1), (2, .int x2), (3, .int x3)] → th_I (okM E) D G [] H → va_S (th_A G) s.heap H locs → W p l e R s m args below meth c H locs 0 0 QF (F0 m 17 ls []) := by
    intro H locs ls   hl  hI hS
    refine lv_aload_n hx hb dX12_strike_17 rfl (lv_at hl 0 rfl) ?_
    refine lv_iconst (v := (-1)) hx hb dX12_strike_18 (by decide) ?_
    refine mx_i (As := [.int (-1)]) (rest := []) (n := 1) (d := 0) ⟨hx, hb, hml, hown, hts⟩ (c_X12_refuses l E D G h0 hG0 (-1) ⟨by decide, by decide⟩) wd_1398 wd_1400 wp_40 wd_13 wd_1401 (by decide +kernel) ⟨by rw [hR]; exact Nat.le_of_ble_eq_true rfl, by rw [hR]; exact Nat.le_of_ble_eq_true rfl⟩ hI hN hK hS hG0 (trivial) rfl hl.1 rfl (Nat.le_of_ble_eq_true rfl) dX12_strike_19 ⟨Nat.zero_le _, Nat.zero_le _⟩ (fun r2844 H locs hI hp hS => ?_)
    obtain rfl := hp.symm
    have hpost : True := trivial
    rw [hQ]
    exact W.iret (v := (-1)) hx hb hr (fun t ht hW => ⟨⟨(-1), (-1), rfl, rfl, ⟨by rw [ht]; exact hI, hN.warm hW, va_K.moved hW.alike hK⟩, by first | (rw [ht]; exact hpost) | exact hpost⟩, hS.F ht⟩) hS.2.2 dX12_strike_22
  refine lv_iload_n hx hb dX12_strike_0 rfl (lv_at hl 1 rfl) ?_
  refine lv_iload_n hx hb dX12_strike_1 rfl (lv_at hl 2 rfl) ?_
  refine th_cSs (As := [.int x1, .int x2]) (rest := []) (n := 2) (d := 2) ⟨hx, hb, hml, hown, hts⟩ (c_X12_areHours l s.heap x1 x2) wd_1425 wd_1426 wd_13 wd_1427 (by decide +kernel) ⟨by rw [hR]; exact Nat.le_of_ble_eq_true rfl, by rw [hR]; exact Nat.le_of_ble_eq_true rfl⟩ hN hS rfl hl.1 rfl (Nat.le_of_ble_eq_true rfl) dX12_strike_2 ⟨Nat.zero_le _, Nat.zero_le _⟩ (fun r2845 locs hp hS => ?_)
  rcases hp with ⟨rfl, hp⟩ | ⟨rfl, hp⟩
  · skip
    try simp only [rg, not_and, Int.not_le] at hp
    have hp2846 := hp
    refine lv_if_eq (tgt := 17) hx hb dX12_strike_5 (by decide) (fun c => absurd c (by decide)) (fun _ => ?_)
    refine lv_iload_n hx hb dX12_strike_8 rfl (lv_at hl 3 rfl) ?_
    refine lv_iconst (v := 0) hx hb dX12_strike_9 (by decide) ?_
    refine lv_iconst (v := 1) hx hb dX12_strike_10 (by decide) ?_
    refine th_cSs (As := [.int x3, .int 0, .int 1]) (rest := []) (n := 3) (d := 0) ⟨hx, hb, hml, hown, hts⟩ (c_X12_lies l s.heap x3 0 1) wd_1395 wd_1396 wd_13 wd_1397 (by decide +kernel) ⟨by rw [hR]; exact Nat.le_of_ble_eq_true rfl, by rw [hR]; exact Nat.le_of_ble_eq_true rfl⟩ hN hS rfl hl.1 rfl (Nat.le_of_ble_eq_true rfl) dX12_strike_11 ⟨Nat.zero_le _, Nat.zero_le _⟩ (fun r2847 locs hp hS => ?_)
    rcases hp with ⟨rfl, hp⟩ | ⟨rfl, hp⟩
    · skip
      try simp only [rg, not_and, Int.not_le] at hp
      have hp2848 := hp
      try rw [show (0 : Int32).toInt = 0 from by decide] at hp2848
      try rw [show (1 : Int32).toInt = 1 from by decide] at hp2848
      refine lv_if_ne (tgt := 23) hx hb dX12_strike_14 (by decide) (fun _ => ?_) (fun c => absurd c (by decide))
      refine lv_iconst (v := 0) hx hb dX12_strike_23 (by decide) ?_
      refine lv_istore (lv' := [(4, .int 0), (0, .ref h0), (1, .int x1), (2, .int x2), (3, .int x3)]) hx hb dX12_strike_24 hl (by decide) rfl (fun ls hl => ?_)
      refine lv_iload_n hx hb dX12_strike_26 rfl (lv_at hl 2 rfl) ?_
      refine lv_istore (lv' := [(5, .int x1), (4, .int 0), (0, .ref h0), (1, .int x1), (2, .int x2), (3, .int x3)]) hx hb dX12_strike_27 hl (by decide) rfl (fun ls hl => ?_)
      exact J_29 _ s.heap locs ls x1 0  rfl (lv_sub hl [0, 1, 2, 3, 4, 5] rfl) ⟨by omega, by omega⟩ ⟨by omega, by omega⟩ ⟨by omega, by omega⟩ ⟨by omega, by omega⟩ hI hS
    · skip
      try simp only [rg, not_and, Int.not_le] at hp
      have hp2849 := hp
      try rw [show (0 : Int32).toInt = 0 from by decide] at hp2849
      try rw [show (1 : Int32).toInt = 1 from by decide] at hp2849
      refine lv_if_ne (tgt := 23) hx hb dX12_strike_14 (by decide) (fun c => absurd c (by decide)) (fun _ => ?_)
      exact J_17 s.heap locs ls   (lv_sub hl [0, 1, 2, 3] rfl)  hI hS
  · skip
    try simp only [rg, not_and, Int.not_le] at hp
    have hp2850 := hp
    refine lv_if_eq (tgt := 17) hx hb dX12_strike_5 (by decide) (fun _ => ?_) (fun c => absurd c (by decide))
    exact J_17 s.heap locs ls   (lv_sub hl [0, 1, 2, 3] rfl)  hI hS
theorem dX12_gate_0g : (decode cX12_gate 0 = .ok (.iload_n 1, 1)) ∧ (decode cX12_gate 1 = .ok (.invokestatic 118, 3)) ∧ (decode cX12_gate 4 = .ok (.ifCond .eq 11, 3)) ∧ (decode cX12_gate 7 = .ok (.iload_n 2, 1)) ∧ (decode cX12_gate 8 = .ok (.iload_n 3, 1)) ∧ (decode cX12_gate 9 = .ok (.invokestatic 121, 3)) ∧ (decode cX12_gate 12 = .ok (.ifCond .ne 9, 3)) ∧ (decode cX12_gate 15 = .ok (.aload_n 0, 1)) ∧ (decode cX12_gate 16 = .ok (.iconst (-1), 1)) ∧ (decode cX12_gate 17 = .ok (.invokevirtual 107, 3)) := by decide +kernel
theorem dX12_gate_0 : decode cX12_gate 0 = .ok (.iload_n 1, 1) := dX12_gate_0g.1
theorem dX12_gate_1 : decode cX12_gate 1 = .ok (.invokestatic 118, 3) := dX12_gate_0g.2.1
theorem dX12_gate_4 : decode cX12_gate 4 = .ok (.ifCond .eq 11, 3) := dX12_gate_0g.2.2.1
theorem dX12_gate_7 : decode cX12_gate 7 = .ok (.iload_n 2, 1) := dX12_gate_0g.2.2.2.1
theorem dX12_gate_8 : decode cX12_gate 8 = .ok (.iload_n 3, 1) := dX12_gate_0g.2.2.2.2.1
theorem dX12_gate_9 : decode cX12_gate 9 = .ok (.invokestatic 121, 3) := dX12_gate_0g.2.2.2.2.2.1
theorem dX12_gate_12 : decode cX12_gate 12 = .ok (.ifCond .ne 9, 3) := dX12_gate_0g.2.2.2.2.2.2.1
theorem dX12_gate_15 : decode cX12_gate 15 = .ok (.aload_n 0, 1) := dX12_gate_0g.2.2.2.2.2.2.2.1
theorem dX12_gate_16 : decode cX12_gate 16 = .ok (.iconst (-1), 1) := dX12_gate_0g.2.2.2.2.2.2.2.2.1
theorem dX12_gate_17 : decode cX12_gate 17 = .ok (.invokevirtual 107, 3) := dX12_gate_0g.2.2.2.2.2.2.2.2.2
theorem dX12_gate_20g : (decode cX12_gate 20 = .ok (.ireturn, 1)) ∧ (decode cX12_gate 21 = .ok (.aload_n 0, 1)) ∧ (decode cX12_gate 22 = .ok (.getfield 20, 3)) ∧ (decode cX12_gate 25 = .ok (.sipush 308, 3)) ∧ (decode cX12_gate 28 = .ok (.iaload, 1)) ∧ (decode cX12_gate 29 = .ok (.bipush 8, 2)) ∧ (decode cX12_gate 31 = .ok (.if_icmp .ne 10, 3)) ∧ (decode cX12_gate 34 = .ok (.aload_n 0, 1)) ∧ (decode cX12_gate 35 = .ok (.bipush (-5), 2)) ∧ (decode cX12_gate 37 = .ok (.invokevirtual 107, 3)) := by decide +kernel
theorem dX12_gate_20 : decode cX12_gate 20 = .ok (.ireturn, 1) := dX12_gate_20g.1
theorem dX12_gate_21 : decode cX12_gate 21 = .ok (.aload_n 0, 1) := dX12_gate_20g.2.1
theorem dX12_gate_22 : decode cX12_gate 22 = .ok (.getfield 20, 3) := dX12_gate_20g.2.2.1
theorem dX12_gate_25 : decode cX12_gate 25 = .ok (.sipush 308, 3) := dX12_gate_20g.2.2.2.1
theorem dX12_gate_28 : decode cX12_gate 28 = .ok (.iaload, 1) := dX12_gate_20g.2.2.2.2.1
theorem dX12_gate_29 : decode cX12_gate 29 = .ok (.bipush 8, 2) := dX12_gate_20g.2.2.2.2.2.1
theorem dX12_gate_31 : decode cX12_gate 31 = .ok (.if_icmp .ne 10, 3) := dX12_gate_20g.2.2.2.2.2.2.1
theorem dX12_gate_34 : decode cX12_gate 34 = .ok (.aload_n 0, 1) := dX12_gate_20g.2.2.2.2.2.2.2.1
theorem dX12_gate_35 : decode cX12_gate 35 = .ok (.bipush (-5), 2) := dX12_gate_20g.2.2.2.2.2.2.2.2.1
theorem dX12_gate_37 : decode cX12_gate 37 = .ok (.invokevirtual 107, 3) := dX12_gate_20g.2.2.2.2.2.2.2.2.2
theorem dX12_gate_40g : (decode cX12_gate 40 = .ok (.ireturn, 1)) ∧ (decode cX12_gate 41 = .ok (.aload_n 0, 1)) ∧ (decode cX12_gate 42 = .ok (.aload_n 0, 1)) ∧ (decode cX12_gate 43 = .ok (.bipush 106, 2)) ∧ (decode cX12_gate 45 = .ok (.sipush 308, 3)) ∧ (decode cX12_gate 48 = .ok (.iconst 3, 1)) ∧ (decode cX12_gate 49 = .ok (.iload_n 1, 1)) ∧ (decode cX12_gate 50 = .ok (.iload_n 2, 1)) ∧ (decode cX12_gate 51 = .ok (.iload_n 3, 1)) ∧ (decode cX12_gate 52 = .ok (.iconst 0, 1)) := by decide +kernel
theorem dX12_gate_40 : decode cX12_gate 40 = .ok (.ireturn, 1) := dX12_gate_40g.1
theorem dX12_gate_41 : decode cX12_gate 41 = .ok (.aload_n 0, 1) := dX12_gate_40g.2.1
theorem dX12_gate_42 : decode cX12_gate 42 = .ok (.aload_n 0, 1) := dX12_gate_40g.2.2.1
theorem dX12_gate_43 : decode cX12_gate 43 = .ok (.bipush 106, 2) := dX12_gate_40g.2.2.2.1
theorem dX12_gate_45 : decode cX12_gate 45 = .ok (.sipush 308, 3) := dX12_gate_40g.2.2.2.2.1
theorem dX12_gate_48 : decode cX12_gate 48 = .ok (.iconst 3, 1) := dX12_gate_40g.2.2.2.2.2.1
theorem dX12_gate_49 : decode cX12_gate 49 = .ok (.iload_n 1, 1) := dX12_gate_40g.2.2.2.2.2.2.1
theorem dX12_gate_50 : decode cX12_gate 50 = .ok (.iload_n 2, 1) := dX12_gate_40g.2.2.2.2.2.2.2.1
theorem dX12_gate_51 : decode cX12_gate 51 = .ok (.iload_n 3, 1) := dX12_gate_40g.2.2.2.2.2.2.2.2.1
theorem dX12_gate_52 : decode cX12_gate 52 = .ok (.iconst 0, 1) := dX12_gate_40g.2.2.2.2.2.2.2.2.2
theorem dX12_gate_53g : (decode cX12_gate 53 = .ok (.invokevirtual 125, 3)) ∧ (decode cX12_gate 56 = .ok (.iconst 1, 1)) ∧ (decode cX12_gate 57 = .ok (.isub, 1)) ∧ (decode cX12_gate 58 = .ok (.invokevirtual 111, 3)) ∧ (decode cX12_gate 61 = .ok (.ireturn, 1)) := by decide +kernel
theorem dX12_gate_53 : decode cX12_gate 53 = .ok (.invokevirtual 125, 3) := dX12_gate_53g.1
theorem dX12_gate_56 : decode cX12_gate 56 = .ok (.iconst 1, 1) := dX12_gate_53g.2.1
theorem dX12_gate_57 : decode cX12_gate 57 = .ok (.isub, 1) := dX12_gate_53g.2.2.1
theorem dX12_gate_58 : decode cX12_gate 58 = .ok (.invokevirtual 111, 3) := dX12_gate_53g.2.2.2.1
theorem dX12_gate_61 : decode cX12_gate 61 = .ok (.ireturn, 1) := dX12_gate_53g.2.2.2.2
set_option maxHeartbeats 4000000 in
set_option maxRecDepth 100000 in
theorem c_X12_gate (l : Launch) (E : Nat → Nat) (D : va_G) (G : th_G) (h0 : Nat) (hG0 : G h0 = some (10, 0)) (x1 : Int32) (x2 : Int32) (x3 : Int32) : Met l yX12_gate (tb (.code yX12_gate cX12_gate 4 (some .int))) (rm 3) (va_Pc [.ref h0, .int x1, .int x2, .int x3] (PX E D G (fun H => True))) (QXi E D G (fun r H => True)) 0 0 (th_A G) := by
  refine Met.ofW (cc := cX12_gate) (maxL := 4) (ret := (some .int)) (by decide) rfl ?_
  intro p e s m args below meth c s₁ B hml hv
  obtain ⟨hav, ⟨hI, hN, hK⟩, hX⟩ := hv
  have hx := B.exec
  have hb := B.bytes
  have hr := B.returns
  have hts := atoms_spec (ws := tb (.code yX12_gate cX12_gate 4 (some .int))) B.pre
  have hown : s.vm.findClass RX12 = some m.cls := findClass_of_methodNamed B.named
  have hlocks := B.notSynchronized
  have hS : va_S (th_A G) s.heap s.heap [] := va_S.rf
  have hl := lv_entry ([.ref h0, .int x1, .int x2, .int x3]) (n := 4) (Nat.le_of_ble_eq_true rfl)
  rw [show entryFrame m args 4 = entryFrame m ([.ref h0, .int x1, .int x2, .int x3] : List Value).toArray 4 from by rw [hav], lg_entry_eq]
  generalize (lg_sl ([.ref h0, .int x1, .int x2, .int x3]) ++ List.replicate (4 - (lg_sl ([.ref h0, .int x1, .int x2, .int x3])).length) Slot.unset).toArray = ls at hl ⊢
  have hl : lv_has ls 4 [(0, .ref h0), (1, .int x1), (2, .int x2), (3, .int x3)] := hl
  generalize hR : (headSpec (tb (.code yX12_gate cX12_gate 4 (some .int))) (rm 3)).room = R
  have hR := hR.symm
  generalize hQ : MQ below (QXi E D G (fun r H => True)) args s 0 0 (th_A G) = QF
  have hQ := hQ.symm
  have J_15 : ∀ (H : Heap) (locs : List Loc) (ls : Array Slot)  , lv_has ls 4 [(0, .ref h0), (1, .int x1), (2, .int x2), (3, .int x3)] → th_I (okM E) D G [] H → va_S (th_A G) s.heap H locs → W p l e R s m args below meth c H locs 0 0 QF (F0 m 15 ls []) := by
    intro H locs ls   hl  hI hS
    refine lv_aload_n hx hb dX12_gate_15 rfl (lv_at hl 0 rfl) ?_
    refine lv_iconst (v := (-1)) hx hb dX12_gate_16 (by decide) ?_
    refine mx_i (As := [.int (-1)]) (rest := []) (n := 1) (d := 0) ⟨hx, hb, hml, hown, hts⟩ (c_X12_refuses l E D G h0 hG0 (-1) ⟨by decide, by decide⟩) wd_1398 wd_1400 wp_40 wd_13 wd_1401 (by decide +kernel) ⟨by rw [hR]; exact Nat.le_of_ble_eq_true rfl, by rw [hR]; exact Nat.le_of_ble_eq_true rfl⟩ hI hN hK hS hG0 (trivial) rfl hl.1 rfl (Nat.le_of_ble_eq_true rfl) dX12_gate_17 ⟨Nat.zero_le _, Nat.zero_le _⟩ (fun r192 H locs hI hp hS => ?_)
    obtain rfl := hp.symm
    have hpost : True := trivial
    rw [hQ]
    exact W.iret (v := (-1)) hx hb hr (fun t ht hW => ⟨⟨(-1), (-1), rfl, rfl, ⟨by rw [ht]; exact hI, hN.warm hW, va_K.moved hW.alike hK⟩, by first | (rw [ht]; exact hpost) | exact hpost⟩, hS.F ht⟩) hS.2.2 dX12_gate_20
  refine lv_iload_n hx hb dX12_gate_0 rfl (lv_at hl 1 rfl) ?_
  refine th_cSs (As := [.int x1]) (rest := []) (n := 1) (d := 1) ⟨hx, hb, hml, hown, hts⟩ (c_X12_isCell l s.heap x1) wd_1414 wd_1415 wd_13 wd_1416 (by decide +kernel) ⟨by rw [hR]; exact Nat.le_of_ble_eq_true rfl, by rw [hR]; exact Nat.le_of_ble_eq_true rfl⟩ hN hS rfl hl.1 rfl (Nat.le_of_ble_eq_true rfl) dX12_gate_1 ⟨Nat.zero_le _, Nat.zero_le _⟩ (fun r193 locs hp hS => ?_)
  rcases hp with ⟨rfl, hp⟩ | ⟨rfl, hp⟩
  · skip
    try simp only [rg, not_and, Int.not_le] at hp
    have hp194 := hp
    refine lv_if_eq (tgt := 15) hx hb dX12_gate_4 (by decide) (fun c => absurd c (by decide)) (fun _ => ?_)
    refine lv_iload_n hx hb dX12_gate_7 rfl (lv_at hl 2 rfl) ?_
    refine lv_iload_n hx hb dX12_gate_8 rfl (lv_at hl 3 rfl) ?_
    refine th_cSs (As := [.int x2, .int x3]) (rest := []) (n := 2) (d := 2) ⟨hx, hb, hml, hown, hts⟩ (c_X12_areHours l s.heap x2 x3) wd_1425 wd_1426 wd_13 wd_1427 (by decide +kernel) ⟨by rw [hR]; exact Nat.le_of_ble_eq_true rfl, by rw [hR]; exact Nat.le_of_ble_eq_true rfl⟩ hN hS rfl hl.1 rfl (Nat.le_of_ble_eq_true rfl) dX12_gate_9 ⟨Nat.zero_le _, Nat.zero_le _⟩ (fun r195 locs hp hS => ?_)
    rcases hp with ⟨rfl, hp⟩ | ⟨rfl, hp⟩
    · skip
      try simp only [rg, not_and, Int.not_le] at hp
      have hp196 := hp
      refine lv_if_ne (tgt := 21) hx hb dX12_gate_12 (by decide) (fun _ => ?_) (fun c => absurd c (by decide))
      refine lv_aload_n hx hb dX12_gate_21 rfl (lv_at hl 0 rfl) ?_
      refine gmA hx hb hts inT12 hown hK hI List.not_mem_nil hG0 3 (by decide) (hts _ (tb_c wd_1236)) rfl rfl dX12_gate_22 (fun a197 hq198 hf199 => ?_)
      refine lv_sipush (v := 308) hx hb dX12_gate_25 (by decide) ?_
      obtain ⟨F200, hA201, hP202⟩ := om_1 hI hq198 List.not_mem_nil
      refine th_iald hx hb hK hA201 0 rfl (iv_in (X := (308)) (by decide) (by omega) (by omega)) dX12_gate_28 (fun v203 e204 => ?_)
      have k205 := kg_m308 (kOk.get (i := 308) hP202 e204 (X := (308)) (by decide) (by omega) (by omega)) (by omega) (by omega) (by omega)
      refine lv_bipush (v := 8) hx hb dX12_gate_29 (by decide) ?_
      refine lv_icmp_ne (tgt := 41) hx hb dX12_gate_31 (by decide) (fun c206 => ?_) (fun c206 => ?_)
      · skip
        have k207 := iv_ne (X := v203.toInt) (Y := (8)) rfl (by decide) c206
        refine lv_aload_n hx hb dX12_gate_41 rfl (lv_at hl 0 rfl) ?_
        refine lv_aload_n hx hb dX12_gate_42 rfl (lv_at hl 0 rfl) ?_
        refine lv_bipush (v := 106) hx hb dX12_gate_43 (by decide) ?_
        refine lv_sipush (v := 308) hx hb dX12_gate_45 (by decide) ?_
        refine lv_iconst (v := 3) hx hb dX12_gate_48 (by decide) ?_
        refine lv_iload_n hx hb dX12_gate_49 rfl (lv_at hl 1 rfl) ?_
        refine lv_iload_n hx hb dX12_gate_50 rfl (lv_at hl 2 rfl) ?_
        refine lv_iload_n hx hb dX12_gate_51 rfl (lv_at hl 3 rfl) ?_
        refine lv_iconst (v := 0) hx hb dX12_gate_52 (by decide) ?_
        refine mx_i (As := [.int 106, .int 308, .int 3, .int x1, .int x2, .int x3, .int 0]) (rest := [.ref h0]) (n := 7) (d := 0) ⟨hx, hb, hml, hown, hts⟩ (c_X12_comesBehind_308 l E D G h0 hG0 x1 x2 x3 0 F200 hP202 (lt_of_rd e204 rfl (by omega))) wd_1435 wd_1437 wp_42 wd_13 wd_1438 (by decide +kernel) ⟨by rw [hR]; exact Nat.le_of_ble_eq_true rfl, by rw [hR]; exact Nat.le_of_ble_eq_true rfl⟩ hI hN hK hS hG0 (⟨a197, hf199, hq198, hA201⟩) rfl hl.1 rfl (Nat.le_of_ble_eq_true rfl) dX12_gate_53 ⟨Nat.zero_le _, Nat.zero_le _⟩ (fun r208 H locs hI hp hS => ?_)
        refine lv_iconst (v := 1) hx hb dX12_gate_56 (by decide) ?_
        refine lv_isub hx hb dX12_gate_57 ?_
        refine lv_topi (fun v209 e210 => ?_)
        try have tv209 : v209.toInt = r208.toInt - (1) := iv_sub rfl (by decide) e210 (by omega) (by omega)
        refine mx_i (As := [.int v209]) (rest := []) (n := 1) (d := 0) ⟨hx, hb, hml, hown, hts⟩ (c_X12_good l E D G h0 hG0 v209) wd_1402 wd_1404 wp_41 wd_13 wd_1405 (by decide +kernel) ⟨by rw [hR]; exact Nat.le_of_ble_eq_true rfl, by rw [hR]; exact Nat.le_of_ble_eq_true rfl⟩ hI hN hK hS hG0 (trivial) rfl hl.1 rfl (Nat.le_of_ble_eq_true rfl) dX12_gate_58 ⟨Nat.zero_le _, Nat.zero_le _⟩ (fun r211 H locs hI hp hS => ?_)
        obtain rfl := hp.symm
        have hpost : True := trivial
        rw [hQ]
        exact W.iret (v := v209) hx hb hr (fun t ht hW => ⟨⟨v209, v209, rfl, rfl, ⟨by rw [ht]; exact hI, hN.warm hW, va_K.moved hW.alike hK⟩, by first | (rw [ht]; exact hpost) | exact hpost⟩, hS.F ht⟩) hS.2.2 dX12_gate_61
      · skip
        have k212 := iv_eq (X := v203.toInt) (Y := (8)) rfl (by decide) c206
        refine lv_aload_n hx hb dX12_gate_34 rfl (lv_at hl 0 rfl) ?_
        refine lv_bipush (v := (-5)) hx hb dX12_gate_35 (by decide) ?_
        refine mx_i (As := [.int (-5)]) (rest := []) (n := 1) (d := 0) ⟨hx, hb, hml, hown, hts⟩ (c_X12_refuses l E D G h0 hG0 (-5) ⟨by decide, by decide⟩) wd_1398 wd_1400 wp_40 wd_13 wd_1401 (by decide +kernel) ⟨by rw [hR]; exact Nat.le_of_ble_eq_true rfl, by rw [hR]; exact Nat.le_of_ble_eq_true rfl⟩ hI hN hK hS hG0 (trivial) rfl hl.1 rfl (Nat.le_of_ble_eq_true rfl) dX12_gate_37 ⟨Nat.zero_le _, Nat.zero_le _⟩ (fun r213 H locs hI hp hS => ?_)
        obtain rfl := hp.symm
        have hpost : True := trivial
        rw [hQ]
        exact W.iret (v := (-5)) hx hb hr (fun t ht hW => ⟨⟨(-5), (-5), rfl, rfl, ⟨by rw [ht]; exact hI, hN.warm hW, va_K.moved hW.alike hK⟩, by first | (rw [ht]; exact hpost) | exact hpost⟩, hS.F ht⟩) hS.2.2 dX12_gate_40
    · skip
      try simp only [rg, not_and, Int.not_le] at hp
      have hp214 := hp
      refine lv_if_ne (tgt := 21) hx hb dX12_gate_12 (by decide) (fun c => absurd c (by decide)) (fun _ => ?_)
      exact J_15 s.heap locs ls   (lv_sub hl [0, 1, 2, 3] rfl)  hI hS
  · skip
    try simp only [rg, not_and, Int.not_le] at hp
    have hp215 := hp
    refine lv_if_eq (tgt := 15) hx hb dX12_gate_4 (by decide) (fun _ => ?_) (fun c => absurd c (by decide))
    exact J_15 s.heap locs ls   (lv_sub hl [0, 1, 2, 3] rfl)  hI hS
theorem dX12_open_0g : (decode cX12_open 0 = .ok (.iload_n 1, 1)) ∧ (decode cX12_open 1 = .ok (.iconst 0, 1)) ∧ (decode cX12_open 2 = .ok (.aload_n 0, 1)) ∧ (decode cX12_open 3 = .ok (.getfield 20, 3)) ∧ (decode cX12_open 6 = .ok (.sipush 308, 3)) ∧ (decode cX12_open 9 = .ok (.iaload, 1)) ∧ (decode cX12_open 10 = .ok (.iconst 1, 1)) ∧ (decode cX12_open 11 = .ok (.isub, 1)) ∧ (decode cX12_open 12 = .ok (.invokestatic 103, 3)) ∧ (decode cX12_open 15 = .ok (.ifCond .ne 10, 3)) := by decide +kernel
theorem dX12_open_0 : decode cX12_open 0 = .ok (.iload_n 1, 1) := dX12_open_0g.1
theorem dX12_open_1 : decode cX12_open 1 = .ok (.iconst 0, 1) := dX12_open_0g.2.1
theorem dX12_open_2 : decode cX12_open 2 = .ok (.aload_n 0, 1) := dX12_open_0g.2.2.1
theorem dX12_open_3 : decode cX12_open 3 = .ok (.getfield 20, 3) := dX12_open_0g.2.2.2.1
theorem dX12_open_6 : decode cX12_open 6 = .ok (.sipush 308, 3) := dX12_open_0g.2.2.2.2.1
theorem dX12_open_9 : decode cX12_open 9 = .ok (.iaload, 1) := dX12_open_0g.2.2.2.2.2.1
theorem dX12_open_10 : decode cX12_open 10 = .ok (.iconst 1, 1) := dX12_open_0g.2.2.2.2.2.2.1
theorem dX12_open_11 : decode cX12_open 11 = .ok (.isub, 1) := dX12_open_0g.2.2.2.2.2.2.2.1
theorem dX12_open_12 : decode cX12_open 12 = .ok (.invokestatic 103, 3) := dX12_open_0g.2.2.2.2.2.2.2.2.1
theorem dX12_open_15 : decode cX12_open 15 = .ok (.ifCond .ne 10, 3) := dX12_open_0g.2.2.2.2.2.2.2.2.2
theorem dX12_open_18g : (decode cX12_open 18 = .ok (.aload_n 0, 1)) ∧ (decode cX12_open 19 = .ok (.bipush (-2), 2)) ∧ (decode cX12_open 21 = .ok (.invokevirtual 107, 3)) ∧ (decode cX12_open 24 = .ok (.ireturn, 1)) ∧ (decode cX12_open 25 = .ok (.aload_n 0, 1)) ∧ (decode cX12_open 26 = .ok (.getfield 20, 3)) ∧ (decode cX12_open 29 = .ok (.sipush 308, 3)) ∧ (decode cX12_open 32 = .ok (.dup2, 1)) ∧ (decode cX12_open 33 = .ok (.iaload, 1)) ∧ (decode cX12_open 34 = .ok (.iconst 1, 1)) := by decide +kernel
theorem dX12_open_18 : decode cX12_open 18 = .ok (.aload_n 0, 1) := dX12_open_18g.1
theorem dX12_open_19 : decode cX12_open 19 = .ok (.bipush (-2), 2) := dX12_open_18g.2.1
theorem dX12_open_21 : decode cX12_open 21 = .ok (.invokevirtual 107, 3) := dX12_open_18g.2.2.1
theorem dX12_open_24 : decode cX12_open 24 = .ok (.ireturn, 1) := dX12_open_18g.2.2.2.1
theorem dX12_open_25 : decode cX12_open 25 = .ok (.aload_n 0, 1) := dX12_open_18g.2.2.2.2.1
theorem dX12_open_26 : decode cX12_open 26 = .ok (.getfield 20, 3) := dX12_open_18g.2.2.2.2.2.1
theorem dX12_open_29 : decode cX12_open 29 = .ok (.sipush 308, 3) := dX12_open_18g.2.2.2.2.2.2.1
theorem dX12_open_32 : decode cX12_open 32 = .ok (.dup2, 1) := dX12_open_18g.2.2.2.2.2.2.2.1
theorem dX12_open_33 : decode cX12_open 33 = .ok (.iaload, 1) := dX12_open_18g.2.2.2.2.2.2.2.2.1
theorem dX12_open_34 : decode cX12_open 34 = .ok (.iconst 1, 1) := dX12_open_18g.2.2.2.2.2.2.2.2.2
theorem dX12_open_35g : (decode cX12_open 35 = .ok (.isub, 1)) ∧ (decode cX12_open 36 = .ok (.iastore, 1)) ∧ (decode cX12_open 37 = .ok (.iconst 3, 1)) ∧ (decode cX12_open 38 = .ok (.iload_n 1, 1)) ∧ (decode cX12_open 39 = .ok (.imul, 1)) ∧ (decode cX12_open 40 = .ok (.istore_n 2, 1)) ∧ (decode cX12_open 41 = .ok (.iload_n 2, 1)) ∧ (decode cX12_open 42 = .ok (.iconst 3, 1)) ∧ (decode cX12_open 43 = .ok (.aload_n 0, 1)) ∧ (decode cX12_open 44 = .ok (.getfield 20, 3)) := by decide +kernel
theorem dX12_open_35 : decode cX12_open 35 = .ok (.isub, 1) := dX12_open_35g.1
theorem dX12_open_36 : decode cX12_open 36 = .ok (.iastore, 1) := dX12_open_35g.2.1
theorem dX12_open_37 : decode cX12_open 37 = .ok (.iconst 3, 1) := dX12_open_35g.2.2.1
theorem dX12_open_38 : decode cX12_open 38 = .ok (.iload_n 1, 1) := dX12_open_35g.2.2.2.1
theorem dX12_open_39 : decode cX12_open 39 = .ok (.imul, 1) := dX12_open_35g.2.2.2.2.1
theorem dX12_open_40 : decode cX12_open 40 = .ok (.istore_n 2, 1) := dX12_open_35g.2.2.2.2.2.1
theorem dX12_open_41 : decode cX12_open 41 = .ok (.iload_n 2, 1) := dX12_open_35g.2.2.2.2.2.2.1
theorem dX12_open_42 : decode cX12_open 42 = .ok (.iconst 3, 1) := dX12_open_35g.2.2.2.2.2.2.2.1
theorem dX12_open_43 : decode cX12_open 43 = .ok (.aload_n 0, 1) := dX12_open_35g.2.2.2.2.2.2.2.2.1
theorem dX12_open_44 : decode cX12_open 44 = .ok (.getfield 20, 3) := dX12_open_35g.2.2.2.2.2.2.2.2.2
theorem dX12_open_47g : (decode cX12_open 47 = .ok (.sipush 308, 3)) ∧ (decode cX12_open 50 = .ok (.iaload, 1)) ∧ (decode cX12_open 51 = .ok (.imul, 1)) ∧ (decode cX12_open 52 = .ok (.if_icmp .ge 29, 3)) ∧ (decode cX12_open 55 = .ok (.aload_n 0, 1)) ∧ (decode cX12_open 56 = .ok (.getfield 20, 3)) ∧ (decode cX12_open 59 = .ok (.bipush 106, 2)) ∧ (decode cX12_open 61 = .ok (.iload_n 2, 1)) ∧ (decode cX12_open 62 = .ok (.iadd, 1)) ∧ (decode cX12_open 63 = .ok (.aload_n 0, 1)) := by decide +kernel
theorem dX12_open_47 : decode cX12_open 47 = .ok (.sipush 308, 3) := dX12_open_47g.1
theorem dX12_open_50 : decode cX12_open 50 = .ok (.iaload, 1) := dX12_open_47g.2.1
theorem dX12_open_51 : decode cX12_open 51 = .ok (.imul, 1) := dX12_open_47g.2.2.1
theorem dX12_open_52 : decode cX12_open 52 = .ok (.if_icmp .ge 29, 3) := dX12_open_47g.2.2.2.1
theorem dX12_open_55 : decode cX12_open 55 = .ok (.aload_n 0, 1) := dX12_open_47g.2.2.2.2.1
theorem dX12_open_56 : decode cX12_open 56 = .ok (.getfield 20, 3) := dX12_open_47g.2.2.2.2.2.1
theorem dX12_open_59 : decode cX12_open 59 = .ok (.bipush 106, 2) := dX12_open_47g.2.2.2.2.2.2.1
theorem dX12_open_61 : decode cX12_open 61 = .ok (.iload_n 2, 1) := dX12_open_47g.2.2.2.2.2.2.2.1
theorem dX12_open_62 : decode cX12_open 62 = .ok (.iadd, 1) := dX12_open_47g.2.2.2.2.2.2.2.2.1
theorem dX12_open_63 : decode cX12_open 63 = .ok (.aload_n 0, 1) := dX12_open_47g.2.2.2.2.2.2.2.2.2
theorem dX12_open_64g : (decode cX12_open 64 = .ok (.getfield 20, 3)) ∧ (decode cX12_open 67 = .ok (.bipush 106, 2)) ∧ (decode cX12_open 69 = .ok (.iload_n 2, 1)) ∧ (decode cX12_open 70 = .ok (.iadd, 1)) ∧ (decode cX12_open 71 = .ok (.iconst 3, 1)) ∧ (decode cX12_open 72 = .ok (.iadd, 1)) ∧ (decode cX12_open 73 = .ok (.iaload, 1)) ∧ (decode cX12_open 74 = .ok (.iastore, 1)) ∧ (decode cX12_open 75 = .ok (.iinc 2 1, 3)) ∧ (decode cX12_open 78 = .ok (.goto (-37), 3)) := by decide +kernel
theorem dX12_open_64 : decode cX12_open 64 = .ok (.getfield 20, 3) := dX12_open_64g.1
theorem dX12_open_67 : decode cX12_open 67 = .ok (.bipush 106, 2) := dX12_open_64g.2.1
theorem dX12_open_69 : decode cX12_open 69 = .ok (.iload_n 2, 1) := dX12_open_64g.2.2.1
theorem dX12_open_70 : decode cX12_open 70 = .ok (.iadd, 1) := dX12_open_64g.2.2.2.1
theorem dX12_open_71 : decode cX12_open 71 = .ok (.iconst 3, 1) := dX12_open_64g.2.2.2.2.1
theorem dX12_open_72 : decode cX12_open 72 = .ok (.iadd, 1) := dX12_open_64g.2.2.2.2.2.1
theorem dX12_open_73 : decode cX12_open 73 = .ok (.iaload, 1) := dX12_open_64g.2.2.2.2.2.2.1
theorem dX12_open_74 : decode cX12_open 74 = .ok (.iastore, 1) := dX12_open_64g.2.2.2.2.2.2.2.1
theorem dX12_open_75 : decode cX12_open 75 = .ok (.iinc 2 1, 3) := dX12_open_64g.2.2.2.2.2.2.2.2.1
theorem dX12_open_78 : decode cX12_open 78 = .ok (.goto (-37), 3) := dX12_open_64g.2.2.2.2.2.2.2.2.2
theorem dX12_open_81g : (decode cX12_open 81 = .ok (.aload_n 0, 1)) ∧ (decode cX12_open 82 = .ok (.aload_n 0, 1)) ∧ (decode cX12_open 83 = .ok (.getfield 20, 3)) ∧ (decode cX12_open 86 = .ok (.sipush 308, 3)) ∧ (decode cX12_open 89 = .ok (.iaload, 1)) ∧ (decode cX12_open 90 = .ok (.invokevirtual 111, 3)) ∧ (decode cX12_open 93 = .ok (.ireturn, 1)) := by decide +kernel
theorem dX12_open_81 : decode cX12_open 81 = .ok (.aload_n 0, 1) := dX12_open_81g.1
theorem dX12_open_82 : decode cX12_open 82 = .ok (.aload_n 0, 1) := dX12_open_81g.2.1
theorem dX12_open_83 : decode cX12_open 83 = .ok (.getfield 20, 3) := dX12_open_81g.2.2.1
theorem dX12_open_86 : decode cX12_open 86 = .ok (.sipush 308, 3) := dX12_open_81g.2.2.2.1
theorem dX12_open_89 : decode cX12_open 89 = .ok (.iaload, 1) := dX12_open_81g.2.2.2.2.1
theorem dX12_open_90 : decode cX12_open 90 = .ok (.invokevirtual 111, 3) := dX12_open_81g.2.2.2.2.2.1
theorem dX12_open_93 : decode cX12_open 93 = .ok (.ireturn, 1) := dX12_open_81g.2.2.2.2.2.2
set_option maxHeartbeats 4000000 in
set_option maxRecDepth 100000 in
theorem c_X12_open (l : Launch) (E : Nat → Nat) (D : va_G) (G : th_G) (h0 : Nat) (hG0 : G h0 = some (10, 0)) (x1 : Int32) : Met l yX12_open (tb (.code yX12_open cX12_open 3 (some .int))) (rm 1) (va_Pc [.ref h0, .int x1] (PX E D G (fun H => True))) (QXi E D G (fun r H => True)) 0 0 (th_A G) := by
  refine Met.ofW (cc := cX12_open) (maxL := 3) (ret := (some .int)) (by decide) rfl ?_
  intro p e s m args below meth c s₁ B hml hv
  obtain ⟨hav, ⟨hI, hN, hK⟩, hX⟩ := hv
  have hx := B.exec
  have hb := B.bytes
  have hr := B.returns
  have hts := atoms_spec (ws := tb (.code yX12_open cX12_open 3 (some .int))) B.pre
  have hown : s.vm.findClass RX12 = some m.cls := findClass_of_methodNamed B.named
  have hlocks := B.notSynchronized
  have hS : va_S (th_A G) s.heap s.heap [] := va_S.rf
  have hl := lv_entry ([.ref h0, .int x1]) (n := 3) (Nat.le_of_ble_eq_true rfl)
  rw [show entryFrame m args 3 = entryFrame m ([.ref h0, .int x1] : List Value).toArray 3 from by rw [hav], lg_entry_eq]
  generalize (lg_sl ([.ref h0, .int x1]) ++ List.replicate (3 - (lg_sl ([.ref h0, .int x1])).length) Slot.unset).toArray = ls at hl ⊢
  have hl : lv_has ls 3 [(0, .ref h0), (1, .int x1)] := hl
  generalize hR : (headSpec (tb (.code yX12_open cX12_open 3 (some .int))) (rm 1)).room = R
  have hR := hR.symm
  generalize hQ : MQ below (QXi E D G (fun r H => True)) args s 0 0 (th_A G) = QF
  have hQ := hQ.symm
  have J_41 : ∀ (nn : Nat) (H : Heap) (locs : List Loc) (ls : Array Slot) (v738 : Int32) , (Int.toNat (24 - v738.toInt) = nn) → lv_has ls 3 [(2, .int v738), (0, .ref h0), (1, .int x1)] → ((0 : Int) ≤ v738.toInt ∧ v738.toInt ≤ 24) → ((0 : Int) ≤ x1.toInt ∧ x1.toInt ≤ 7) → th_I (okM E) D G [] H → va_S (th_A G) s.heap H locs → W p l e R s m args below meth c H locs 0 0 QF (F0 m 41 ls []) := by
    intro nn
    induction nn using Nat.strongRecOn with
    | ind nn ih_41 =>
      intro H locs ls v738  hm hl k739 k740 hI hS
      refine lv_iload_n hx hb dX12_open_41 rfl (lv_at hl 0 rfl) ?_
      refine lv_iconst (v := 3) hx hb dX12_open_42 (by decide) ?_
      refine lv_aload_n hx hb dX12_open_43 rfl (lv_at hl 1 rfl) ?_
      refine gmA hx hb hts inT12 hown hK hI List.not_mem_nil hG0 3 (by decide) (hts _ (tb_c wd_1236)) rfl rfl dX12_open_44 (fun a741 hq742 hf743 => ?_)
      refine lv_sipush (v := 308) hx hb dX12_open_47 (by decide) ?_
      obtain ⟨F744, hA745, hP746⟩ := om_1 hI hq742 List.not_mem_nil
      refine th_iald hx hb hK hA745 0 rfl (iv_in (X := (308)) (by decide) (by omega) (by omega)) dX12_open_50 (fun v747 e748 => ?_)
      have k749 := kg_m308 (kOk.get (i := 308) hP746 e748 (X := (308)) (by decide) (by omega) (by omega)) (by omega) (by omega) (by omega)
      refine lv_imul hx hb dX12_open_51 ?_
      refine lv_topi (fun v750 e751 => ?_)
      have tv750 : v750.toInt = (3) * v747.toInt := iv_mul (by decide) rfl e751 (by omega) (by omega)
      refine lv_icmp_ge (tgt := 81) hx hb dX12_open_52 (by decide) (fun c752 => ?_) (fun c752 => ?_)
      · skip
        have k753 := iv_le (X := v750.toInt) (Y := v738.toInt) rfl rfl c752
        refine lv_aload_n hx hb dX12_open_81 rfl (lv_at hl 1 rfl) ?_
        refine lv_aload_n hx hb dX12_open_82 rfl (lv_at hl 1 rfl) ?_
        refine gmA hx hb hts inT12 hown hK hI List.not_mem_nil hG0 3 (by decide) (hts _ (tb_c wd_1236)) rfl rfl dX12_open_83 (fun a754 hq755 hf756 => ?_)
        obtain rfl := fr.uniq (by decide) hf743 hf756
        refine lv_sipush (v := 308) hx hb dX12_open_86 (by decide) ?_
        refine th_iald hx hb hK hA745 0 rfl (iv_in (X := (308)) (by decide) (by omega) (by omega)) dX12_open_89 (fun v757 e758 => ?_)
        obtain rfl := (rd_same (i := 308) (j := 308) e748 e758 (X := (308)) (Y := (308)) (by decide) (by decide) (by omega)).symm
        refine mx_i (As := [.int v747]) (rest := []) (n := 1) (d := 0) ⟨hx, hb, hml, hown, hts⟩ (c_X12_good l E D G h0 hG0 v747) wd_1402 wd_1404 wp_41 wd_13 wd_1405 (by decide +kernel) ⟨by rw [hR]; exact Nat.le_of_ble_eq_true rfl, by rw [hR]; exact Nat.le_of_ble_eq_true rfl⟩ hI hN hK hS hG0 (trivial) rfl hl.1 rfl (Nat.le_of_ble_eq_true rfl) dX12_open_90 ⟨Nat.zero_le _, Nat.zero_le _⟩ (fun r759 H locs hI hp hS => ?_)
        obtain rfl := hp.symm
        have hpost : True := trivial
        rw [hQ]
        exact W.iret (v := v747) hx hb hr (fun t ht hW => ⟨⟨v747, v747, rfl, rfl, ⟨by rw [ht]; exact hI, hN.warm hW, va_K.moved hW.alike hK⟩, by first | (rw [ht]; exact hpost) | exact hpost⟩, hS.F ht⟩) hS.2.2 dX12_open_93
      · skip
        have k760 := iv_nle (X := v750.toInt) (Y := v738.toInt) rfl rfl c752
        refine lv_aload_n hx hb dX12_open_55 rfl (lv_at hl 1 rfl) ?_
        refine gmA hx hb hts inT12 hown hK hI List.not_mem_nil hG0 3 (by decide) (hts _ (tb_c wd_1236)) rfl rfl dX12_open_56 (fun a761 hq762 hf763 => ?_)
        obtain rfl := fr.uniq (by decide) hf743 hf763
        refine lv_bipush (v := 106) hx hb dX12_open_59 (by decide) ?_
        refine lv_iload_n hx hb dX12_open_61 rfl (lv_at hl 0 rfl) ?_
        refine lv_iadd hx hb dX12_open_62 ?_
        refine lv_topi (fun v764 e765 => ?_)
        have tv764 : v764.toInt = (106) + v738.toInt := iv_add (by decide) rfl e765 (by omega) (by omega)
        refine lv_aload_n hx hb dX12_open_63 rfl (lv_at hl 1 rfl) ?_
        refine gmA hx hb hts inT12 hown hK hI List.not_mem_nil hG0 3 (by decide) (hts _ (tb_c wd_1236)) rfl rfl dX12_open_64 (fun a766 hq767 hf768 => ?_)
        obtain rfl := fr.uniq (by decide) hf743 hf768
        refine lv_bipush (v := 106) hx hb dX12_open_67 (by decide) ?_
        refine lv_iload_n hx hb dX12_open_69 rfl (lv_at hl 0 rfl) ?_
        refine lv_iadd hx hb dX12_open_70 ?_
        refine lv_topi (fun v769 e770 => ?_)
        have tv769 : v769.toInt = (106) + v738.toInt := iv_add (by decide) rfl e770 (by omega) (by omega)
        refine lv_iconst (v := 3) hx hb dX12_open_71 (by decide) ?_
        refine lv_iadd hx hb dX12_open_72 ?_
        refine lv_topi (fun v771 e772 => ?_)
        have tv771 : v771.toInt = v769.toInt + (3) := iv_add rfl (by decide) e772 (by omega) (by omega)
        refine th_iald hx hb hK hA745 0 rfl (iv_in (X := v771.toInt) rfl (by omega) (by omega)) dX12_open_73 (fun v773 e774 => ?_)
        refine th_iast hx hb hK hA745 0 rfl hS ⟨_, hq742⟩ (iv_in (X := v764.toInt) rfl (by omega) (by omega)) dX12_open_74 (fun H locs hA775 oq hS => ?_)
        have k776 := iv_lo v773
        have k777 := iv_hi v773
        have hP778 := kOk.set (i := v764) (v := v773) hP746 (X := v764.toInt) (V := v773.toInt) rfl rfl (by omega) (by omega) (ks_pumps (by omega) (by omega) (by omega))
        have hI := th_I.put hI hq742 hA775 (ok_m1 hP778) oq
        have hf743 := fr.arr hG0 hq742 (by decide) oq hf743
        have e779 := rd_un (i := 308) (j := v764) (v := v773) e748 (X := (308)) (Y := v764.toInt) (by decide) rfl (by omega) (by omega) (by omega)
        have e780 := rd_un (i := v771) (j := v764) (v := v773) e774 (X := v771.toInt) (Y := v764.toInt) rfl rfl (by omega) (by omega) (by omega)
        have e781 : v773 = (upd F744 (v764 : Int32).toNatClampNeg v773) (v764 : Int32).toNatClampNeg := rd_us
        obtain ⟨v782, e783⟩ : ∃ y : Int32, y = v738 + (1) := ⟨_, rfl⟩
        have tv782 : v782.toInt = v738.toInt + (1) := iv_add rfl (by decide) e783 (by omega) (by omega)
        refine lv_iinc (v := v782) (lv' := [(2, .int v782), (0, .ref h0), (1, .int x1)]) hx hb dX12_open_75 hl (k := 0) rfl (by rw [e783]; rfl) (by decide) rfl (fun ls hl => ?_)
        refine lv_goto (tgt := 41) hx hb dX12_open_78 (by decide) ?_
        exact ih_41 _ (by omega) H locs ls v782  rfl (lv_sub hl [0, 1, 2] rfl) ⟨by omega, by omega⟩ ⟨by omega, by omega⟩ hI hS
  refine lv_iload_n hx hb dX12_open_0 rfl (lv_at hl 1 rfl) ?_
  refine lv_iconst (v := 0) hx hb dX12_open_1 (by decide) ?_
  refine lv_aload_n hx hb dX12_open_2 rfl (lv_at hl 0 rfl) ?_
  refine gmA hx hb hts inT12 hown hK hI List.not_mem_nil hG0 3 (by decide) (hts _ (tb_c wd_1236)) rfl rfl dX12_open_3 (fun a784 hq785 hf786 => ?_)
  refine lv_sipush (v := 308) hx hb dX12_open_6 (by decide) ?_
  obtain ⟨F787, hA788, hP789⟩ := om_1 hI hq785 List.not_mem_nil
  refine th_iald hx hb hK hA788 0 rfl (iv_in (X := (308)) (by decide) (by omega) (by omega)) dX12_open_9 (fun v790 e791 => ?_)
  have k792 := kg_m308 (kOk.get (i := 308) hP789 e791 (X := (308)) (by decide) (by omega) (by omega)) (by omega) (by omega) (by omega)
  refine lv_iconst (v := 1) hx hb dX12_open_10 (by decide) ?_
  refine lv_isub hx hb dX12_open_11 ?_
  refine lv_topi (fun v793 e794 => ?_)
  have tv793 : v793.toInt = v790.toInt - (1) := iv_sub rfl (by decide) e794 (by omega) (by omega)
  refine th_cSs (As := [.int x1, .int 0, .int v793]) (rest := []) (n := 3) (d := 0) ⟨hx, hb, hml, hown, hts⟩ (c_X12_lies l s.heap x1 0 v793) wd_1395 wd_1396 wd_13 wd_1397 (by decide +kernel) ⟨by rw [hR]; exact Nat.le_of_ble_eq_true rfl, by rw [hR]; exact Nat.le_of_ble_eq_true rfl⟩ hN hS rfl hl.1 rfl (Nat.le_of_ble_eq_true rfl) dX12_open_12 ⟨Nat.zero_le _, Nat.zero_le _⟩ (fun r795 locs hp hS => ?_)
  rcases hp with ⟨rfl, hp⟩ | ⟨rfl, hp⟩
  · skip
    try simp only [rg, not_and, Int.not_le] at hp
    have hp796 := hp
    try rw [show (0 : Int32).toInt = 0 from by decide] at hp796
    refine lv_if_ne (tgt := 25) hx hb dX12_open_15 (by decide) (fun _ => ?_) (fun c => absurd c (by decide))
    refine lv_aload_n hx hb dX12_open_25 rfl (lv_at hl 0 rfl) ?_
    refine gmA hx hb hts inT12 hown hK hI List.not_mem_nil hG0 3 (by decide) (hts _ (tb_c wd_1236)) rfl rfl dX12_open_26 (fun a797 hq798 hf799 => ?_)
    obtain rfl := fr.uniq (by decide) hf786 hf799
    refine lv_sipush (v := 308) hx hb dX12_open_29 (by decide) ?_
    refine lv_dup2_11 hx hb dX12_open_32 rfl rfl ?_
    refine th_iald hx hb hK hA788 0 rfl (iv_in (X := (308)) (by decide) (by omega) (by omega)) dX12_open_33 (fun v800 e801 => ?_)
    obtain rfl := (rd_same (i := 308) (j := 308) e791 e801 (X := (308)) (Y := (308)) (by decide) (by decide) (by omega)).symm
    refine lv_iconst (v := 1) hx hb dX12_open_34 (by decide) ?_
    refine lv_isub hx hb dX12_open_35 ?_
    refine lv_topi (fun v802 e803 => ?_)
    have tv802 : v802.toInt = v790.toInt - (1) := iv_sub rfl (by decide) e803 (by omega) (by omega)
    refine th_iast hx hb hK hA788 0 rfl hS ⟨_, hq785⟩ (iv_in (X := (308)) (by decide) (by omega) (by omega)) dX12_open_36 (fun H locs hA804 oq hS => ?_)
    have hP805 := kOk.set (i := 308) (v := v802) hP789 (X := (308)) (V := v802.toInt) (by decide) rfl (by omega) (by omega) (ks_m308 (by omega) (by omega) (by omega) ⟨by omega, by omega⟩)
    have hI := th_I.put hI hq785 hA804 (ok_m1 hP805) oq
    have hf786 := fr.arr hG0 hq785 (by decide) oq hf786
    have e806 : v802 = (upd F787 (308 : Int32).toNatClampNeg v802) (308 : Int32).toNatClampNeg := rd_us
    refine lv_iconst (v := 3) hx hb dX12_open_37 (by decide) ?_
    refine lv_iload_n hx hb dX12_open_38 rfl (lv_at hl 1 rfl) ?_
    refine lv_imul hx hb dX12_open_39 ?_
    refine lv_topi (fun v807 e808 => ?_)
    have tv807 : v807.toInt = (3) * x1.toInt := iv_mul (by decide) rfl e808 (by omega) (by omega)
    refine lv_istore_n (lv' := [(2, .int v807), (0, .ref h0), (1, .int x1)]) hx hb dX12_open_40 rfl hl (by decide) rfl (fun ls hl => ?_)
    exact J_41 _ H locs ls v807  rfl (lv_sub hl [0, 1, 2] rfl) ⟨by omega, by omega⟩ ⟨by omega, by omega⟩ hI hS
  · skip
    try simp only [rg, not_and, Int.not_le] at hp
    have hp809 := hp
    try rw [show (0 : Int32).toInt = 0 from by decide] at hp809
    refine lv_if_ne (tgt := 25) hx hb dX12_open_15 (by decide) (fun c => absurd c (by decide)) (fun _ => ?_)
    refine lv_aload_n hx hb dX12_open_18 rfl (lv_at hl 0 rfl) ?_
    refine lv_bipush (v := (-2)) hx hb dX12_open_19 (by decide) ?_
    refine mx_i (As := [.int (-2)]) (rest := []) (n := 1) (d := 0) ⟨hx, hb, hml, hown, hts⟩ (c_X12_refuses l E D G h0 hG0 (-2) ⟨by decide, by decide⟩) wd_1398 wd_1400 wp_40 wd_13 wd_1401 (by decide +kernel) ⟨by rw [hR]; exact Nat.le_of_ble_eq_true rfl, by rw [hR]; exact Nat.le_of_ble_eq_true rfl⟩ hI hN hK hS hG0 (trivial) rfl hl.1 rfl (Nat.le_of_ble_eq_true rfl) dX12_open_21 ⟨Nat.zero_le _, Nat.zero_le _⟩ (fun r810 H locs hI hp hS => ?_)
    obtain rfl := hp.symm
    have hpost : True := trivial
    rw [hQ]
    exact W.iret (v := (-2)) hx hb hr (fun t ht hW => ⟨⟨(-2), (-2), rfl, rfl, ⟨by rw [ht]; exact hI, hN.warm hW, va_K.moved hW.alike hK⟩, by first | (rw [ht]; exact hpost) | exact hpost⟩, hS.F ht⟩) hS.2.2 dX12_open_24
theorem dX12_mill_0g : (decode cX12_mill 0 = .ok (.iload_n 1, 1)) ∧ (decode cX12_mill 1 = .ok (.invokestatic 118, 3)) ∧ (decode cX12_mill 4 = .ok (.ifCond .ne 9, 3)) ∧ (decode cX12_mill 7 = .ok (.aload_n 0, 1)) ∧ (decode cX12_mill 8 = .ok (.iconst (-1), 1)) ∧ (decode cX12_mill 9 = .ok (.invokevirtual 107, 3)) ∧ (decode cX12_mill 12 = .ok (.ireturn, 1)) ∧ (decode cX12_mill 13 = .ok (.aload_n 0, 1)) ∧ (decode cX12_mill 14 = .ok (.getfield 20, 3)) ∧ (decode cX12_mill 17 = .ok (.sipush 309, 3)) := by decide +kernel
theorem dX12_mill_0 : decode cX12_mill 0 = .ok (.iload_n 1, 1) := dX12_mill_0g.1
theorem dX12_mill_1 : decode cX12_mill 1 = .ok (.invokestatic 118, 3) := dX12_mill_0g.2.1
theorem dX12_mill_4 : decode cX12_mill 4 = .ok (.ifCond .ne 9, 3) := dX12_mill_0g.2.2.1
theorem dX12_mill_7 : decode cX12_mill 7 = .ok (.aload_n 0, 1) := dX12_mill_0g.2.2.2.1
theorem dX12_mill_8 : decode cX12_mill 8 = .ok (.iconst (-1), 1) := dX12_mill_0g.2.2.2.2.1
theorem dX12_mill_9 : decode cX12_mill 9 = .ok (.invokevirtual 107, 3) := dX12_mill_0g.2.2.2.2.2.1
theorem dX12_mill_12 : decode cX12_mill 12 = .ok (.ireturn, 1) := dX12_mill_0g.2.2.2.2.2.2.1
theorem dX12_mill_13 : decode cX12_mill 13 = .ok (.aload_n 0, 1) := dX12_mill_0g.2.2.2.2.2.2.2.1
theorem dX12_mill_14 : decode cX12_mill 14 = .ok (.getfield 20, 3) := dX12_mill_0g.2.2.2.2.2.2.2.2.1
theorem dX12_mill_17 : decode cX12_mill 17 = .ok (.sipush 309, 3) := dX12_mill_0g.2.2.2.2.2.2.2.2.2
theorem dX12_mill_20g : (decode cX12_mill 20 = .ok (.iaload, 1)) ∧ (decode cX12_mill 21 = .ok (.bipush 6, 2)) ∧ (decode cX12_mill 23 = .ok (.if_icmp .ne 10, 3)) ∧ (decode cX12_mill 26 = .ok (.aload_n 0, 1)) ∧ (decode cX12_mill 27 = .ok (.bipush (-5), 2)) ∧ (decode cX12_mill 29 = .ok (.invokevirtual 107, 3)) ∧ (decode cX12_mill 32 = .ok (.ireturn, 1)) ∧ (decode cX12_mill 33 = .ok (.aload_n 0, 1)) ∧ (decode cX12_mill 34 = .ok (.aload_n 0, 1)) ∧ (decode cX12_mill 35 = .ok (.sipush 130, 3)) := by decide +kernel
theorem dX12_mill_20 : decode cX12_mill 20 = .ok (.iaload, 1) := dX12_mill_20g.1
theorem dX12_mill_21 : decode cX12_mill 21 = .ok (.bipush 6, 2) := dX12_mill_20g.2.1
theorem dX12_mill_23 : decode cX12_mill 23 = .ok (.if_icmp .ne 10, 3) := dX12_mill_20g.2.2.1
theorem dX12_mill_26 : decode cX12_mill 26 = .ok (.aload_n 0, 1) := dX12_mill_20g.2.2.2.1
theorem dX12_mill_27 : decode cX12_mill 27 = .ok (.bipush (-5), 2) := dX12_mill_20g.2.2.2.2.1
theorem dX12_mill_29 : decode cX12_mill 29 = .ok (.invokevirtual 107, 3) := dX12_mill_20g.2.2.2.2.2.1
theorem dX12_mill_32 : decode cX12_mill 32 = .ok (.ireturn, 1) := dX12_mill_20g.2.2.2.2.2.2.1
theorem dX12_mill_33 : decode cX12_mill 33 = .ok (.aload_n 0, 1) := dX12_mill_20g.2.2.2.2.2.2.2.1
theorem dX12_mill_34 : decode cX12_mill 34 = .ok (.aload_n 0, 1) := dX12_mill_20g.2.2.2.2.2.2.2.2.1
theorem dX12_mill_35 : decode cX12_mill 35 = .ok (.sipush 130, 3) := dX12_mill_20g.2.2.2.2.2.2.2.2.2
theorem dX12_mill_38g : (decode cX12_mill 38 = .ok (.sipush 309, 3)) ∧ (decode cX12_mill 41 = .ok (.iconst 1, 1)) ∧ (decode cX12_mill 42 = .ok (.iload_n 1, 1)) ∧ (decode cX12_mill 43 = .ok (.iconst 0, 1)) ∧ (decode cX12_mill 44 = .ok (.iconst 0, 1)) ∧ (decode cX12_mill 45 = .ok (.iconst 0, 1)) ∧ (decode cX12_mill 46 = .ok (.invokevirtual 125, 3)) ∧ (decode cX12_mill 49 = .ok (.iconst 1, 1)) ∧ (decode cX12_mill 50 = .ok (.isub, 1)) ∧ (decode cX12_mill 51 = .ok (.invokevirtual 111, 3)) := by decide +kernel
theorem dX12_mill_38 : decode cX12_mill 38 = .ok (.sipush 309, 3) := dX12_mill_38g.1
theorem dX12_mill_41 : decode cX12_mill 41 = .ok (.iconst 1, 1) := dX12_mill_38g.2.1
theorem dX12_mill_42 : decode cX12_mill 42 = .ok (.iload_n 1, 1) := dX12_mill_38g.2.2.1
theorem dX12_mill_43 : decode cX12_mill 43 = .ok (.iconst 0, 1) := dX12_mill_38g.2.2.2.1
theorem dX12_mill_44 : decode cX12_mill 44 = .ok (.iconst 0, 1) := dX12_mill_38g.2.2.2.2.1
theorem dX12_mill_45 : decode cX12_mill 45 = .ok (.iconst 0, 1) := dX12_mill_38g.2.2.2.2.2.1
theorem dX12_mill_46 : decode cX12_mill 46 = .ok (.invokevirtual 125, 3) := dX12_mill_38g.2.2.2.2.2.2.1
theorem dX12_mill_49 : decode cX12_mill 49 = .ok (.iconst 1, 1) := dX12_mill_38g.2.2.2.2.2.2.2.1
theorem dX12_mill_50 : decode cX12_mill 50 = .ok (.isub, 1) := dX12_mill_38g.2.2.2.2.2.2.2.2.1
theorem dX12_mill_51 : decode cX12_mill 51 = .ok (.invokevirtual 111, 3) := dX12_mill_38g.2.2.2.2.2.2.2.2.2
theorem dX12_mill_54 : decode cX12_mill 54 = .ok (.ireturn, 1) := by decide +kernel
set_option maxHeartbeats 4000000 in
set_option maxRecDepth 100000 in
theorem c_X12_mill (l : Launch) (E : Nat → Nat) (D : va_G) (G : th_G) (h0 : Nat) (hG0 : G h0 = some (10, 0)) (x1 : Int32) : Met l yX12_mill (tb (.code yX12_mill cX12_mill 2 (some .int))) (rm 2) (va_Pc [.ref h0, .int x1] (PX E D G (fun H => True))) (QXi E D G (fun r H => True)) 0 0 (th_A G) := by
  refine Met.ofW (cc := cX12_mill) (maxL := 2) (ret := (some .int)) (by decide) rfl ?_
  intro p e s m args below meth c s₁ B hml hv
  obtain ⟨hav, ⟨hI, hN, hK⟩, hX⟩ := hv
  have hx := B.exec
  have hb := B.bytes
  have hr := B.returns
  have hts := atoms_spec (ws := tb (.code yX12_mill cX12_mill 2 (some .int))) B.pre
  have hown : s.vm.findClass RX12 = some m.cls := findClass_of_methodNamed B.named
  have hlocks := B.notSynchronized
  have hS : va_S (th_A G) s.heap s.heap [] := va_S.rf
  have hl := lv_entry ([.ref h0, .int x1]) (n := 2) (Nat.le_of_ble_eq_true rfl)
  rw [show entryFrame m args 2 = entryFrame m ([.ref h0, .int x1] : List Value).toArray 2 from by rw [hav], lg_entry_eq]
  generalize (lg_sl ([.ref h0, .int x1]) ++ List.replicate (2 - (lg_sl ([.ref h0, .int x1])).length) Slot.unset).toArray = ls at hl ⊢
  have hl : lv_has ls 2 [(0, .ref h0), (1, .int x1)] := hl
  generalize hR : (headSpec (tb (.code yX12_mill cX12_mill 2 (some .int))) (rm 2)).room = R
  have hR := hR.symm
  generalize hQ : MQ below (QXi E D G (fun r H => True)) args s 0 0 (th_A G) = QF
  have hQ := hQ.symm
  refine lv_iload_n hx hb dX12_mill_0 rfl (lv_at hl 1 rfl) ?_
  refine th_cSs (As := [.int x1]) (rest := []) (n := 1) (d := 1) ⟨hx, hb, hml, hown, hts⟩ (c_X12_isCell l s.heap x1) wd_1414 wd_1415 wd_13 wd_1416 (by decide +kernel) ⟨by rw [hR]; exact Nat.le_of_ble_eq_true rfl, by rw [hR]; exact Nat.le_of_ble_eq_true rfl⟩ hN hS rfl hl.1 rfl (Nat.le_of_ble_eq_true rfl) dX12_mill_1 ⟨Nat.zero_le _, Nat.zero_le _⟩ (fun r1 locs hp hS => ?_)
  rcases hp with ⟨rfl, hp⟩ | ⟨rfl, hp⟩
  · skip
    try simp only [rg, not_and, Int.not_le] at hp
    have hp2 := hp
    refine lv_if_ne (tgt := 13) hx hb dX12_mill_4 (by decide) (fun _ => ?_) (fun c => absurd c (by decide))
    refine lv_aload_n hx hb dX12_mill_13 rfl (lv_at hl 0 rfl) ?_
    refine gmA hx hb hts inT12 hown hK hI List.not_mem_nil hG0 3 (by decide) (hts _ (tb_c wd_1236)) rfl rfl dX12_mill_14 (fun a3 hq4 hf5 => ?_)
    refine lv_sipush (v := 309) hx hb dX12_mill_17 (by decide) ?_
    obtain ⟨F6, hA7, hP8⟩ := om_1 hI hq4 List.not_mem_nil
    refine th_iald hx hb hK hA7 0 rfl (iv_in (X := (309)) (by decide) (by omega) (by omega)) dX12_mill_20 (fun v9 e10 => ?_)
    have k11 := kg_m309 (kOk.get (i := 309) hP8 e10 (X := (309)) (by decide) (by omega) (by omega)) (by omega) (by omega) (by omega)
    refine lv_bipush (v := 6) hx hb dX12_mill_21 (by decide) ?_
    refine lv_icmp_ne (tgt := 33) hx hb dX12_mill_23 (by decide) (fun c12 => ?_) (fun c12 => ?_)
    · skip
      have k13 := iv_ne (X := v9.toInt) (Y := (6)) rfl (by decide) c12
      refine lv_aload_n hx hb dX12_mill_33 rfl (lv_at hl 0 rfl) ?_
      refine lv_aload_n hx hb dX12_mill_34 rfl (lv_at hl 0 rfl) ?_
      refine lv_sipush (v := 130) hx hb dX12_mill_35 (by decide) ?_
      refine lv_sipush (v := 309) hx hb dX12_mill_38 (by decide) ?_
      refine lv_iconst (v := 1) hx hb dX12_mill_41 (by decide) ?_
      refine lv_iload_n hx hb dX12_mill_42 rfl (lv_at hl 1 rfl) ?_
      refine lv_iconst (v := 0) hx hb dX12_mill_43 (by decide) ?_
      refine lv_iconst (v := 0) hx hb dX12_mill_44 (by decide) ?_
      refine lv_iconst (v := 0) hx hb dX12_mill_45 (by decide) ?_
      refine mx_i (As := [.int 130, .int 309, .int 1, .int x1, .int 0, .int 0, .int 0]) (rest := [.ref h0]) (n := 7) (d := 0) ⟨hx, hb, hml, hown, hts⟩ (c_X12_comesBehind_309 l E D G h0 hG0 x1 0 0 0 ⟨by omega, by omega⟩ F6 hP8 (lt_of_rd e10 rfl (by omega))) wd_1435 wd_1437 wp_42 wd_13 wd_1438 (by decide +kernel) ⟨by rw [hR]; exact Nat.le_of_ble_eq_true rfl, by rw [hR]; exact Nat.le_of_ble_eq_true rfl⟩ hI hN hK hS hG0 (⟨a3, hf5, hq4, hA7⟩) rfl hl.1 rfl (Nat.le_of_ble_eq_true rfl) dX12_mill_46 ⟨Nat.zero_le _, Nat.zero_le _⟩ (fun r14 H locs hI hp hS => ?_)
      refine lv_iconst (v := 1) hx hb dX12_mill_49 (by decide) ?_
      refine lv_isub hx hb dX12_mill_50 ?_
      refine lv_topi (fun v15 e16 => ?_)
      try have tv15 : v15.toInt = r14.toInt - (1) := iv_sub rfl (by decide) e16 (by omega) (by omega)
      refine mx_i (As := [.int v15]) (rest := []) (n := 1) (d := 0) ⟨hx, hb, hml, hown, hts⟩ (c_X12_good l E D G h0 hG0 v15) wd_1402 wd_1404 wp_41 wd_13 wd_1405 (by decide +kernel) ⟨by rw [hR]; exact Nat.le_of_ble_eq_true rfl, by rw [hR]; exact Nat.le_of_ble_eq_true rfl⟩ hI hN hK hS hG0 (trivial) rfl hl.1 rfl (Nat.le_of_ble_eq_true rfl) dX12_mill_51 ⟨Nat.zero_le _, Nat.zero_le _⟩ (fun r17 H locs hI hp hS => ?_)
      obtain rfl := hp.symm
      have hpost : True := trivial
      rw [hQ]
      exact W.iret (v := v15) hx hb hr (fun t ht hW => ⟨⟨v15, v15, rfl, rfl, ⟨by rw [ht]; exact hI, hN.warm hW, va_K.moved hW.alike hK⟩, by first | (rw [ht]; exact hpost) | exact hpost⟩, hS.F ht⟩) hS.2.2 dX12_mill_54
    · skip
      have k18 := iv_eq (X := v9.toInt) (Y := (6)) rfl (by decide) c12
      refine lv_aload_n hx hb dX12_mill_26 rfl (lv_at hl 0 rfl) ?_
      refine lv_bipush (v := (-5)) hx hb dX12_mill_27 (by decide) ?_
      refine mx_i (As := [.int (-5)]) (rest := []) (n := 1) (d := 0) ⟨hx, hb, hml, hown, hts⟩ (c_X12_refuses l E D G h0 hG0 (-5) ⟨by decide, by decide⟩) wd_1398 wd_1400 wp_40 wd_13 wd_1401 (by decide +kernel) ⟨by rw [hR]; exact Nat.le_of_ble_eq_true rfl, by rw [hR]; exact Nat.le_of_ble_eq_true rfl⟩ hI hN hK hS hG0 (trivial) rfl hl.1 rfl (Nat.le_of_ble_eq_true rfl) dX12_mill_29 ⟨Nat.zero_le _, Nat.zero_le _⟩ (fun r19 H locs hI hp hS => ?_)
      obtain rfl := hp.symm
      have hpost : True := trivial
      rw [hQ]
      exact W.iret (v := (-5)) hx hb hr (fun t ht hW => ⟨⟨(-5), (-5), rfl, rfl, ⟨by rw [ht]; exact hI, hN.warm hW, va_K.moved hW.alike hK⟩, by first | (rw [ht]; exact hpost) | exact hpost⟩, hS.F ht⟩) hS.2.2 dX12_mill_32
  · skip
    try simp only [rg, not_and, Int.not_le] at hp
    have hp20 := hp
    refine lv_if_ne (tgt := 13) hx hb dX12_mill_4 (by decide) (fun c => absurd c (by decide)) (fun _ => ?_)
    refine lv_aload_n hx hb dX12_mill_7 rfl (lv_at hl 0 rfl) ?_
    refine lv_iconst (v := (-1)) hx hb dX12_mill_8 (by decide) ?_
    refine mx_i (As := [.int (-1)]) (rest := []) (n := 1) (d := 0) ⟨hx, hb, hml, hown, hts⟩ (c_X12_refuses l E D G h0 hG0 (-1) ⟨by decide, by decide⟩) wd_1398 wd_1400 wp_40 wd_13 wd_1401 (by decide +kernel) ⟨by rw [hR]; exact Nat.le_of_ble_eq_true rfl, by rw [hR]; exact Nat.le_of_ble_eq_true rfl⟩ hI hN hK hS hG0 (trivial) rfl hl.1 rfl (Nat.le_of_ble_eq_true rfl) dX12_mill_9 ⟨Nat.zero_le _, Nat.zero_le _⟩ (fun r21 H locs hI hp hS => ?_)
    obtain rfl := hp.symm
    have hpost : True := trivial
    rw [hQ]
    exact W.iret (v := (-1)) hx hb hr (fun t ht hW => ⟨⟨(-1), (-1), rfl, rfl, ⟨by rw [ht]; exact hI, hN.warm hW, va_K.moved hW.alike hK⟩, by first | (rw [ht]; exact hpost) | exact hpost⟩, hS.F ht⟩) hS.2.2 dX12_mill_12
theorem dX12_terms_0g : (decode cX12_terms 0 = .ok (.iload_n 1, 1)) ∧ (decode cX12_terms 1 = .ok (.iconst 0, 1)) ∧ (decode cX12_terms 2 = .ok (.iconst 1, 1)) ∧ (decode cX12_terms 3 = .ok (.invokestatic 103, 3)) ∧ (decode cX12_terms 6 = .ok (.ifCond .eq 30, 3)) ∧ (decode cX12_terms 9 = .ok (.iload_n 2, 1)) ∧ (decode cX12_terms 10 = .ok (.iload_n 1, 1)) ∧ (decode cX12_terms 11 = .ok (.ifCond .ne 8, 3)) ∧ (decode cX12_terms 14 = .ok (.bipush (-3), 2)) ∧ (decode cX12_terms 16 = .ok (.goto 4, 3)) := by decide +kernel
theorem dX12_terms_0 : decode cX12_terms 0 = .ok (.iload_n 1, 1) := dX12_terms_0g.1
theorem dX12_terms_1 : decode cX12_terms 1 = .ok (.iconst 0, 1) := dX12_terms_0g.2.1
theorem dX12_terms_2 : decode cX12_terms 2 = .ok (.iconst 1, 1) := dX12_terms_0g.2.2.1
theorem dX12_terms_3 : decode cX12_terms 3 = .ok (.invokestatic 103, 3) := dX12_terms_0g.2.2.2.1
theorem dX12_terms_6 : decode cX12_terms 6 = .ok (.ifCond .eq 30, 3) := dX12_terms_0g.2.2.2.2.1
theorem dX12_terms_9 : decode cX12_terms 9 = .ok (.iload_n 2, 1) := dX12_terms_0g.2.2.2.2.2.1
theorem dX12_terms_10 : decode cX12_terms 10 = .ok (.iload_n 1, 1) := dX12_terms_0g.2.2.2.2.2.2.1
theorem dX12_terms_11 : decode cX12_terms 11 = .ok (.ifCond .ne 8, 3) := dX12_terms_0g.2.2.2.2.2.2.2.1
theorem dX12_terms_14 : decode cX12_terms 14 = .ok (.bipush (-3), 2) := dX12_terms_0g.2.2.2.2.2.2.2.2.1
theorem dX12_terms_16 : decode cX12_terms 16 = .ok (.goto 4, 3) := dX12_terms_0g.2.2.2.2.2.2.2.2.2
theorem dX12_terms_19g : (decode cX12_terms 19 = .ok (.iconst 0, 1)) ∧ (decode cX12_terms 20 = .ok (.iload_n 1, 1)) ∧ (decode cX12_terms 21 = .ok (.ifCond .ne 7, 3)) ∧ (decode cX12_terms 24 = .ok (.iconst 3, 1)) ∧ (decode cX12_terms 25 = .ok (.goto 5, 3)) ∧ (decode cX12_terms 28 = .ok (.bipush 99, 2)) ∧ (decode cX12_terms 30 = .ok (.invokestatic 103, 3)) ∧ (decode cX12_terms 33 = .ok (.ifCond .ne 13, 3)) ∧ (decode cX12_terms 36 = .ok (.aload_n 0, 1)) ∧ (decode cX12_terms 37 = .ok (.iconst (-1), 1)) := by decide +kernel
theorem dX12_terms_19 : decode cX12_terms 19 = .ok (.iconst 0, 1) := dX12_terms_19g.1
theorem dX12_terms_20 : decode cX12_terms 20 = .ok (.iload_n 1, 1) := dX12_terms_19g.2.1
theorem dX12_terms_21 : decode cX12_terms 21 = .ok (.ifCond .ne 7, 3) := dX12_terms_19g.2.2.1
theorem dX12_terms_24 : decode cX12_terms 24 = .ok (.iconst 3, 1) := dX12_terms_19g.2.2.2.1
theorem dX12_terms_25 : decode cX12_terms 25 = .ok (.goto 5, 3) := dX12_terms_19g.2.2.2.2.1
theorem dX12_terms_28 : decode cX12_terms 28 = .ok (.bipush 99, 2) := dX12_terms_19g.2.2.2.2.2.1
theorem dX12_terms_30 : decode cX12_terms 30 = .ok (.invokestatic 103, 3) := dX12_terms_19g.2.2.2.2.2.2.1
theorem dX12_terms_33 : decode cX12_terms 33 = .ok (.ifCond .ne 13, 3) := dX12_terms_19g.2.2.2.2.2.2.2.1
theorem dX12_terms_36 : decode cX12_terms 36 = .ok (.aload_n 0, 1) := dX12_terms_19g.2.2.2.2.2.2.2.2.1
theorem dX12_terms_37 : decode cX12_terms 37 = .ok (.iconst (-1), 1) := dX12_terms_19g.2.2.2.2.2.2.2.2.2
theorem dX12_terms_38g : (decode cX12_terms 38 = .ok (.invokevirtual 107, 3)) ∧ (decode cX12_terms 41 = .ok (.pop, 1)) ∧ (decode cX12_terms 42 = .ok (.sipush (-1000), 3)) ∧ (decode cX12_terms 45 = .ok (.ireturn, 1)) ∧ (decode cX12_terms 46 = .ok (.aload_n 0, 1)) ∧ (decode cX12_terms 47 = .ok (.getfield 20, 3)) ∧ (decode cX12_terms 50 = .ok (.sipush 306, 3)) ∧ (decode cX12_terms 53 = .ok (.iload_n 1, 1)) ∧ (decode cX12_terms 54 = .ok (.iadd, 1)) ∧ (decode cX12_terms 55 = .ok (.iaload, 1)) := by decide +kernel
theorem dX12_terms_38 : decode cX12_terms 38 = .ok (.invokevirtual 107, 3) := dX12_terms_38g.1
theorem dX12_terms_41 : decode cX12_terms 41 = .ok (.pop, 1) := dX12_terms_38g.2.1
theorem dX12_terms_42 : decode cX12_terms 42 = .ok (.sipush (-1000), 3) := dX12_terms_38g.2.2.1
theorem dX12_terms_45 : decode cX12_terms 45 = .ok (.ireturn, 1) := dX12_terms_38g.2.2.2.1
theorem dX12_terms_46 : decode cX12_terms 46 = .ok (.aload_n 0, 1) := dX12_terms_38g.2.2.2.2.1
theorem dX12_terms_47 : decode cX12_terms 47 = .ok (.getfield 20, 3) := dX12_terms_38g.2.2.2.2.2.1
theorem dX12_terms_50 : decode cX12_terms 50 = .ok (.sipush 306, 3) := dX12_terms_38g.2.2.2.2.2.2.1
theorem dX12_terms_53 : decode cX12_terms 53 = .ok (.iload_n 1, 1) := dX12_terms_38g.2.2.2.2.2.2.2.1
theorem dX12_terms_54 : decode cX12_terms 54 = .ok (.iadd, 1) := dX12_terms_38g.2.2.2.2.2.2.2.2.1
theorem dX12_terms_55 : decode cX12_terms 55 = .ok (.iaload, 1) := dX12_terms_38g.2.2.2.2.2.2.2.2.2
theorem dX12_terms_56g : (decode cX12_terms 56 = .ok (.istore_n 3, 1)) ∧ (decode cX12_terms 57 = .ok (.aload_n 0, 1)) ∧ (decode cX12_terms 58 = .ok (.getfield 20, 3)) ∧ (decode cX12_terms 61 = .ok (.sipush 306, 3)) ∧ (decode cX12_terms 64 = .ok (.iload_n 1, 1)) ∧ (decode cX12_terms 65 = .ok (.iadd, 1)) ∧ (decode cX12_terms 66 = .ok (.iload_n 2, 1)) ∧ (decode cX12_terms 67 = .ok (.iastore, 1)) ∧ (decode cX12_terms 68 = .ok (.aload_n 0, 1)) ∧ (decode cX12_terms 69 = .ok (.iload_n 3, 1)) := by decide +kernel
theorem dX12_terms_56 : decode cX12_terms 56 = .ok (.istore_n 3, 1) := dX12_terms_56g.1
theorem dX12_terms_57 : decode cX12_terms 57 = .ok (.aload_n 0, 1) := dX12_terms_56g.2.1
theorem dX12_terms_58 : decode cX12_terms 58 = .ok (.getfield 20, 3) := dX12_terms_56g.2.2.1
theorem dX12_terms_61 : decode cX12_terms 61 = .ok (.sipush 306, 3) := dX12_terms_56g.2.2.2.1
theorem dX12_terms_64 : decode cX12_terms 64 = .ok (.iload_n 1, 1) := dX12_terms_56g.2.2.2.2.1
theorem dX12_terms_65 : decode cX12_terms 65 = .ok (.iadd, 1) := dX12_terms_56g.2.2.2.2.2.1
theorem dX12_terms_66 : decode cX12_terms 66 = .ok (.iload_n 2, 1) := dX12_terms_56g.2.2.2.2.2.2.1
theorem dX12_terms_67 : decode cX12_terms 67 = .ok (.iastore, 1) := dX12_terms_56g.2.2.2.2.2.2.2.1
theorem dX12_terms_68 : decode cX12_terms 68 = .ok (.aload_n 0, 1) := dX12_terms_56g.2.2.2.2.2.2.2.2.1
theorem dX12_terms_69 : decode cX12_terms 69 = .ok (.iload_n 3, 1) := dX12_terms_56g.2.2.2.2.2.2.2.2.2
theorem dX12_terms_70g : (decode cX12_terms 70 = .ok (.invokevirtual 111, 3)) ∧ (decode cX12_terms 73 = .ok (.ireturn, 1)) := by decide +kernel
theorem dX12_terms_70 : decode cX12_terms 70 = .ok (.invokevirtual 111, 3) := dX12_terms_70g.1
theorem dX12_terms_73 : decode cX12_terms 73 = .ok (.ireturn, 1) := dX12_terms_70g.2
set_option maxHeartbeats 4000000 in
set_option maxRecDepth 100000 in
theorem c_X12_terms (l : Launch) (E : Nat → Nat) (D : va_G) (G : th_G) (h0 : Nat) (hG0 : G h0 = some (10, 0)) (x1 : Int32) (x2 : Int32) : Met l yX12_terms (tb (.code yX12_terms cX12_terms 4 (some .int))) (rm 1) (va_Pc [.ref h0, .int x1, .int x2] (PX E D G (fun H => True))) (QXi E D G (fun r H => True)) 0 0 (th_A G) := by
  refine Met.ofW (cc := cX12_terms) (maxL := 4) (ret := (some .int)) (by decide) rfl ?_
  intro p e s m args below meth c s₁ B hml hv
  obtain ⟨hav, ⟨hI, hN, hK⟩, hX⟩ := hv
  have hx := B.exec
  have hb := B.bytes
  have hr := B.returns
  have hts := atoms_spec (ws := tb (.code yX12_terms cX12_terms 4 (some .int))) B.pre
  have hown : s.vm.findClass RX12 = some m.cls := findClass_of_methodNamed B.named
  have hlocks := B.notSynchronized
  have hS : va_S (th_A G) s.heap s.heap [] := va_S.rf
  have hl := lv_entry ([.ref h0, .int x1, .int x2]) (n := 4) (Nat.le_of_ble_eq_true rfl)
  rw [show entryFrame m args 4 = entryFrame m ([.ref h0, .int x1, .int x2] : List Value).toArray 4 from by rw [hav], lg_entry_eq]
  generalize (lg_sl ([.ref h0, .int x1, .int x2]) ++ List.replicate (4 - (lg_sl ([.ref h0, .int x1, .int x2])).length) Slot.unset).toArray = ls at hl ⊢
  have hl : lv_has ls 4 [(0, .ref h0), (1, .int x1), (2, .int x2)] := hl
  generalize hR : (headSpec (tb (.code yX12_terms cX12_terms 4 (some .int))) (rm 1)).room = R
  have hR := hR.symm
  generalize hQ : MQ below (QXi E D G (fun r H => True)) args s 0 0 (th_A G) = QF
  have hQ := hQ.symm
  have J_36 : ∀ (H : Heap) (locs : List Loc) (ls : Array Slot)  , lv_has ls 4 [(0, .ref h0), (1, .int x1), (2, .int x2)] → th_I (okM E) D G [] H → va_S (th_A G) s.heap H locs → W p l e R s m args below meth c H locs 0 0 QF (F0 m 36 ls []) := by
    intro H locs ls   hl  hI hS
    refine lv_aload_n hx hb dX12_terms_36 rfl (lv_at hl 0 rfl) ?_
    refine lv_iconst (v := (-1)) hx hb dX12_terms_37 (by decide) ?_
    refine mx_i (As := [.int (-1)]) (rest := []) (n := 1) (d := 0) ⟨hx, hb, hml, hown, hts⟩ (c_X12_refuses l E D G h0 hG0 (-1) ⟨by decide, by decide⟩) wd_1398 wd_1400 wp_40 wd_13 wd_1401 (by decide +kernel) ⟨by rw [hR]; exact Nat.le_of_ble_eq_true rfl, by rw [hR]; exact Nat.le_of_ble_eq_true rfl⟩ hI hN hK hS hG0 (trivial) rfl hl.1 rfl (Nat.le_of_ble_eq_true rfl) dX12_terms_38 ⟨Nat.zero_le _, Nat.zero_le _⟩ (fun r263 H locs hI hp hS => ?_)
    obtain rfl := hp.symm
    refine lv_pop hx hb dX12_terms_41 rfl ?_
    refine lv_sipush (v := (-1000)) hx hb dX12_terms_42 (by decide) ?_
    have hpost : True := trivial
    rw [hQ]
    exact W.iret (v := (-1000)) hx hb hr (fun t ht hW => ⟨⟨(-1000), (-1000), rfl, rfl, ⟨by rw [ht]; exact hI, hN.warm hW, va_K.moved hW.alike hK⟩, by first | (rw [ht]; exact hpost) | exact hpost⟩, hS.F ht⟩) hS.2.2 dX12_terms_45
  have J_30 : ∀ (H : Heap) (locs : List Loc) (ls : Array Slot) (v264 : Int32) (v265 : Int32) , lv_has ls 4 [(0, .ref h0), (1, .int x1), (2, .int x2)] → ((0 : Int) ≤ x1.toInt ∧ x1.toInt ≤ 1) → ((3 : Int) ≤ v264.toInt ∧ v264.toInt ≤ 99) → ((-3 : Int) ≤ v265.toInt ∧ v265.toInt ≤ 0) → th_I (okM E) D G [] H → va_S (th_A G) s.heap H locs → W p l e R s m args below meth c H locs 0 0 QF (F0 m 30 ls [.int v264, .int v265, .int x2]) := by
    intro H locs ls v264 v265  hl k266 k267 k268 hI hS
    refine th_cSs (As := [.int x2, .int v265, .int v264]) (rest := []) (n := 3) (d := 0) ⟨hx, hb, hml, hown, hts⟩ (c_X12_lies l H x2 v265 v264) wd_1395 wd_1396 wd_13 wd_1397 (by decide +kernel) ⟨by rw [hR]; exact Nat.le_of_ble_eq_true rfl, by rw [hR]; exact Nat.le_of_ble_eq_true rfl⟩ hN hS rfl hl.1 rfl (Nat.le_of_ble_eq_true rfl) dX12_terms_30 ⟨Nat.zero_le _, Nat.zero_le _⟩ (fun r269 locs hp hS => ?_)
    rcases hp with ⟨rfl, hp⟩ | ⟨rfl, hp⟩
    · skip
      try simp only [rg, not_and, Int.not_le] at hp
      have hp270 := hp
      refine lv_if_ne (tgt := 46) hx hb dX12_terms_33 (by decide) (fun _ => ?_) (fun c => absurd c (by decide))
      refine lv_aload_n hx hb dX12_terms_46 rfl (lv_at hl 0 rfl) ?_
      refine gmA hx hb hts inT12 hown hK hI List.not_mem_nil hG0 3 (by decide) (hts _ (tb_c wd_1236)) rfl rfl dX12_terms_47 (fun a271 hq272 hf273 => ?_)
      refine lv_sipush (v := 306) hx hb dX12_terms_50 (by decide) ?_
      refine lv_iload_n hx hb dX12_terms_53 rfl (lv_at hl 1 rfl) ?_
      refine lv_iadd hx hb dX12_terms_54 ?_
      refine lv_topi (fun v274 e275 => ?_)
      have tv274 : v274.toInt = (306) + x1.toInt := iv_add (by decide) rfl e275 (by omega) (by omega)
      obtain ⟨F276, hA277, hP278⟩ := om_1 hI hq272 List.not_mem_nil
      refine th_iald hx hb hK hA277 0 rfl (iv_in (X := v274.toInt) rfl (by omega) (by omega)) dX12_terms_55 (fun v279 e280 => ?_)
      refine lv_istore_n (lv' := [(3, .int v279), (0, .ref h0), (1, .int x1), (2, .int x2)]) hx hb dX12_terms_56 rfl hl (by decide) rfl (fun ls hl => ?_)
      refine lv_aload_n hx hb dX12_terms_57 rfl (lv_at hl 1 rfl) ?_
      refine gmA hx hb hts inT12 hown hK hI List.not_mem_nil hG0 3 (by decide) (hts _ (tb_c wd_1236)) rfl rfl dX12_terms_58 (fun a281 hq282 hf283 => ?_)
      obtain rfl := fr.uniq (by decide) hf273 hf283
      refine lv_sipush (v := 306) hx hb dX12_terms_61 (by decide) ?_
      refine lv_iload_n hx hb dX12_terms_64 rfl (lv_at hl 2 rfl) ?_
      refine lv_iadd hx hb dX12_terms_65 ?_
      refine lv_topi (fun v284 e285 => ?_)
      have tv284 : v284.toInt = (306) + x1.toInt := iv_add (by decide) rfl e285 (by omega) (by omega)
      refine lv_iload_n hx hb dX12_terms_66 rfl (lv_at hl 3 rfl) ?_
      refine th_iast hx hb hK hA277 0 rfl hS ⟨_, hq272⟩ (iv_in (X := v284.toInt) rfl (by omega) (by omega)) dX12_terms_67 (fun H locs hA286 oq hS => ?_)
      have hP287 := kOk.set (i := v284) (v := x2) hP278 (X := v284.toInt) (V := x2.toInt) rfl rfl (by omega) (by omega) (ks_term (by omega) (by omega) (by omega))
      have hI := th_I.put hI hq272 hA286 (ok_m1 hP287) oq
      have hf273 := fr.arr hG0 hq272 (by decide) oq hf273
      have e288 : x2 = (upd F276 (v284 : Int32).toNatClampNeg x2) (v284 : Int32).toNatClampNeg := rd_us
      refine lv_aload_n hx hb dX12_terms_68 rfl (lv_at hl 1 rfl) ?_
      refine lv_iload_n hx hb dX12_terms_69 rfl (lv_at hl 0 rfl) ?_
      refine mx_i (As := [.int v279]) (rest := []) (n := 1) (d := 0) ⟨hx, hb, hml, hown, hts⟩ (c_X12_good l E D G h0 hG0 v279) wd_1402 wd_1404 wp_41 wd_13 wd_1405 (by decide +kernel) ⟨by rw [hR]; exact Nat.le_of_ble_eq_true rfl, by rw [hR]; exact Nat.le_of_ble_eq_true rfl⟩ hI hN hK hS hG0 (trivial) rfl hl.1 rfl (Nat.le_of_ble_eq_true rfl) dX12_terms_70 ⟨Nat.zero_le _, Nat.zero_le _⟩ (fun r289 H locs hI hp hS => ?_)
      obtain rfl := hp.symm
      have hpost : True := trivial
      rw [hQ]
      exact W.iret (v := v279) hx hb hr (fun t ht hW => ⟨⟨v279, v279, rfl, rfl, ⟨by rw [ht]; exact hI, hN.warm hW, va_K.moved hW.alike hK⟩, by first | (rw [ht]; exact hpost) | exact hpost⟩, hS.F ht⟩) hS.2.2 dX12_terms_73
    · skip
      try simp only [rg, not_and, Int.not_le] at hp
      have hp290 := hp
      refine lv_if_ne (tgt := 46) hx hb dX12_terms_33 (by decide) (fun c => absurd c (by decide)) (fun _ => ?_)
      exact J_36 H locs ls   (lv_sub hl [0, 1, 2] rfl)  hI hS
  have J_20 : ∀ (H : Heap) (locs : List Loc) (ls : Array Slot) (v291 : Int32) , lv_has ls 4 [(0, .ref h0), (1, .int x1), (2, .int x2)] → ((0 : Int) ≤ x1.toInt ∧ x1.toInt ≤ 1) → ((-3 : Int) ≤ v291.toInt ∧ v291.toInt ≤ 0) → th_I (okM E) D G [] H → va_S (th_A G) s.heap H locs → W p l e R s m args below meth c H locs 0 0 QF (F0 m 20 ls [.int v291, .int x2]) := by
    intro H locs ls v291  hl k292 k293 hI hS
    refine lv_iload_n hx hb dX12_terms_20 rfl (lv_at hl 1 rfl) ?_
    refine lv_if_ne (tgt := 28) hx hb dX12_terms_21 (by decide) (fun c294 => ?_) (fun c294 => ?_)
    · skip
      have k295 := iv_ne (X := x1.toInt) (Y := (0)) rfl (by decide) c294
      refine lv_bipush (v := 99) hx hb dX12_terms_28 (by decide) ?_
      exact J_30 H locs ls 99 v291  (lv_sub hl [0, 1, 2] rfl) ⟨by omega, by omega⟩ ⟨by decide, by decide⟩ ⟨by omega, by omega⟩ hI hS
    · skip
      have k296 := iv_eq (X := x1.toInt) (Y := (0)) rfl (by decide) c294
      refine lv_iconst (v := 3) hx hb dX12_terms_24 (by decide) ?_
      refine lv_goto (tgt := 30) hx hb dX12_terms_25 (by decide) ?_
      exact J_30 H locs ls 3 v291  (lv_sub hl [0, 1, 2] rfl) ⟨by omega, by omega⟩ ⟨by decide, by decide⟩ ⟨by omega, by omega⟩ hI hS
  refine lv_iload_n hx hb dX12_terms_0 rfl (lv_at hl 1 rfl) ?_
  refine lv_iconst (v := 0) hx hb dX12_terms_1 (by decide) ?_
  refine lv_iconst (v := 1) hx hb dX12_terms_2 (by decide) ?_
  refine th_cSs (As := [.int x1, .int 0, .int 1]) (rest := []) (n := 3) (d := 0) ⟨hx, hb, hml, hown, hts⟩ (c_X12_lies l s.heap x1 0 1) wd_1395 wd_1396 wd_13 wd_1397 (by decide +kernel) ⟨by rw [hR]; exact Nat.le_of_ble_eq_true rfl, by rw [hR]; exact Nat.le_of_ble_eq_true rfl⟩ hN hS rfl hl.1 rfl (Nat.le_of_ble_eq_true rfl) dX12_terms_3 ⟨Nat.zero_le _, Nat.zero_le _⟩ (fun r297 locs hp hS => ?_)
  rcases hp with ⟨rfl, hp⟩ | ⟨rfl, hp⟩
  · skip
    try simp only [rg, not_and, Int.not_le] at hp
    have hp298 := hp
    try rw [show (0 : Int32).toInt = 0 from by decide] at hp298
    try rw [show (1 : Int32).toInt = 1 from by decide] at hp298
    refine lv_if_eq (tgt := 36) hx hb dX12_terms_6 (by decide) (fun c => absurd c (by decide)) (fun _ => ?_)
    refine lv_iload_n hx hb dX12_terms_9 rfl (lv_at hl 2 rfl) ?_
    refine lv_iload_n hx hb dX12_terms_10 rfl (lv_at hl 1 rfl) ?_
    refine lv_if_ne (tgt := 19) hx hb dX12_terms_11 (by decide) (fun c299 => ?_) (fun c299 => ?_)
    · skip
      have k300 := iv_ne (X := x1.toInt) (Y := (0)) rfl (by decide) c299
      refine lv_iconst (v := 0) hx hb dX12_terms_19 (by decide) ?_
      exact J_20 s.heap locs ls 0  (lv_sub hl [0, 1, 2] rfl) ⟨by omega, by omega⟩ ⟨by decide, by decide⟩ hI hS
    · skip
      have k301 := iv_eq (X := x1.toInt) (Y := (0)) rfl (by decide) c299
      refine lv_bipush (v := (-3)) hx hb dX12_terms_14 (by decide) ?_
      refine lv_goto (tgt := 20) hx hb dX12_terms_16 (by decide) ?_
      exact J_20 s.heap locs ls (-3)  (lv_sub hl [0, 1, 2] rfl) ⟨by omega, by omega⟩ ⟨by decide, by decide⟩ hI hS
  · skip
    try simp only [rg, not_and, Int.not_le] at hp
    have hp302 := hp
    try rw [show (0 : Int32).toInt = 0 from by decide] at hp302
    try rw [show (1 : Int32).toInt = 1 from by decide] at hp302
    refine lv_if_eq (tgt := 36) hx hb dX12_terms_6 (by decide) (fun _ => ?_) (fun c => absurd c (by decide))
    exact J_36 s.heap locs ls   (lv_sub hl [0, 1, 2] rfl)  hI hS
theorem dX12_foam_0g : (decode cX12_foam 0 = .ok (.aload_n 0, 1)) ∧ (decode cX12_foam 1 = .ok (.getfield 135, 3)) ∧ (decode cX12_foam 4 = .ok (.ireturn, 1)) := by decide +kernel
theorem dX12_foam_0 : decode cX12_foam 0 = .ok (.aload_n 0, 1) := dX12_foam_0g.1
theorem dX12_foam_1 : decode cX12_foam 1 = .ok (.getfield 135, 3) := dX12_foam_0g.2.1
theorem dX12_foam_4 : decode cX12_foam 4 = .ok (.ireturn, 1) := dX12_foam_0g.2.2
set_option maxHeartbeats 4000000 in
set_option maxRecDepth 100000 in
theorem c_X12_foam (l : Launch) (E : Nat → Nat) (D : va_G) (G : th_G) (h0 : Nat) (hG0 : G h0 = some (10, 0)) : Met l yX12_foam (tb (.code yX12_foam cX12_foam 1 (some .int))) (rm 0) (va_Pc [.ref h0] (PX E D G (fun H => True))) (QXi E D G (fun r H => True)) 0 0 (th_A G) := by
  refine Met.ofW (cc := cX12_foam) (maxL := 1) (ret := (some .int)) (by decide) rfl ?_
  intro p e s m args below meth c s₁ B hml hv
  obtain ⟨hav, ⟨hI, hN, hK⟩, hX⟩ := hv
  have hx := B.exec
  have hb := B.bytes
  have hr := B.returns
  have hts := atoms_spec (ws := tb (.code yX12_foam cX12_foam 1 (some .int))) B.pre
  have hown : s.vm.findClass RX12 = some m.cls := findClass_of_methodNamed B.named
  have hlocks := B.notSynchronized
  have hS : va_S (th_A G) s.heap s.heap [] := va_S.rf
  have hl := lv_entry ([.ref h0]) (n := 1) (Nat.le_of_ble_eq_true rfl)
  rw [show entryFrame m args 1 = entryFrame m ([.ref h0] : List Value).toArray 1 from by rw [hav], lg_entry_eq]
  generalize (lg_sl ([.ref h0]) ++ List.replicate (1 - (lg_sl ([.ref h0])).length) Slot.unset).toArray = ls at hl ⊢
  have hl : lv_has ls 1 [(0, .ref h0)] := hl
  generalize hR : (headSpec (tb (.code yX12_foam cX12_foam 1 (some .int))) (rm 0)).room = R
  have hR := hR.symm
  generalize hQ : MQ below (QXi E D G (fun r H => True)) args s 0 0 (th_A G) = QF
  have hQ := hQ.symm
  refine lv_aload_n hx hb dX12_foam_0 rfl (lv_at hl 0 rfl) ?_
  refine gmI hx hb hts inT12 hown hK hI List.not_mem_nil hG0 6 (by decide) (hts _ (tb_c wd_1239)) rfl rfl dX12_foam_1 (fun w1 hg2 k3 k4 => ?_)
  have hpost : True := trivial
  rw [hQ]
  exact W.iret (v := w1) hx hb hr (fun t ht hW => ⟨⟨w1, w1, rfl, rfl, ⟨by rw [ht]; exact hI, hN.warm hW, va_K.moved hW.alike hK⟩, by first | (rw [ht]; exact hpost) | exact hpost⟩, hS.F ht⟩) hS.2.2 dX12_foam_4
theorem dX12_feed_0g : (decode cX12_feed 0 = .ok (.aload_n 0, 1)) ∧ (decode cX12_feed 1 = .ok (.getfield 132, 3)) ∧ (decode cX12_feed 4 = .ok (.bipush 20, 2)) ∧ (decode cX12_feed 6 = .ok (.iadd, 1)) ∧ (decode cX12_feed 7 = .ok (.sipush 400, 3)) ∧ (decode cX12_feed 10 = .ok (.if_icmp .le 5, 3)) ∧ (decode cX12_feed 13 = .ok (.iconst (-1), 1)) ∧ (decode cX12_feed 14 = .ok (.ireturn, 1)) ∧ (decode cX12_feed 15 = .ok (.aload_n 0, 1)) ∧ (decode cX12_feed 16 = .ok (.getfield 37, 3)) := by decide +kernel
theorem dX12_feed_0 : decode cX12_feed 0 = .ok (.aload_n 0, 1) := dX12_feed_0g.1
theorem dX12_feed_1 : decode cX12_feed 1 = .ok (.getfield 132, 3) := dX12_feed_0g.2.1
theorem dX12_feed_4 : decode cX12_feed 4 = .ok (.bipush 20, 2) := dX12_feed_0g.2.2.1
theorem dX12_feed_6 : decode cX12_feed 6 = .ok (.iadd, 1) := dX12_feed_0g.2.2.2.1
theorem dX12_feed_7 : decode cX12_feed 7 = .ok (.sipush 400, 3) := dX12_feed_0g.2.2.2.2.1
theorem dX12_feed_10 : decode cX12_feed 10 = .ok (.if_icmp .le 5, 3) := dX12_feed_0g.2.2.2.2.2.1
theorem dX12_feed_13 : decode cX12_feed 13 = .ok (.iconst (-1), 1) := dX12_feed_0g.2.2.2.2.2.2.1
theorem dX12_feed_14 : decode cX12_feed 14 = .ok (.ireturn, 1) := dX12_feed_0g.2.2.2.2.2.2.2.1
theorem dX12_feed_15 : decode cX12_feed 15 = .ok (.aload_n 0, 1) := dX12_feed_0g.2.2.2.2.2.2.2.2.1
theorem dX12_feed_16 : decode cX12_feed 16 = .ok (.getfield 37, 3) := dX12_feed_0g.2.2.2.2.2.2.2.2.2
theorem dX12_feed_19g : (decode cX12_feed 19 = .ok (.iconst 0, 1)) ∧ (decode cX12_feed 20 = .ok (.iload_n 1, 1)) ∧ (decode cX12_feed 21 = .ok (.iastore, 1)) ∧ (decode cX12_feed 22 = .ok (.aload_n 0, 1)) ∧ (decode cX12_feed 23 = .ok (.getfield 37, 3)) ∧ (decode cX12_feed 26 = .ok (.iconst 1, 1)) ∧ (decode cX12_feed 27 = .ok (.iload_n 2, 1)) ∧ (decode cX12_feed 28 = .ok (.iastore, 1)) ∧ (decode cX12_feed 29 = .ok (.aload_n 0, 1)) ∧ (decode cX12_feed 30 = .ok (.getfield 37, 3)) := by decide +kernel
theorem dX12_feed_19 : decode cX12_feed 19 = .ok (.iconst 0, 1) := dX12_feed_19g.1
theorem dX12_feed_20 : decode cX12_feed 20 = .ok (.iload_n 1, 1) := dX12_feed_19g.2.1
theorem dX12_feed_21 : decode cX12_feed 21 = .ok (.iastore, 1) := dX12_feed_19g.2.2.1
theorem dX12_feed_22 : decode cX12_feed 22 = .ok (.aload_n 0, 1) := dX12_feed_19g.2.2.2.1
theorem dX12_feed_23 : decode cX12_feed 23 = .ok (.getfield 37, 3) := dX12_feed_19g.2.2.2.2.1
theorem dX12_feed_26 : decode cX12_feed 26 = .ok (.iconst 1, 1) := dX12_feed_19g.2.2.2.2.2.1
theorem dX12_feed_27 : decode cX12_feed 27 = .ok (.iload_n 2, 1) := dX12_feed_19g.2.2.2.2.2.2.1
theorem dX12_feed_28 : decode cX12_feed 28 = .ok (.iastore, 1) := dX12_feed_19g.2.2.2.2.2.2.2.1
theorem dX12_feed_29 : decode cX12_feed 29 = .ok (.aload_n 0, 1) := dX12_feed_19g.2.2.2.2.2.2.2.2.1
theorem dX12_feed_30 : decode cX12_feed 30 = .ok (.getfield 37, 3) := dX12_feed_19g.2.2.2.2.2.2.2.2.2
theorem dX12_feed_33g : (decode cX12_feed 33 = .ok (.iconst 2, 1)) ∧ (decode cX12_feed 34 = .ok (.iload_n 3, 1)) ∧ (decode cX12_feed 35 = .ok (.iastore, 1)) ∧ (decode cX12_feed 36 = .ok (.aload_n 0, 1)) ∧ (decode cX12_feed 37 = .ok (.getfield 37, 3)) ∧ (decode cX12_feed 40 = .ok (.iconst 3, 1)) ∧ (decode cX12_feed 41 = .ok (.iload 4, 2)) ∧ (decode cX12_feed 43 = .ok (.iastore, 1)) ∧ (decode cX12_feed 44 = .ok (.aload_n 0, 1)) ∧ (decode cX12_feed 45 = .ok (.getfield 37, 3)) := by decide +kernel
theorem dX12_feed_33 : decode cX12_feed 33 = .ok (.iconst 2, 1) := dX12_feed_33g.1
theorem dX12_feed_34 : decode cX12_feed 34 = .ok (.iload_n 3, 1) := dX12_feed_33g.2.1
theorem dX12_feed_35 : decode cX12_feed 35 = .ok (.iastore, 1) := dX12_feed_33g.2.2.1
theorem dX12_feed_36 : decode cX12_feed 36 = .ok (.aload_n 0, 1) := dX12_feed_33g.2.2.2.1
theorem dX12_feed_37 : decode cX12_feed 37 = .ok (.getfield 37, 3) := dX12_feed_33g.2.2.2.2.1
theorem dX12_feed_40 : decode cX12_feed 40 = .ok (.iconst 3, 1) := dX12_feed_33g.2.2.2.2.2.1
theorem dX12_feed_41 : decode cX12_feed 41 = .ok (.iload 4, 2) := dX12_feed_33g.2.2.2.2.2.2.1
theorem dX12_feed_43 : decode cX12_feed 43 = .ok (.iastore, 1) := dX12_feed_33g.2.2.2.2.2.2.2.1
theorem dX12_feed_44 : decode cX12_feed 44 = .ok (.aload_n 0, 1) := dX12_feed_33g.2.2.2.2.2.2.2.2.1
theorem dX12_feed_45 : decode cX12_feed 45 = .ok (.getfield 37, 3) := dX12_feed_33g.2.2.2.2.2.2.2.2.2
theorem dX12_feed_48g : (decode cX12_feed 48 = .ok (.iconst 4, 1)) ∧ (decode cX12_feed 49 = .ok (.iload 5, 2)) ∧ (decode cX12_feed 51 = .ok (.iastore, 1)) ∧ (decode cX12_feed 52 = .ok (.iconst 0, 1)) ∧ (decode cX12_feed 53 = .ok (.istore 6, 2)) ∧ (decode cX12_feed 55 = .ok (.iload 6, 2)) ∧ (decode cX12_feed 57 = .ok (.bipush 20, 2)) ∧ (decode cX12_feed 59 = .ok (.if_icmp .ge 42, 3)) ∧ (decode cX12_feed 62 = .ok (.aload_n 0, 1)) ∧ (decode cX12_feed 63 = .ok (.getfield 34, 3)) := by decide +kernel
theorem dX12_feed_48 : decode cX12_feed 48 = .ok (.iconst 4, 1) := dX12_feed_48g.1
theorem dX12_feed_49 : decode cX12_feed 49 = .ok (.iload 5, 2) := dX12_feed_48g.2.1
theorem dX12_feed_51 : decode cX12_feed 51 = .ok (.iastore, 1) := dX12_feed_48g.2.2.1
theorem dX12_feed_52 : decode cX12_feed 52 = .ok (.iconst 0, 1) := dX12_feed_48g.2.2.2.1
theorem dX12_feed_53 : decode cX12_feed 53 = .ok (.istore 6, 2) := dX12_feed_48g.2.2.2.2.1
theorem dX12_feed_55 : decode cX12_feed 55 = .ok (.iload 6, 2) := dX12_feed_48g.2.2.2.2.2.1
theorem dX12_feed_57 : decode cX12_feed 57 = .ok (.bipush 20, 2) := dX12_feed_48g.2.2.2.2.2.2.1
theorem dX12_feed_59 : decode cX12_feed 59 = .ok (.if_icmp .ge 42, 3) := dX12_feed_48g.2.2.2.2.2.2.2.1
theorem dX12_feed_62 : decode cX12_feed 62 = .ok (.aload_n 0, 1) := dX12_feed_48g.2.2.2.2.2.2.2.2.1
theorem dX12_feed_63 : decode cX12_feed 63 = .ok (.getfield 34, 3) := dX12_feed_48g.2.2.2.2.2.2.2.2.2
theorem dX12_feed_66g : (decode cX12_feed 66 = .ok (.aload_n 0, 1)) ∧ (decode cX12_feed 67 = .ok (.getfield 132, 3)) ∧ (decode cX12_feed 70 = .ok (.iload 6, 2)) ∧ (decode cX12_feed 72 = .ok (.iadd, 1)) ∧ (decode cX12_feed 73 = .ok (.aload_n 0, 1)) ∧ (decode cX12_feed 74 = .ok (.getfield 37, 3)) ∧ (decode cX12_feed 77 = .ok (.iload 6, 2)) ∧ (decode cX12_feed 79 = .ok (.iconst 4, 1)) ∧ (decode cX12_feed 80 = .ok (.idiv, 1)) ∧ (decode cX12_feed 81 = .ok (.iaload, 1)) := by decide +kernel
theorem dX12_feed_66 : decode cX12_feed 66 = .ok (.aload_n 0, 1) := dX12_feed_66g.1
theorem dX12_feed_67 : decode cX12_feed 67 = .ok (.getfield 132, 3) := dX12_feed_66g.2.1
theorem dX12_feed_70 : decode cX12_feed 70 = .ok (.iload 6, 2) := dX12_feed_66g.2.2.1
theorem dX12_feed_72 : decode cX12_feed 72 = .ok (.iadd, 1) := dX12_feed_66g.2.2.2.1
theorem dX12_feed_73 : decode cX12_feed 73 = .ok (.aload_n 0, 1) := dX12_feed_66g.2.2.2.2.1
theorem dX12_feed_74 : decode cX12_feed 74 = .ok (.getfield 37, 3) := dX12_feed_66g.2.2.2.2.2.1
theorem dX12_feed_77 : decode cX12_feed 77 = .ok (.iload 6, 2) := dX12_feed_66g.2.2.2.2.2.2.1
theorem dX12_feed_79 : decode cX12_feed 79 = .ok (.iconst 4, 1) := dX12_feed_66g.2.2.2.2.2.2.2.1
theorem dX12_feed_80 : decode cX12_feed 80 = .ok (.idiv, 1) := dX12_feed_66g.2.2.2.2.2.2.2.2.1
theorem dX12_feed_81 : decode cX12_feed 81 = .ok (.iaload, 1) := dX12_feed_66g.2.2.2.2.2.2.2.2.2
theorem dX12_feed_82g : (decode cX12_feed 82 = .ok (.bipush 24, 2)) ∧ (decode cX12_feed 84 = .ok (.bipush 8, 2)) ∧ (decode cX12_feed 86 = .ok (.iload 6, 2)) ∧ (decode cX12_feed 88 = .ok (.iconst 4, 1)) ∧ (decode cX12_feed 89 = .ok (.irem, 1)) ∧ (decode cX12_feed 90 = .ok (.imul, 1)) ∧ (decode cX12_feed 91 = .ok (.isub, 1)) ∧ (decode cX12_feed 92 = .ok (.ishr, 1)) ∧ (decode cX12_feed 93 = .ok (.i2b, 1)) ∧ (decode cX12_feed 94 = .ok (.bastore, 1)) := by decide +kernel
theorem dX12_feed_82 : decode cX12_feed 82 = .ok (.bipush 24, 2) := dX12_feed_82g.1
theorem dX12_feed_84 : decode cX12_feed 84 = .ok (.bipush 8, 2) := dX12_feed_82g.2.1
theorem dX12_feed_86 : decode cX12_feed 86 = .ok (.iload 6, 2) := dX12_feed_82g.2.2.1
theorem dX12_feed_88 : decode cX12_feed 88 = .ok (.iconst 4, 1) := dX12_feed_82g.2.2.2.1
theorem dX12_feed_89 : decode cX12_feed 89 = .ok (.irem, 1) := dX12_feed_82g.2.2.2.2.1
theorem dX12_feed_90 : decode cX12_feed 90 = .ok (.imul, 1) := dX12_feed_82g.2.2.2.2.2.1
theorem dX12_feed_91 : decode cX12_feed 91 = .ok (.isub, 1) := dX12_feed_82g.2.2.2.2.2.2.1
theorem dX12_feed_92 : decode cX12_feed 92 = .ok (.ishr, 1) := dX12_feed_82g.2.2.2.2.2.2.2.1
theorem dX12_feed_93 : decode cX12_feed 93 = .ok (.i2b, 1) := dX12_feed_82g.2.2.2.2.2.2.2.2.1
theorem dX12_feed_94 : decode cX12_feed 94 = .ok (.bastore, 1) := dX12_feed_82g.2.2.2.2.2.2.2.2.2
theorem dX12_feed_95g : (decode cX12_feed 95 = .ok (.iinc 6 1, 3)) ∧ (decode cX12_feed 98 = .ok (.goto (-43), 3)) ∧ (decode cX12_feed 101 = .ok (.aload_n 0, 1)) ∧ (decode cX12_feed 102 = .ok (.dup, 1)) ∧ (decode cX12_feed 103 = .ok (.getfield 132, 3)) ∧ (decode cX12_feed 106 = .ok (.bipush 20, 2)) ∧ (decode cX12_feed 108 = .ok (.iadd, 1)) ∧ (decode cX12_feed 109 = .ok (.putfield 132, 3)) ∧ (decode cX12_feed 112 = .ok (.aload_n 0, 1)) ∧ (decode cX12_feed 113 = .ok (.getfield 132, 3)) := by decide +kernel
theorem dX12_feed_95 : decode cX12_feed 95 = .ok (.iinc 6 1, 3) := dX12_feed_95g.1
theorem dX12_feed_98 : decode cX12_feed 98 = .ok (.goto (-43), 3) := dX12_feed_95g.2.1
theorem dX12_feed_101 : decode cX12_feed 101 = .ok (.aload_n 0, 1) := dX12_feed_95g.2.2.1
theorem dX12_feed_102 : decode cX12_feed 102 = .ok (.dup, 1) := dX12_feed_95g.2.2.2.1
theorem dX12_feed_103 : decode cX12_feed 103 = .ok (.getfield 132, 3) := dX12_feed_95g.2.2.2.2.1
theorem dX12_feed_106 : decode cX12_feed 106 = .ok (.bipush 20, 2) := dX12_feed_95g.2.2.2.2.2.1
theorem dX12_feed_108 : decode cX12_feed 108 = .ok (.iadd, 1) := dX12_feed_95g.2.2.2.2.2.2.1
theorem dX12_feed_109 : decode cX12_feed 109 = .ok (.putfield 132, 3) := dX12_feed_95g.2.2.2.2.2.2.2.1
theorem dX12_feed_112 : decode cX12_feed 112 = .ok (.aload_n 0, 1) := dX12_feed_95g.2.2.2.2.2.2.2.2.1
theorem dX12_feed_113 : decode cX12_feed 113 = .ok (.getfield 132, 3) := dX12_feed_95g.2.2.2.2.2.2.2.2.2
theorem dX12_feed_116 : decode cX12_feed 116 = .ok (.ireturn, 1) := by decide +kernel
set_option maxHeartbeats 4000000 in
set_option maxRecDepth 100000 in
theorem c_X12_feed (l : Launch) (E : Nat → Nat) (D : va_G) (G : th_G) (h0 : Nat) (hG0 : G h0 = some (10, 0)) (x1 : Int32) (x2 : Int32) (x3 : Int32) (x4 : Int32) (x5 : Int32) : Met l yX12_feed (tb (.code yX12_feed cX12_feed 7 (some .int))) (rm 0) (va_Pc [.ref h0, .int x1, .int x2, .int x3, .int x4, .int x5] (PX E D G (fun H => True))) (QXi E D G (fun r H => True)) 0 0 (th_A G) := by
  refine Met.ofW (cc := cX12_feed) (maxL := 7) (ret := (some .int)) (by decide) rfl ?_
  intro p e s m args below meth c s₁ B hml hv
  obtain ⟨hav, ⟨hI, hN, hK⟩, hX⟩ := hv
  have hx := B.exec
  have hb := B.bytes
  have hr := B.returns
  have hts := atoms_spec (ws := tb (.code yX12_feed cX12_feed 7 (some .int))) B.pre
  have hown : s.vm.findClass RX12 = some m.cls := findClass_of_methodNamed B.named
  have hlocks := B.notSynchronized
  have hS : va_S (th_A G) s.heap s.heap [] := va_S.rf
  have hl := lv_entry ([.ref h0, .int x1, .int x2, .int x3, .int x4, .int x5]) (n := 7) (Nat.le_of_ble_eq_true rfl)
  rw [show entryFrame m args 7 = entryFrame m ([.ref h0, .int x1, .int x2, .int x3, .int x4, .int x5] : List Value).toArray 7 from by rw [hav], lg_entry_eq]
  generalize (lg_sl ([.ref h0, .int x1, .int x2, .int x3, .int x4, .int x5]) ++ List.replicate (7 - (lg_sl ([.ref h0, .int x1, .int x2, .int x3, .int x4, .int x5])).length) Slot.unset).toArray = ls at hl ⊢
  have hl : lv_has ls 7 [(0, .ref h0), (1, .int x1), (2, .int x2), (3, .int x3), (4, .int x4), (5, .int x5)] := hl
  generalize hR : (headSpec (tb (.code yX12_feed cX12_feed 7 (some .int))) (rm 0)).room = R
  have hR := hR.symm
  generalize hQ : MQ below (QXi E D G (fun r H => True)) args s 0 0 (th_A G) = QF
  have hQ := hQ.symm
  have J_55 : ∀ (nn : Nat) (H : Heap) (locs : List Loc) (ls : Array Slot) (v1719 : Int32) (v1720 : Int32) , (Int.toNat (20 - v1719.toInt) = nn) → lv_has ls 7 [(6, .int v1719), (0, .ref h0), (1, .int x1), (2, .int x2), (3, .int x3), (4, .int x4), (5, .int x5)] → ((0 : Int) ≤ v1719.toInt ∧ v1719.toInt ≤ 20) → ((0 : Int) ≤ v1720.toInt ∧ v1720.toInt ≤ 380) → gf D h0 10 v1720 H → th_I (okM E) D G [] H → va_S (th_A G) s.heap H locs → W p l e R s m args below meth c H locs 0 0 QF (F0 m 55 ls []) := by
    intro nn
    induction nn using Nat.strongRecOn with
    | ind nn ih_55 =>
      intro H locs ls v1719 v1720  hm hl k1721 k1722 hg1723 hI hS
      refine lv_iload hx hb dX12_feed_55 (lv_at hl 0 rfl) ?_
      refine lv_bipush (v := 20) hx hb dX12_feed_57 (by decide) ?_
      refine lv_icmp_ge (tgt := 101) hx hb dX12_feed_59 (by decide) (fun c1724 => ?_) (fun c1724 => ?_)
      · skip
        have k1725 := iv_le (X := (20)) (Y := v1719.toInt) (by decide) rfl c1724
        refine lv_aload_n hx hb dX12_feed_101 rfl (lv_at hl 1 rfl) ?_
        refine lv_dup hx hb dX12_feed_102 rfl ?_
        refine gmI hx hb hts inT12 hown hK hI List.not_mem_nil hG0 10 (by decide) (hts _ (tb_c wd_1243)) rfl rfl dX12_feed_103 (fun w1726 hg1727 k1728 k1729 => ?_)
        obtain rfl := gf.uniq (by decide) hg1723 hg1727
        refine lv_bipush (v := 20) hx hb dX12_feed_106 (by decide) ?_
        refine lv_iadd hx hb dX12_feed_108 ?_
        refine lv_topi (fun v1730 e1731 => ?_)
        have tv1730 : v1730.toInt = v1720.toInt + (20) := iv_add rfl (by decide) e1731 (by omega) (by omega)
        refine pmI (ty := .int) hx hb hts inT12 hown hK hI List.not_mem_nil hG0 hS ⟨_, hG0⟩ 10 (by decide) (hts _ (tb_c wd_1243)) rfl rfl (by decide +kernel) rfl rfl rfl (by omega) (by omega) dX12_feed_109 (fun H locs hI hgP hS => ?_)
        have hg1732 := hgP.2.1
        refine lv_aload_n hx hb dX12_feed_112 rfl (lv_at hl 1 rfl) ?_
        refine gmI hx hb hts inT12 hown hK hI List.not_mem_nil hG0 10 (by decide) (hts _ (tb_c wd_1243)) rfl rfl dX12_feed_113 (fun w1733 hg1734 k1735 k1736 => ?_)
        obtain rfl := gf.uniq (by decide) hg1732 hg1734
        have hpost : True := trivial
        rw [hQ]
        exact W.iret (v := v1730) hx hb hr (fun t ht hW => ⟨⟨v1730, v1730, rfl, rfl, ⟨by rw [ht]; exact hI, hN.warm hW, va_K.moved hW.alike hK⟩, by first | (rw [ht]; exact hpost) | exact hpost⟩, hS.F ht⟩) hS.2.2 dX12_feed_116
      · skip
        have k1737 := iv_nle (X := (20)) (Y := v1719.toInt) (by decide) rfl c1724
        refine lv_aload_n hx hb dX12_feed_62 rfl (lv_at hl 1 rfl) ?_
        refine gmA hx hb hts inT12 hown hK hI List.not_mem_nil hG0 8 (by decide) (hts _ (tb_c wd_1241)) rfl rfl dX12_feed_63 (fun a1738 hq1739 hf1740 => ?_)
        refine lv_aload_n hx hb dX12_feed_66 rfl (lv_at hl 1 rfl) ?_
        refine gmI hx hb hts inT12 hown hK hI List.not_mem_nil hG0 10 (by decide) (hts _ (tb_c wd_1243)) rfl rfl dX12_feed_67 (fun w1741 hg1742 k1743 k1744 => ?_)
        obtain rfl := gf.uniq (by decide) hg1723 hg1742
        refine lv_iload hx hb dX12_feed_70 (lv_at hl 0 rfl) ?_
        refine lv_iadd hx hb dX12_feed_72 ?_
        refine lv_topi (fun v1745 e1746 => ?_)
        have tv1745 : v1745.toInt = v1720.toInt + v1719.toInt := iv_add rfl rfl e1746 (by omega) (by omega)
        refine lv_aload_n hx hb dX12_feed_73 rfl (lv_at hl 1 rfl) ?_
        refine gmA hx hb hts inT12 hown hK hI List.not_mem_nil hG0 9 (by decide) (hts _ (tb_c wd_1242)) rfl rfl dX12_feed_74 (fun a1747 hq1748 hf1749 => ?_)
        refine lv_iload hx hb dX12_feed_77 (lv_at hl 0 rfl) ?_
        refine lv_iconst (v := 4) hx hb dX12_feed_79 (by decide) ?_
        refine lv_idiv hx hb dX12_feed_80 (by decide) ?_
        refine lv_topi (fun v1750 e1751 => ?_)
        have tv1750 := iv_divp (X := v1719.toInt) (Y := 4) rfl (by decide) e1751 (by decide) (by omega)
        obtain ⟨F1752, hA1753⟩ := om_0 hI hq1748 List.not_mem_nil
        refine th_iald hx hb hK hA1753 0 rfl (iv_in (X := v1750.toInt) rfl (by omega) (by omega)) dX12_feed_81 (fun v1754 e1755 => ?_)
        refine lv_bipush (v := 24) hx hb dX12_feed_82 (by decide) ?_
        refine lv_bipush (v := 8) hx hb dX12_feed_84 (by decide) ?_
        refine lv_iload hx hb dX12_feed_86 (lv_at hl 0 rfl) ?_
        refine lv_iconst (v := 4) hx hb dX12_feed_88 (by decide) ?_
        refine lv_irem hx hb dX12_feed_89 (by decide) ?_
        refine lv_topi (fun v1756 e1757 => ?_)
        have tv1756 := iv_remp (X := v1719.toInt) (Y := 4) rfl (by decide) e1757 (by decide) (by omega)
        refine lv_imul hx hb dX12_feed_90 ?_
        refine lv_topi (fun v1758 e1759 => ?_)
        have tv1758 : v1758.toInt = (8) * v1756.toInt := iv_mul (by decide) rfl e1759 (by omega) (by omega)
        refine lv_isub hx hb dX12_feed_91 ?_
        refine lv_topi (fun v1760 e1761 => ?_)
        have tv1760 : v1760.toInt = (24) - v1758.toInt := iv_sub (by decide) rfl e1761 (by omega) (by omega)
        refine lv_ishr hx hb dX12_feed_92 ?_
        refine lv_topi (fun v1762 e1763 => ?_)
        refine lv_i2b hx hb dX12_feed_93 rfl ?_
        refine lv_topi (fun v1764 e1765 => ?_)
        obtain ⟨F1766, hA1767⟩ := om_4 hI hq1739 List.not_mem_nil
        refine th_bast hx hb hK hA1767 3 rfl hS ⟨_, hq1739⟩ (iv_in (X := v1745.toInt) rfl (by omega) (by omega)) dX12_feed_94 (fun H locs hA1768 oq hS => ?_)
        have hI := th_I.put hI hq1739 hA1768 ok_m4 oq
        have hg1723 := gf.arr hG0 hq1739 (by decide) oq hg1723
        have hf1740 := fr.arr hG0 hq1739 (by decide) oq hf1740
        have hf1749 := fr.arr hG0 hq1739 (by decide) oq hf1749
        have hA1753 := va_at.kept hA1753 (oq _ (m_ne hq1748 hq1739 (by first | decide | (dsimp only; decide))))
        obtain ⟨v1769, e1770⟩ : ∃ y : Int32, y = v1719 + (1) := ⟨_, rfl⟩
        have tv1769 : v1769.toInt = v1719.toInt + (1) := iv_add rfl (by decide) e1770 (by omega) (by omega)
        refine lv_iinc (v := v1769) (lv' := [(6, .int v1769), (0, .ref h0), (1, .int x1), (2, .int x2), (3, .int x3), (4, .int x4), (5, .int x5)]) hx hb dX12_feed_95 hl (k := 0) rfl (by rw [e1770]; rfl) (by decide) rfl (fun ls hl => ?_)
        refine lv_goto (tgt := 55) hx hb dX12_feed_98 (by decide) ?_
        exact ih_55 _ (by omega) H locs ls v1769 v1720  rfl (lv_sub hl [0, 1, 2, 3, 4, 5, 6] rfl) ⟨by omega, by omega⟩ ⟨by omega, by omega⟩ hg1723 hI hS
  refine lv_aload_n hx hb dX12_feed_0 rfl (lv_at hl 0 rfl) ?_
  refine gmI hx hb hts inT12 hown hK hI List.not_mem_nil hG0 10 (by decide) (hts _ (tb_c wd_1243)) rfl rfl dX12_feed_1 (fun w1771 hg1772 k1773 k1774 => ?_)
  refine lv_bipush (v := 20) hx hb dX12_feed_4 (by decide) ?_
  refine lv_iadd hx hb dX12_feed_6 ?_
  refine lv_topi (fun v1775 e1776 => ?_)
  have tv1775 : v1775.toInt = w1771.toInt + (20) := iv_add rfl (by decide) e1776 (by omega) (by omega)
  refine lv_sipush (v := 400) hx hb dX12_feed_7 (by decide) ?_
  refine lv_icmp_le (tgt := 15) hx hb dX12_feed_10 (by decide) (fun c1777 => ?_) (fun c1777 => ?_)
  · skip
    have k1778 := iv_le (X := v1775.toInt) (Y := (400)) rfl (by decide) c1777
    refine lv_aload_n hx hb dX12_feed_15 rfl (lv_at hl 0 rfl) ?_
    refine gmA hx hb hts inT12 hown hK hI List.not_mem_nil hG0 9 (by decide) (hts _ (tb_c wd_1242)) rfl rfl dX12_feed_16 (fun a1779 hq1780 hf1781 => ?_)
    refine lv_iconst (v := 0) hx hb dX12_feed_19 (by decide) ?_
    refine lv_iload_n hx hb dX12_feed_20 rfl (lv_at hl 1 rfl) ?_
    obtain ⟨F1782, hA1783⟩ := om_0 hI hq1780 List.not_mem_nil
    refine th_iast hx hb hK hA1783 0 rfl hS ⟨_, hq1780⟩ (iv_in (X := (0)) (by decide) (by omega) (by omega)) dX12_feed_21 (fun H locs hA1784 oq hS => ?_)
    have hI := th_I.put hI hq1780 hA1784 ok_m0 oq
    have hg1772 := gf.arr hG0 hq1780 (by decide) oq hg1772
    have hf1781 := fr.arr hG0 hq1780 (by decide) oq hf1781
    have e1785 : x1 = (upd F1782 (0 : Int32).toNatClampNeg x1) (0 : Int32).toNatClampNeg := rd_us
    refine lv_aload_n hx hb dX12_feed_22 rfl (lv_at hl 0 rfl) ?_
    refine gmA hx hb hts inT12 hown hK hI List.not_mem_nil hG0 9 (by decide) (hts _ (tb_c wd_1242)) rfl rfl dX12_feed_23 (fun a1786 hq1787 hf1788 => ?_)
    obtain rfl := fr.uniq (by decide) hf1781 hf1788
    refine lv_iconst (v := 1) hx hb dX12_feed_26 (by decide) ?_
    refine lv_iload_n hx hb dX12_feed_27 rfl (lv_at hl 2 rfl) ?_
    refine th_iast hx hb hK hA1784 0 rfl hS ⟨_, hq1780⟩ (iv_in (X := (1)) (by decide) (by omega) (by omega)) dX12_feed_28 (fun H locs hA1789 oq hS => ?_)
    have hI := th_I.put hI hq1780 hA1789 ok_m0 oq
    have hg1772 := gf.arr hG0 hq1780 (by decide) oq hg1772
    have hf1781 := fr.arr hG0 hq1780 (by decide) oq hf1781
    have e1790 := rd_un (i := 0) (j := 1) (v := x2) e1785 (X := (0)) (Y := (1)) (by decide) (by decide) (by omega) (by omega) (by omega)
    have e1791 : x2 = (upd (upd F1782 (0 : Int32).toNatClampNeg x1) (1 : Int32).toNatClampNeg x2) (1 : Int32).toNatClampNeg := rd_us
    refine lv_aload_n hx hb dX12_feed_29 rfl (lv_at hl 0 rfl) ?_
    refine gmA hx hb hts inT12 hown hK hI List.not_mem_nil hG0 9 (by decide) (hts _ (tb_c wd_1242)) rfl rfl dX12_feed_30 (fun a1792 hq1793 hf1794 => ?_)
    obtain rfl := fr.uniq (by decide) hf1781 hf1794
    refine lv_iconst (v := 2) hx hb dX12_feed_33 (by decide) ?_
    refine lv_iload_n hx hb dX12_feed_34 rfl (lv_at hl 3 rfl) ?_
    refine th_iast hx hb hK hA1789 0 rfl hS ⟨_, hq1780⟩ (iv_in (X := (2)) (by decide) (by omega) (by omega)) dX12_feed_35 (fun H locs hA1795 oq hS => ?_)
    have hI := th_I.put hI hq1780 hA1795 ok_m0 oq
    have hg1772 := gf.arr hG0 hq1780 (by decide) oq hg1772
    have hf1781 := fr.arr hG0 hq1780 (by decide) oq hf1781
    have e1796 := rd_un (i := 0) (j := 2) (v := x3) e1790 (X := (0)) (Y := (2)) (by decide) (by decide) (by omega) (by omega) (by omega)
    have e1797 := rd_un (i := 1) (j := 2) (v := x3) e1791 (X := (1)) (Y := (2)) (by decide) (by decide) (by omega) (by omega) (by omega)
    have e1798 : x3 = (upd (upd (upd F1782 (0 : Int32).toNatClampNeg x1) (1 : Int32).toNatClampNeg x2) (2 : Int32).toNatClampNeg x3) (2 : Int32).toNatClampNeg := rd_us
    refine lv_aload_n hx hb dX12_feed_36 rfl (lv_at hl 0 rfl) ?_
    refine gmA hx hb hts inT12 hown hK hI List.not_mem_nil hG0 9 (by decide) (hts _ (tb_c wd_1242)) rfl rfl dX12_feed_37 (fun a1799 hq1800 hf1801 => ?_)
    obtain rfl := fr.uniq (by decide) hf1781 hf1801
    refine lv_iconst (v := 3) hx hb dX12_feed_40 (by decide) ?_
    refine lv_iload hx hb dX12_feed_41 (lv_at hl 4 rfl) ?_
    refine th_iast hx hb hK hA1795 0 rfl hS ⟨_, hq1780⟩ (iv_in (X := (3)) (by decide) (by omega) (by omega)) dX12_feed_43 (fun H locs hA1802 oq hS => ?_)
    have hI := th_I.put hI hq1780 hA1802 ok_m0 oq
    have hg1772 := gf.arr hG0 hq1780 (by decide) oq hg1772
    have hf1781 := fr.arr hG0 hq1780 (by decide) oq hf1781
    have e1803 := rd_un (i := 0) (j := 3) (v := x4) e1796 (X := (0)) (Y := (3)) (by decide) (by decide) (by omega) (by omega) (by omega)
    have e1804 := rd_un (i := 1) (j := 3) (v := x4) e1797 (X := (1)) (Y := (3)) (by decide) (by decide) (by omega) (by omega) (by omega)
    have e1805 := rd_un (i := 2) (j := 3) (v := x4) e1798 (X := (2)) (Y := (3)) (by decide) (by decide) (by omega) (by omega) (by omega)
    have e1806 : x4 = (upd (upd (upd (upd F1782 (0 : Int32).toNatClampNeg x1) (1 : Int32).toNatClampNeg x2) (2 : Int32).toNatClampNeg x3) (3 : Int32).toNatClampNeg x4) (3 : Int32).toNatClampNeg := rd_us
    refine lv_aload_n hx hb dX12_feed_44 rfl (lv_at hl 0 rfl) ?_
    refine gmA hx hb hts inT12 hown hK hI List.not_mem_nil hG0 9 (by decide) (hts _ (tb_c wd_1242)) rfl rfl dX12_feed_45 (fun a1807 hq1808 hf1809 => ?_)
    obtain rfl := fr.uniq (by decide) hf1781 hf1809
    refine lv_iconst (v := 4) hx hb dX12_feed_48 (by decide) ?_
    refine lv_iload hx hb dX12_feed_49 (lv_at hl 5 rfl) ?_
    refine th_iast hx hb hK hA1802 0 rfl hS ⟨_, hq1780⟩ (iv_in (X := (4)) (by decide) (by omega) (by omega)) dX12_feed_51 (fun H locs hA1810 oq hS => ?_)
    have hI := th_I.put hI hq1780 hA1810 ok_m0 oq
    have hg1772 := gf.arr hG0 hq1780 (by decide) oq hg1772
    have hf1781 := fr.arr hG0 hq1780 (by decide) oq hf1781
    have e1811 := rd_un (i := 0) (j := 4) (v := x5) e1803 (X := (0)) (Y := (4)) (by decide) (by decide) (by omega) (by omega) (by omega)
    have e1812 := rd_un (i := 1) (j := 4) (v := x5) e1804 (X := (1)) (Y := (4)) (by decide) (by decide) (by omega) (by omega) (by omega)
    have e1813 := rd_un (i := 2) (j := 4) (v := x5) e1805 (X := (2)) (Y := (4)) (by decide) (by decide) (by omega) (by omega) (by omega)
    have e1814 := rd_un (i := 3) (j := 4) (v := x5) e1806 (X := (3)) (Y := (4)) (by decide) (by decide) (by omega) (by omega) (by omega)
    have e1815 : x5 = (upd (upd (upd (upd (upd F1782 (0 : Int32).toNatClampNeg x1) (1 : Int32).toNatClampNeg x2) (2 : Int32).toNatClampNeg x3) (3 : Int32).toNatClampNeg x4) (4 : Int32).toNatClampNeg x5) (4 : Int32).toNatClampNeg := rd_us
    refine lv_iconst (v := 0) hx hb dX12_feed_52 (by decide) ?_
    refine lv_istore (lv' := [(6, .int 0), (0, .ref h0), (1, .int x1), (2, .int x2), (3, .int x3), (4, .int x4), (5, .int x5)]) hx hb dX12_feed_53 hl (by decide) rfl (fun ls hl => ?_)
    have zl : (0 : Int32).toInt = 0 := by decide
    exact J_55 _ H locs ls 0 w1771  rfl (lv_sub hl [0, 1, 2, 3, 4, 5, 6] rfl) ⟨by decide, by decide⟩ ⟨by omega, by omega⟩ hg1772 hI hS
  · skip
    have k1816 := iv_nle (X := v1775.toInt) (Y := (400)) rfl (by decide) c1777
    refine lv_iconst (v := (-1)) hx hb dX12_feed_13 (by decide) ?_
    have hpost : True := trivial
    rw [hQ]
    exact W.iret (v := (-1)) hx hb hr (fun t ht hW => ⟨⟨(-1), (-1), rfl, rfl, ⟨by rw [ht]; exact hI, hN.warm hW, va_K.moved hW.alike hK⟩, by first | (rw [ht]; exact hpost) | exact hpost⟩, hS.F ht⟩) hS.2.2 dX12_feed_14
theorem dX12_end_0g : (decode cX12_end 0 = .ok (.iload_n 1, 1)) ∧ (decode cX12_end 1 = .ok (.iconst 0, 1)) ∧ (decode cX12_end 2 = .ok (.aload_n 0, 1)) ∧ (decode cX12_end 3 = .ok (.getfield 132, 3)) ∧ (decode cX12_end 6 = .ok (.invokestatic 103, 3)) ∧ (decode cX12_end 9 = .ok (.ifCond .ne 5, 3)) ∧ (decode cX12_end 12 = .ok (.iconst (-1), 1)) ∧ (decode cX12_end 13 = .ok (.ireturn, 1)) ∧ (decode cX12_end 14 = .ok (.aload_n 0, 1)) ∧ (decode cX12_end 15 = .ok (.iload_n 1, 1)) := by decide +kernel
theorem dX12_end_0 : decode cX12_end 0 = .ok (.iload_n 1, 1) := dX12_end_0g.1
theorem dX12_end_1 : decode cX12_end 1 = .ok (.iconst 0, 1) := dX12_end_0g.2.1
theorem dX12_end_2 : decode cX12_end 2 = .ok (.aload_n 0, 1) := dX12_end_0g.2.2.1
theorem dX12_end_3 : decode cX12_end 3 = .ok (.getfield 132, 3) := dX12_end_0g.2.2.2.1
theorem dX12_end_6 : decode cX12_end 6 = .ok (.invokestatic 103, 3) := dX12_end_0g.2.2.2.2.1
theorem dX12_end_9 : decode cX12_end 9 = .ok (.ifCond .ne 5, 3) := dX12_end_0g.2.2.2.2.2.1
theorem dX12_end_12 : decode cX12_end 12 = .ok (.iconst (-1), 1) := dX12_end_0g.2.2.2.2.2.2.1
theorem dX12_end_13 : decode cX12_end 13 = .ok (.ireturn, 1) := dX12_end_0g.2.2.2.2.2.2.2.1
theorem dX12_end_14 : decode cX12_end 14 = .ok (.aload_n 0, 1) := dX12_end_0g.2.2.2.2.2.2.2.2.1
theorem dX12_end_15 : decode cX12_end 15 = .ok (.iload_n 1, 1) := dX12_end_0g.2.2.2.2.2.2.2.2.2
theorem dX12_end_16g : (decode cX12_end 16 = .ok (.putfield 132, 3)) ∧ (decode cX12_end 19 = .ok (.iload_n 1, 1)) ∧ (decode cX12_end 20 = .ok (.ireturn, 1)) := by decide +kernel
theorem dX12_end_16 : decode cX12_end 16 = .ok (.putfield 132, 3) := dX12_end_16g.1
theorem dX12_end_19 : decode cX12_end 19 = .ok (.iload_n 1, 1) := dX12_end_16g.2.1
theorem dX12_end_20 : decode cX12_end 20 = .ok (.ireturn, 1) := dX12_end_16g.2.2
set_option maxHeartbeats 4000000 in
set_option maxRecDepth 100000 in
theorem c_X12_end (l : Launch) (E : Nat → Nat) (D : va_G) (G : th_G) (h0 : Nat) (hG0 : G h0 = some (10, 0)) (x1 : Int32) : Met l yX12_end (tb (.code yX12_end cX12_end 2 (some .int))) (rm 1) (va_Pc [.ref h0, .int x1] (PX E D G (fun H => True))) (QXi E D G (fun r H => True)) 0 0 (th_A G) := by
  refine Met.ofW (cc := cX12_end) (maxL := 2) (ret := (some .int)) (by decide) rfl ?_
  intro p e s m args below meth c s₁ B hml hv
  obtain ⟨hav, ⟨hI, hN, hK⟩, hX⟩ := hv
  have hx := B.exec
  have hb := B.bytes
  have hr := B.returns
  have hts := atoms_spec (ws := tb (.code yX12_end cX12_end 2 (some .int))) B.pre
  have hown : s.vm.findClass RX12 = some m.cls := findClass_of_methodNamed B.named
  have hlocks := B.notSynchronized
  have hS : va_S (th_A G) s.heap s.heap [] := va_S.rf
  have hl := lv_entry ([.ref h0, .int x1]) (n := 2) (Nat.le_of_ble_eq_true rfl)
  rw [show entryFrame m args 2 = entryFrame m ([.ref h0, .int x1] : List Value).toArray 2 from by rw [hav], lg_entry_eq]
  generalize (lg_sl ([.ref h0, .int x1]) ++ List.replicate (2 - (lg_sl ([.ref h0, .int x1])).length) Slot.unset).toArray = ls at hl ⊢
  have hl : lv_has ls 2 [(0, .ref h0), (1, .int x1)] := hl
  generalize hR : (headSpec (tb (.code yX12_end cX12_end 2 (some .int))) (rm 1)).room = R
  have hR := hR.symm
  generalize hQ : MQ below (QXi E D G (fun r H => True)) args s 0 0 (th_A G) = QF
  have hQ := hQ.symm
  refine lv_iload_n hx hb dX12_end_0 rfl (lv_at hl 1 rfl) ?_
  refine lv_iconst (v := 0) hx hb dX12_end_1 (by decide) ?_
  refine lv_aload_n hx hb dX12_end_2 rfl (lv_at hl 0 rfl) ?_
  refine gmI hx hb hts inT12 hown hK hI List.not_mem_nil hG0 10 (by decide) (hts _ (tb_c wd_1243)) rfl rfl dX12_end_3 (fun w1 hg2 k3 k4 => ?_)
  refine th_cSs (As := [.int x1, .int 0, .int w1]) (rest := []) (n := 3) (d := 0) ⟨hx, hb, hml, hown, hts⟩ (c_X12_lies l s.heap x1 0 w1) wd_1395 wd_1396 wd_13 wd_1397 (by decide +kernel) ⟨by rw [hR]; exact Nat.le_of_ble_eq_true rfl, by rw [hR]; exact Nat.le_of_ble_eq_true rfl⟩ hN hS rfl hl.1 rfl (Nat.le_of_ble_eq_true rfl) dX12_end_6 ⟨Nat.zero_le _, Nat.zero_le _⟩ (fun r5 locs hp hS => ?_)
  rcases hp with ⟨rfl, hp⟩ | ⟨rfl, hp⟩
  · skip
    try simp only [rg, not_and, Int.not_le] at hp
    have hp6 := hp
    try rw [show (0 : Int32).toInt = 0 from by decide] at hp6
    refine lv_if_ne (tgt := 14) hx hb dX12_end_9 (by decide) (fun _ => ?_) (fun c => absurd c (by decide))
    refine lv_aload_n hx hb dX12_end_14 rfl (lv_at hl 0 rfl) ?_
    refine lv_iload_n hx hb dX12_end_15 rfl (lv_at hl 1 rfl) ?_
    refine pmI (ty := .int) hx hb hts inT12 hown hK hI List.not_mem_nil hG0 hS ⟨_, hG0⟩ 10 (by decide) (hts _ (tb_c wd_1243)) rfl rfl (by decide +kernel) rfl rfl rfl (by omega) (by omega) dX12_end_16 (fun H locs hI hgP hS => ?_)
    have hg7 := hgP.2.1
    refine lv_iload_n hx hb dX12_end_19 rfl (lv_at hl 1 rfl) ?_
    have hpost : True := trivial
    rw [hQ]
    exact W.iret (v := x1) hx hb hr (fun t ht hW => ⟨⟨x1, x1, rfl, rfl, ⟨by rw [ht]; exact hI, hN.warm hW, va_K.moved hW.alike hK⟩, by first | (rw [ht]; exact hpost) | exact hpost⟩, hS.F ht⟩) hS.2.2 dX12_end_20
  · skip
    try simp only [rg, not_and, Int.not_le] at hp
    have hp8 := hp
    try rw [show (0 : Int32).toInt = 0 from by decide] at hp8
    refine lv_if_ne (tgt := 14) hx hb dX12_end_9 (by decide) (fun c => absurd c (by decide)) (fun _ => ?_)
    refine lv_iconst (v := (-1)) hx hb dX12_end_12 (by decide) ?_
    have hpost : True := trivial
    rw [hQ]
    exact W.iret (v := (-1)) hx hb hr (fun t ht hW => ⟨⟨(-1), (-1), rfl, rfl, ⟨by rw [ht]; exact hI, hN.warm hW, va_K.moved hW.alike hK⟩, by first | (rw [ht]; exact hpost) | exact hpost⟩, hS.F ht⟩) hS.2.2 dX12_end_13
theorem dX12_fault_0g : (decode cX12_fault 0 = .ok (.aload_n 0, 1)) ∧ (decode cX12_fault 1 = .ok (.getfield 40, 3)) ∧ (decode cX12_fault 4 = .ok (.ireturn, 1)) := by decide +kernel
theorem dX12_fault_0 : decode cX12_fault 0 = .ok (.aload_n 0, 1) := dX12_fault_0g.1
theorem dX12_fault_1 : decode cX12_fault 1 = .ok (.getfield 40, 3) := dX12_fault_0g.2.1
theorem dX12_fault_4 : decode cX12_fault 4 = .ok (.ireturn, 1) := dX12_fault_0g.2.2
set_option maxHeartbeats 4000000 in
set_option maxRecDepth 100000 in
theorem c_X12_fault (l : Launch) (E : Nat → Nat) (D : va_G) (G : th_G) (h0 : Nat) (hG0 : G h0 = some (10, 0)) : Met l yX12_fault (tb (.code yX12_fault cX12_fault 1 (some .int))) (rm 0) (va_Pc [.ref h0] (PX E D G (fun H => True))) (QXi E D G (fun r H => True)) 0 0 (th_A G) := by
  refine Met.ofW (cc := cX12_fault) (maxL := 1) (ret := (some .int)) (by decide) rfl ?_
  intro p e s m args below meth c s₁ B hml hv
  obtain ⟨hav, ⟨hI, hN, hK⟩, hX⟩ := hv
  have hx := B.exec
  have hb := B.bytes
  have hr := B.returns
  have hts := atoms_spec (ws := tb (.code yX12_fault cX12_fault 1 (some .int))) B.pre
  have hown : s.vm.findClass RX12 = some m.cls := findClass_of_methodNamed B.named
  have hlocks := B.notSynchronized
  have hS : va_S (th_A G) s.heap s.heap [] := va_S.rf
  have hl := lv_entry ([.ref h0]) (n := 1) (Nat.le_of_ble_eq_true rfl)
  rw [show entryFrame m args 1 = entryFrame m ([.ref h0] : List Value).toArray 1 from by rw [hav], lg_entry_eq]
  generalize (lg_sl ([.ref h0]) ++ List.replicate (1 - (lg_sl ([.ref h0])).length) Slot.unset).toArray = ls at hl ⊢
  have hl : lv_has ls 1 [(0, .ref h0)] := hl
  generalize hR : (headSpec (tb (.code yX12_fault cX12_fault 1 (some .int))) (rm 0)).room = R
  have hR := hR.symm
  generalize hQ : MQ below (QXi E D G (fun r H => True)) args s 0 0 (th_A G) = QF
  have hQ := hQ.symm
  refine lv_aload_n hx hb dX12_fault_0 rfl (lv_at hl 0 rfl) ?_
  refine gmI hx hb hts inT12 hown hK hI List.not_mem_nil hG0 11 (by decide) (hts _ (tb_c wd_1244)) rfl rfl dX12_fault_1 (fun w1 hg2 k3 k4 => ?_)
  have hpost : True := trivial
  rw [hQ]
  exact W.iret (v := w1) hx hb hr (fun t ht hW => ⟨⟨w1, w1, rfl, rfl, ⟨by rw [ht]; exact hI, hN.warm hW, va_K.moved hW.alike hK⟩, by first | (rw [ht]; exact hpost) | exact hpost⟩, hS.F ht⟩) hS.2.2 dX12_fault_4
theorem dX12_force_0g : (decode cX12_force 0 = .ok (.iload_n 1, 1)) ∧ (decode cX12_force 1 = .ok (.iconst (-1), 1)) ∧ (decode cX12_force 2 = .ok (.aload_n 0, 1)) ∧ (decode cX12_force 3 = .ok (.getfield 20, 3)) ∧ (decode cX12_force 6 = .ok (.sipush 315, 3)) ∧ (decode cX12_force 9 = .ok (.iaload, 1)) ∧ (decode cX12_force 10 = .ok (.iconst 1, 1)) ∧ (decode cX12_force 11 = .ok (.isub, 1)) ∧ (decode cX12_force 12 = .ok (.invokestatic 103, 3)) ∧ (decode cX12_force 15 = .ok (.ifCond .ne 10, 3)) := by decide +kernel
theorem dX12_force_0 : decode cX12_force 0 = .ok (.iload_n 1, 1) := dX12_force_0g.1
theorem dX12_force_1 : decode cX12_force 1 = .ok (.iconst (-1), 1) := dX12_force_0g.2.1
theorem dX12_force_2 : decode cX12_force 2 = .ok (.aload_n 0, 1) := dX12_force_0g.2.2.1
theorem dX12_force_3 : decode cX12_force 3 = .ok (.getfield 20, 3) := dX12_force_0g.2.2.2.1
theorem dX12_force_6 : decode cX12_force 6 = .ok (.sipush 315, 3) := dX12_force_0g.2.2.2.2.1
theorem dX12_force_9 : decode cX12_force 9 = .ok (.iaload, 1) := dX12_force_0g.2.2.2.2.2.1
theorem dX12_force_10 : decode cX12_force 10 = .ok (.iconst 1, 1) := dX12_force_0g.2.2.2.2.2.2.1
theorem dX12_force_11 : decode cX12_force 11 = .ok (.isub, 1) := dX12_force_0g.2.2.2.2.2.2.2.1
theorem dX12_force_12 : decode cX12_force 12 = .ok (.invokestatic 103, 3) := dX12_force_0g.2.2.2.2.2.2.2.2.1
theorem dX12_force_15 : decode cX12_force 15 = .ok (.ifCond .ne 10, 3) := dX12_force_0g.2.2.2.2.2.2.2.2.2
theorem dX12_force_18g : (decode cX12_force 18 = .ok (.aload_n 0, 1)) ∧ (decode cX12_force 19 = .ok (.bipush (-2), 2)) ∧ (decode cX12_force 21 = .ok (.invokevirtual 107, 3)) ∧ (decode cX12_force 24 = .ok (.ireturn, 1)) ∧ (decode cX12_force 25 = .ok (.aload_n 0, 1)) ∧ (decode cX12_force 26 = .ok (.getfield 20, 3)) ∧ (decode cX12_force 29 = .ok (.sipush 316, 3)) ∧ (decode cX12_force 32 = .ok (.iaload, 1)) ∧ (decode cX12_force 33 = .ok (.istore_n 2, 1)) ∧ (decode cX12_force 34 = .ok (.aload_n 0, 1)) := by decide +kernel
theorem dX12_force_18 : decode cX12_force 18 = .ok (.aload_n 0, 1) := dX12_force_18g.1
theorem dX12_force_19 : decode cX12_force 19 = .ok (.bipush (-2), 2) := dX12_force_18g.2.1
theorem dX12_force_21 : decode cX12_force 21 = .ok (.invokevirtual 107, 3) := dX12_force_18g.2.2.1
theorem dX12_force_24 : decode cX12_force 24 = .ok (.ireturn, 1) := dX12_force_18g.2.2.2.1
theorem dX12_force_25 : decode cX12_force 25 = .ok (.aload_n 0, 1) := dX12_force_18g.2.2.2.2.1
theorem dX12_force_26 : decode cX12_force 26 = .ok (.getfield 20, 3) := dX12_force_18g.2.2.2.2.2.1
theorem dX12_force_29 : decode cX12_force 29 = .ok (.sipush 316, 3) := dX12_force_18g.2.2.2.2.2.2.1
theorem dX12_force_32 : decode cX12_force 32 = .ok (.iaload, 1) := dX12_force_18g.2.2.2.2.2.2.2.1
theorem dX12_force_33 : decode cX12_force 33 = .ok (.istore_n 2, 1) := dX12_force_18g.2.2.2.2.2.2.2.2.1
theorem dX12_force_34 : decode cX12_force 34 = .ok (.aload_n 0, 1) := dX12_force_18g.2.2.2.2.2.2.2.2.2
theorem dX12_force_35g : (decode cX12_force 35 = .ok (.getfield 20, 3)) ∧ (decode cX12_force 38 = .ok (.sipush 316, 3)) ∧ (decode cX12_force 41 = .ok (.iload_n 1, 1)) ∧ (decode cX12_force 42 = .ok (.iastore, 1)) ∧ (decode cX12_force 43 = .ok (.aload_n 0, 1)) ∧ (decode cX12_force 44 = .ok (.iload_n 2, 1)) ∧ (decode cX12_force 45 = .ok (.invokevirtual 111, 3)) ∧ (decode cX12_force 48 = .ok (.ireturn, 1)) := by decide +kernel
theorem dX12_force_35 : decode cX12_force 35 = .ok (.getfield 20, 3) := dX12_force_35g.1
theorem dX12_force_38 : decode cX12_force 38 = .ok (.sipush 316, 3) := dX12_force_35g.2.1
theorem dX12_force_41 : decode cX12_force 41 = .ok (.iload_n 1, 1) := dX12_force_35g.2.2.1
theorem dX12_force_42 : decode cX12_force 42 = .ok (.iastore, 1) := dX12_force_35g.2.2.2.1
theorem dX12_force_43 : decode cX12_force 43 = .ok (.aload_n 0, 1) := dX12_force_35g.2.2.2.2.1
theorem dX12_force_44 : decode cX12_force 44 = .ok (.iload_n 2, 1) := dX12_force_35g.2.2.2.2.2.1
theorem dX12_force_45 : decode cX12_force 45 = .ok (.invokevirtual 111, 3) := dX12_force_35g.2.2.2.2.2.2.1
theorem dX12_force_48 : decode cX12_force 48 = .ok (.ireturn, 1) := dX12_force_35g.2.2.2.2.2.2.2
set_option maxHeartbeats 4000000 in
set_option maxRecDepth 100000 in
theorem c_X12_force (l : Launch) (E : Nat → Nat) (D : va_G) (G : th_G) (h0 : Nat) (hG0 : G h0 = some (10, 0)) (x1 : Int32) : Met l yX12_force (tb (.code yX12_force cX12_force 3 (some .int))) (rm 1) (va_Pc [.ref h0, .int x1] (PX E D G (fun H => True))) (QXi E D G (fun r H => True)) 0 0 (th_A G) := by
  refine Met.ofW (cc := cX12_force) (maxL := 3) (ret := (some .int)) (by decide) rfl ?_
  intro p e s m args below meth c s₁ B hml hv
  obtain ⟨hav, ⟨hI, hN, hK⟩, hX⟩ := hv
  have hx := B.exec
  have hb := B.bytes
  have hr := B.returns
  have hts := atoms_spec (ws := tb (.code yX12_force cX12_force 3 (some .int))) B.pre
  have hown : s.vm.findClass RX12 = some m.cls := findClass_of_methodNamed B.named
  have hlocks := B.notSynchronized
  have hS : va_S (th_A G) s.heap s.heap [] := va_S.rf
  have hl := lv_entry ([.ref h0, .int x1]) (n := 3) (Nat.le_of_ble_eq_true rfl)
  rw [show entryFrame m args 3 = entryFrame m ([.ref h0, .int x1] : List Value).toArray 3 from by rw [hav], lg_entry_eq]
  generalize (lg_sl ([.ref h0, .int x1]) ++ List.replicate (3 - (lg_sl ([.ref h0, .int x1])).length) Slot.unset).toArray = ls at hl ⊢
  have hl : lv_has ls 3 [(0, .ref h0), (1, .int x1)] := hl
  generalize hR : (headSpec (tb (.code yX12_force cX12_force 3 (some .int))) (rm 1)).room = R
  have hR := hR.symm
  generalize hQ : MQ below (QXi E D G (fun r H => True)) args s 0 0 (th_A G) = QF
  have hQ := hQ.symm
  refine lv_iload_n hx hb dX12_force_0 rfl (lv_at hl 1 rfl) ?_
  refine lv_iconst (v := (-1)) hx hb dX12_force_1 (by decide) ?_
  refine lv_aload_n hx hb dX12_force_2 rfl (lv_at hl 0 rfl) ?_
  refine gmA hx hb hts inT12 hown hK hI List.not_mem_nil hG0 3 (by decide) (hts _ (tb_c wd_1236)) rfl rfl dX12_force_3 (fun a1 hq2 hf3 => ?_)
  refine lv_sipush (v := 315) hx hb dX12_force_6 (by decide) ?_
  obtain ⟨F4, hA5, hP6⟩ := om_1 hI hq2 List.not_mem_nil
  refine th_iald hx hb hK hA5 0 rfl (iv_in (X := (315)) (by decide) (by omega) (by omega)) dX12_force_9 (fun v7 e8 => ?_)
  have k9 := kg_m315 (kOk.get (i := 315) hP6 e8 (X := (315)) (by decide) (by omega) (by omega)) (by omega) (by omega) (by omega)
  refine lv_iconst (v := 1) hx hb dX12_force_10 (by decide) ?_
  refine lv_isub hx hb dX12_force_11 ?_
  refine lv_topi (fun v10 e11 => ?_)
  have tv10 : v10.toInt = v7.toInt - (1) := iv_sub rfl (by decide) e11 (by omega) (by omega)
  refine th_cSs (As := [.int x1, .int (-1), .int v10]) (rest := []) (n := 3) (d := 0) ⟨hx, hb, hml, hown, hts⟩ (c_X12_lies l s.heap x1 (-1) v10) wd_1395 wd_1396 wd_13 wd_1397 (by decide +kernel) ⟨by rw [hR]; exact Nat.le_of_ble_eq_true rfl, by rw [hR]; exact Nat.le_of_ble_eq_true rfl⟩ hN hS rfl hl.1 rfl (Nat.le_of_ble_eq_true rfl) dX12_force_12 ⟨Nat.zero_le _, Nat.zero_le _⟩ (fun r12 locs hp hS => ?_)
  rcases hp with ⟨rfl, hp⟩ | ⟨rfl, hp⟩
  · skip
    try simp only [rg, not_and, Int.not_le] at hp
    have hp13 := hp
    try rw [show ((-1) : Int32).toInt = -1 from by decide] at hp13
    refine lv_if_ne (tgt := 25) hx hb dX12_force_15 (by decide) (fun _ => ?_) (fun c => absurd c (by decide))
    refine lv_aload_n hx hb dX12_force_25 rfl (lv_at hl 0 rfl) ?_
    refine gmA hx hb hts inT12 hown hK hI List.not_mem_nil hG0 3 (by decide) (hts _ (tb_c wd_1236)) rfl rfl dX12_force_26 (fun a14 hq15 hf16 => ?_)
    obtain rfl := fr.uniq (by decide) hf3 hf16
    refine lv_sipush (v := 316) hx hb dX12_force_29 (by decide) ?_
    refine th_iald hx hb hK hA5 0 rfl (iv_in (X := (316)) (by decide) (by omega) (by omega)) dX12_force_32 (fun v17 e18 => ?_)
    have k19 := kg_force (kOk.get (i := 316) hP6 e18 (X := (316)) (by decide) (by omega) (by omega)) (by omega) (by omega) (by omega)
    refine lv_istore_n (lv' := [(2, .int v17), (0, .ref h0), (1, .int x1)]) hx hb dX12_force_33 rfl hl (by decide) rfl (fun ls hl => ?_)
    refine lv_aload_n hx hb dX12_force_34 rfl (lv_at hl 1 rfl) ?_
    refine gmA hx hb hts inT12 hown hK hI List.not_mem_nil hG0 3 (by decide) (hts _ (tb_c wd_1236)) rfl rfl dX12_force_35 (fun a20 hq21 hf22 => ?_)
    obtain rfl := fr.uniq (by decide) hf3 hf22
    refine lv_sipush (v := 316) hx hb dX12_force_38 (by decide) ?_
    refine lv_iload_n hx hb dX12_force_41 rfl (lv_at hl 2 rfl) ?_
    refine th_iast hx hb hK hA5 0 rfl hS ⟨_, hq2⟩ (iv_in (X := (316)) (by decide) (by omega) (by omega)) dX12_force_42 (fun H locs hA23 oq hS => ?_)
    have hP24 := kOk.set (i := 316) (v := x1) hP6 (X := (316)) (V := x1.toInt) (by decide) rfl (by omega) (by omega) (ks_force (by omega) (by omega) (by omega) ⟨by omega, by omega⟩)
    have hI := th_I.put hI hq2 hA23 (ok_m1 hP24) oq
    have hf3 := fr.arr hG0 hq2 (by decide) oq hf3
    have e25 := rd_un (i := 315) (j := 316) (v := x1) e8 (X := (315)) (Y := (316)) (by decide) (by decide) (by omega) (by omega) (by omega)
    have e26 : x1 = (upd F4 (316 : Int32).toNatClampNeg x1) (316 : Int32).toNatClampNeg := rd_us
    refine lv_aload_n hx hb dX12_force_43 rfl (lv_at hl 1 rfl) ?_
    refine lv_iload_n hx hb dX12_force_44 rfl (lv_at hl 0 rfl) ?_
    refine mx_i (As := [.int v17]) (rest := []) (n := 1) (d := 0) ⟨hx, hb, hml, hown, hts⟩ (c_X12_good l E D G h0 hG0 v17) wd_1402 wd_1404 wp_41 wd_13 wd_1405 (by decide +kernel) ⟨by rw [hR]; exact Nat.le_of_ble_eq_true rfl, by rw [hR]; exact Nat.le_of_ble_eq_true rfl⟩ hI hN hK hS hG0 (trivial) rfl hl.1 rfl (Nat.le_of_ble_eq_true rfl) dX12_force_45 ⟨Nat.zero_le _, Nat.zero_le _⟩ (fun r27 H locs hI hp hS => ?_)
    obtain rfl := hp.symm
    have hpost : True := trivial
    rw [hQ]
    exact W.iret (v := v17) hx hb hr (fun t ht hW => ⟨⟨v17, v17, rfl, rfl, ⟨by rw [ht]; exact hI, hN.warm hW, va_K.moved hW.alike hK⟩, by first | (rw [ht]; exact hpost) | exact hpost⟩, hS.F ht⟩) hS.2.2 dX12_force_48
  · skip
    try simp only [rg, not_and, Int.not_le] at hp
    have hp28 := hp
    try rw [show ((-1) : Int32).toInt = -1 from by decide] at hp28
    refine lv_if_ne (tgt := 25) hx hb dX12_force_15 (by decide) (fun c => absurd c (by decide)) (fun _ => ?_)
    refine lv_aload_n hx hb dX12_force_18 rfl (lv_at hl 0 rfl) ?_
    refine lv_bipush (v := (-2)) hx hb dX12_force_19 (by decide) ?_
    refine mx_i (As := [.int (-2)]) (rest := []) (n := 1) (d := 0) ⟨hx, hb, hml, hown, hts⟩ (c_X12_refuses l E D G h0 hG0 (-2) ⟨by decide, by decide⟩) wd_1398 wd_1400 wp_40 wd_13 wd_1401 (by decide +kernel) ⟨by rw [hR]; exact Nat.le_of_ble_eq_true rfl, by rw [hR]; exact Nat.le_of_ble_eq_true rfl⟩ hI hN hK hS hG0 (trivial) rfl hl.1 rfl (Nat.le_of_ble_eq_true rfl) dX12_force_21 ⟨Nat.zero_le _, Nat.zero_le _⟩ (fun r29 H locs hI hp hS => ?_)
    obtain rfl := hp.symm
    have hpost : True := trivial
    rw [hQ]
    exact W.iret (v := (-2)) hx hb hr (fun t ht hW => ⟨⟨(-2), (-2), rfl, rfl, ⟨by rw [ht]; exact hI, hN.warm hW, va_K.moved hW.alike hK⟩, by first | (rw [ht]; exact hpost) | exact hpost⟩, hS.F ht⟩) hS.2.2 dX12_force_24
theorem dX12_isOn_0g : (decode cX12_isOn 0 = .ok (.aload_n 0, 1)) ∧ (decode cX12_isOn 1 = .ok (.getfield 20, 3)) ∧ (decode cX12_isOn 4 = .ok (.iconst 0, 1)) ∧ (decode cX12_isOn 5 = .ok (.iconst 5, 1)) ∧ (decode cX12_isOn 6 = .ok (.iload_n 1, 1)) ∧ (decode cX12_isOn 7 = .ok (.imul, 1)) ∧ (decode cX12_isOn 8 = .ok (.iadd, 1)) ∧ (decode cX12_isOn 9 = .ok (.iconst 2, 1)) ∧ (decode cX12_isOn 10 = .ok (.iadd, 1)) ∧ (decode cX12_isOn 11 = .ok (.iaload, 1)) := by decide +kernel
theorem dX12_isOn_0 : decode cX12_isOn 0 = .ok (.aload_n 0, 1) := dX12_isOn_0g.1
theorem dX12_isOn_1 : decode cX12_isOn 1 = .ok (.getfield 20, 3) := dX12_isOn_0g.2.1
theorem dX12_isOn_4 : decode cX12_isOn 4 = .ok (.iconst 0, 1) := dX12_isOn_0g.2.2.1
theorem dX12_isOn_5 : decode cX12_isOn 5 = .ok (.iconst 5, 1) := dX12_isOn_0g.2.2.2.1
theorem dX12_isOn_6 : decode cX12_isOn 6 = .ok (.iload_n 1, 1) := dX12_isOn_0g.2.2.2.2.1
theorem dX12_isOn_7 : decode cX12_isOn 7 = .ok (.imul, 1) := dX12_isOn_0g.2.2.2.2.2.1
theorem dX12_isOn_8 : decode cX12_isOn 8 = .ok (.iadd, 1) := dX12_isOn_0g.2.2.2.2.2.2.1
theorem dX12_isOn_9 : decode cX12_isOn 9 = .ok (.iconst 2, 1) := dX12_isOn_0g.2.2.2.2.2.2.2.1
theorem dX12_isOn_10 : decode cX12_isOn 10 = .ok (.iadd, 1) := dX12_isOn_0g.2.2.2.2.2.2.2.2.1
theorem dX12_isOn_11 : decode cX12_isOn 11 = .ok (.iaload, 1) := dX12_isOn_0g.2.2.2.2.2.2.2.2.2
theorem dX12_isOn_12g : (decode cX12_isOn 12 = .ok (.istore_n 3, 1)) ∧ (decode cX12_isOn 13 = .ok (.aload_n 0, 1)) ∧ (decode cX12_isOn 14 = .ok (.getfield 20, 3)) ∧ (decode cX12_isOn 17 = .ok (.iconst 0, 1)) ∧ (decode cX12_isOn 18 = .ok (.iconst 5, 1)) ∧ (decode cX12_isOn 19 = .ok (.iload_n 1, 1)) ∧ (decode cX12_isOn 20 = .ok (.imul, 1)) ∧ (decode cX12_isOn 21 = .ok (.iadd, 1)) ∧ (decode cX12_isOn 22 = .ok (.iconst 3, 1)) ∧ (decode cX12_isOn 23 = .ok (.iadd, 1)) := by decide +kernel
theorem dX12_isOn_12 : decode cX12_isOn 12 = .ok (.istore_n 3, 1) := dX12_isOn_12g.1
theorem dX12_isOn_13 : decode cX12_isOn 13 = .ok (.aload_n 0, 1) := dX12_isOn_12g.2.1
theorem dX12_isOn_14 : decode cX12_isOn 14 = .ok (.getfield 20, 3) := dX12_isOn_12g.2.2.1
theorem dX12_isOn_17 : decode cX12_isOn 17 = .ok (.iconst 0, 1) := dX12_isOn_12g.2.2.2.1
theorem dX12_isOn_18 : decode cX12_isOn 18 = .ok (.iconst 5, 1) := dX12_isOn_12g.2.2.2.2.1
theorem dX12_isOn_19 : decode cX12_isOn 19 = .ok (.iload_n 1, 1) := dX12_isOn_12g.2.2.2.2.2.1
theorem dX12_isOn_20 : decode cX12_isOn 20 = .ok (.imul, 1) := dX12_isOn_12g.2.2.2.2.2.2.1
theorem dX12_isOn_21 : decode cX12_isOn 21 = .ok (.iadd, 1) := dX12_isOn_12g.2.2.2.2.2.2.2.1
theorem dX12_isOn_22 : decode cX12_isOn 22 = .ok (.iconst 3, 1) := dX12_isOn_12g.2.2.2.2.2.2.2.2.1
theorem dX12_isOn_23 : decode cX12_isOn 23 = .ok (.iadd, 1) := dX12_isOn_12g.2.2.2.2.2.2.2.2.2
theorem dX12_isOn_24g : (decode cX12_isOn 24 = .ok (.iaload, 1)) ∧ (decode cX12_isOn 25 = .ok (.istore 4, 2)) ∧ (decode cX12_isOn 27 = .ok (.iload_n 3, 1)) ∧ (decode cX12_isOn 28 = .ok (.iload 4, 2)) ∧ (decode cX12_isOn 30 = .ok (.if_icmp .eq 35, 3)) ∧ (decode cX12_isOn 33 = .ok (.iload_n 3, 1)) ∧ (decode cX12_isOn 34 = .ok (.iload 4, 2)) ∧ (decode cX12_isOn 36 = .ok (.if_icmp .ge 18, 3)) ∧ (decode cX12_isOn 39 = .ok (.iload_n 2, 1)) ∧ (decode cX12_isOn 40 = .ok (.iload_n 3, 1)) := by decide +kernel
theorem dX12_isOn_24 : decode cX12_isOn 24 = .ok (.iaload, 1) := dX12_isOn_24g.1
theorem dX12_isOn_25 : decode cX12_isOn 25 = .ok (.istore 4, 2) := dX12_isOn_24g.2.1
theorem dX12_isOn_27 : decode cX12_isOn 27 = .ok (.iload_n 3, 1) := dX12_isOn_24g.2.2.1
theorem dX12_isOn_28 : decode cX12_isOn 28 = .ok (.iload 4, 2) := dX12_isOn_24g.2.2.2.1
theorem dX12_isOn_30 : decode cX12_isOn 30 = .ok (.if_icmp .eq 35, 3) := dX12_isOn_24g.2.2.2.2.1
theorem dX12_isOn_33 : decode cX12_isOn 33 = .ok (.iload_n 3, 1) := dX12_isOn_24g.2.2.2.2.2.1
theorem dX12_isOn_34 : decode cX12_isOn 34 = .ok (.iload 4, 2) := dX12_isOn_24g.2.2.2.2.2.2.1
theorem dX12_isOn_36 : decode cX12_isOn 36 = .ok (.if_icmp .ge 18, 3) := dX12_isOn_24g.2.2.2.2.2.2.2.1
theorem dX12_isOn_39 : decode cX12_isOn 39 = .ok (.iload_n 2, 1) := dX12_isOn_24g.2.2.2.2.2.2.2.2.1
theorem dX12_isOn_40 : decode cX12_isOn 40 = .ok (.iload_n 3, 1) := dX12_isOn_24g.2.2.2.2.2.2.2.2.2
theorem dX12_isOn_41g : (decode cX12_isOn 41 = .ok (.iload 4, 2)) ∧ (decode cX12_isOn 43 = .ok (.iconst 1, 1)) ∧ (decode cX12_isOn 44 = .ok (.isub, 1)) ∧ (decode cX12_isOn 45 = .ok (.invokestatic 103, 3)) ∧ (decode cX12_isOn 48 = .ok (.ifCond .eq 21, 3)) ∧ (decode cX12_isOn 51 = .ok (.goto 14, 3)) ∧ (decode cX12_isOn 54 = .ok (.iload_n 2, 1)) ∧ (decode cX12_isOn 55 = .ok (.iload_n 3, 1)) ∧ (decode cX12_isOn 56 = .ok (.if_icmp .ge 9, 3)) ∧ (decode cX12_isOn 59 = .ok (.iload_n 2, 1)) := by decide +kernel
theorem dX12_isOn_41 : decode cX12_isOn 41 = .ok (.iload 4, 2) := dX12_isOn_41g.1
theorem dX12_isOn_43 : decode cX12_isOn 43 = .ok (.iconst 1, 1) := dX12_isOn_41g.2.1
theorem dX12_isOn_44 : decode cX12_isOn 44 = .ok (.isub, 1) := dX12_isOn_41g.2.2.1
theorem dX12_isOn_45 : decode cX12_isOn 45 = .ok (.invokestatic 103, 3) := dX12_isOn_41g.2.2.2.1
theorem dX12_isOn_48 : decode cX12_isOn 48 = .ok (.ifCond .eq 21, 3) := dX12_isOn_41g.2.2.2.2.1
theorem dX12_isOn_51 : decode cX12_isOn 51 = .ok (.goto 14, 3) := dX12_isOn_41g.2.2.2.2.2.1
theorem dX12_isOn_54 : decode cX12_isOn 54 = .ok (.iload_n 2, 1) := dX12_isOn_41g.2.2.2.2.2.2.1
theorem dX12_isOn_55 : decode cX12_isOn 55 = .ok (.iload_n 3, 1) := dX12_isOn_41g.2.2.2.2.2.2.2.1
theorem dX12_isOn_56 : decode cX12_isOn 56 = .ok (.if_icmp .ge 9, 3) := dX12_isOn_41g.2.2.2.2.2.2.2.2.1
theorem dX12_isOn_59 : decode cX12_isOn 59 = .ok (.iload_n 2, 1) := dX12_isOn_41g.2.2.2.2.2.2.2.2.2
theorem dX12_isOn_60g : (decode cX12_isOn 60 = .ok (.iload 4, 2)) ∧ (decode cX12_isOn 62 = .ok (.if_icmp .ge 7, 3)) ∧ (decode cX12_isOn 65 = .ok (.iconst 1, 1)) ∧ (decode cX12_isOn 66 = .ok (.goto 4, 3)) ∧ (decode cX12_isOn 69 = .ok (.iconst 0, 1)) ∧ (decode cX12_isOn 70 = .ok (.ireturn, 1)) := by decide +kernel
theorem dX12_isOn_60 : decode cX12_isOn 60 = .ok (.iload 4, 2) := dX12_isOn_60g.1
theorem dX12_isOn_62 : decode cX12_isOn 62 = .ok (.if_icmp .ge 7, 3) := dX12_isOn_60g.2.1
theorem dX12_isOn_65 : decode cX12_isOn 65 = .ok (.iconst 1, 1) := dX12_isOn_60g.2.2.1
theorem dX12_isOn_66 : decode cX12_isOn 66 = .ok (.goto 4, 3) := dX12_isOn_60g.2.2.2.1
theorem dX12_isOn_69 : decode cX12_isOn 69 = .ok (.iconst 0, 1) := dX12_isOn_60g.2.2.2.2.1
theorem dX12_isOn_70 : decode cX12_isOn 70 = .ok (.ireturn, 1) := dX12_isOn_60g.2.2.2.2.2
set_option maxHeartbeats 4000000 in
set_option maxRecDepth 100000 in
theorem c_X12_isOn (l : Launch) (E : Nat → Nat) (D : va_G) (G : th_G) (H0 : Heap) (h0 : Nat) (hG0 : G h0 = some (10, 0)) (x1 : Int32) (x2 : Int32) (hx1 : (0 : Int) ≤ x1.toInt ∧ x1.toInt ≤ 1) : Met l yX12_isOn (tb (.code yX12_isOn cX12_isOn 5 (some .boolean))) (rm 1) (va_Pc [.ref h0, .int x1, .int x2] (PR E D G H0)) (QS H0 (fun r => 0 ≤ (r : Int32).toInt ∧ (r : Int32).toInt ≤ 1)) 0 0 (fun _ => False) := by
  refine Met.ofW (cc := cX12_isOn) (maxL := 5) (ret := (some .boolean)) (by decide) rfl ?_
  intro p e s m args below meth c s₁ B hml hv
  obtain ⟨hav, rfl, hI, hN, hK⟩ := hv
  have hx := B.exec
  have hb := B.bytes
  have hr := B.returns
  have hts := atoms_spec (ws := tb (.code yX12_isOn cX12_isOn 5 (some .boolean))) B.pre
  have hown : s.vm.findClass RX12 = some m.cls := findClass_of_methodNamed B.named
  have hlocks := B.notSynchronized
  have hS : va_S (fun _ => False) s.heap s.heap [] := va_S.rf
  have hl := lv_entry ([.ref h0, .int x1, .int x2]) (n := 5) (Nat.le_of_ble_eq_true rfl)
  rw [show entryFrame m args 5 = entryFrame m ([.ref h0, .int x1, .int x2] : List Value).toArray 5 from by rw [hav], lg_entry_eq]
  generalize (lg_sl ([.ref h0, .int x1, .int x2]) ++ List.replicate (5 - (lg_sl ([.ref h0, .int x1, .int x2])).length) Slot.unset).toArray = ls at hl ⊢
  have hl : lv_has ls 5 [(0, .ref h0), (1, .int x1), (2, .int x2)] := hl
  generalize hR : (headSpec (tb (.code yX12_isOn cX12_isOn 5 (some .boolean))) (rm 1)).room = R
  have hR := hR.symm
  generalize hQ : MQ below (QS s.heap (fun r => 0 ≤ (r : Int32).toInt ∧ (r : Int32).toInt ≤ 1)) args s 0 0 (fun _ => False) = QF
  have hQ := hQ.symm
  obtain ⟨q_3, hq_3, hf_3⟩ := fr_of hI hG0 3 (by decide) (kd := (1, 5123)) rfl
  obtain ⟨F_3, hA_3, hP_3⟩ := om_1 hI hq_3 List.not_mem_nil
  refine lv_aload_n hx hb dX12_isOn_0 rfl (lv_at hl 0 rfl) ?_
  refine gmA hx hb hts inT12 hown hK hI List.not_mem_nil hG0 3 (by decide) (hts _ (tb_c wd_1236)) rfl rfl dX12_isOn_1 (fun a1 hq2 hf3 => ?_)
  obtain rfl := fr.uniq (by decide) hf_3 hf3
  refine lv_iconst (v := 0) hx hb dX12_isOn_4 (by decide) ?_
  refine lv_iconst (v := 5) hx hb dX12_isOn_5 (by decide) ?_
  refine lv_iload_n hx hb dX12_isOn_6 rfl (lv_at hl 1 rfl) ?_
  refine lv_imul hx hb dX12_isOn_7 ?_
  refine lv_topi (fun v4 e5 => ?_)
  have tv4 : v4.toInt = (5) * x1.toInt := iv_mul (by decide) rfl e5 (by omega) (by omega)
  refine lv_iadd hx hb dX12_isOn_8 ?_
  refine lv_topi (fun v6 e7 => ?_)
  have tv6 : v6.toInt = (0) + v4.toInt := iv_add (by decide) rfl e7 (by omega) (by omega)
  refine lv_iconst (v := 2) hx hb dX12_isOn_9 (by decide) ?_
  refine lv_iadd hx hb dX12_isOn_10 ?_
  refine lv_topi (fun v8 e9 => ?_)
  have tv8 : v8.toInt = v6.toInt + (2) := iv_add rfl (by decide) e9 (by omega) (by omega)
  refine th_iald hx hb hK hA_3 0 rfl (iv_in (X := v8.toInt) rfl (by omega) (by omega)) dX12_isOn_11 (fun v10 e11 => ?_)
  refine lv_istore_n (lv' := [(3, .int v10), (0, .ref h0), (1, .int x1), (2, .int x2)]) hx hb dX12_isOn_12 rfl hl (by decide) rfl (fun ls hl => ?_)
  refine lv_aload_n hx hb dX12_isOn_13 rfl (lv_at hl 1 rfl) ?_
  refine gmA hx hb hts inT12 hown hK hI List.not_mem_nil hG0 3 (by decide) (hts _ (tb_c wd_1236)) rfl rfl dX12_isOn_14 (fun a12 hq13 hf14 => ?_)
  obtain rfl := fr.uniq (by decide) hf_3 hf14
  refine lv_iconst (v := 0) hx hb dX12_isOn_17 (by decide) ?_
  refine lv_iconst (v := 5) hx hb dX12_isOn_18 (by decide) ?_
  refine lv_iload_n hx hb dX12_isOn_19 rfl (lv_at hl 2 rfl) ?_
  refine lv_imul hx hb dX12_isOn_20 ?_
  refine lv_topi (fun v15 e16 => ?_)
  have tv15 : v15.toInt = (5) * x1.toInt := iv_mul (by decide) rfl e16 (by omega) (by omega)
  refine lv_iadd hx hb dX12_isOn_21 ?_
  refine lv_topi (fun v17 e18 => ?_)
  have tv17 : v17.toInt = (0) + v15.toInt := iv_add (by decide) rfl e18 (by omega) (by omega)
  refine lv_iconst (v := 3) hx hb dX12_isOn_22 (by decide) ?_
  refine lv_iadd hx hb dX12_isOn_23 ?_
  refine lv_topi (fun v19 e20 => ?_)
  have tv19 : v19.toInt = v17.toInt + (3) := iv_add rfl (by decide) e20 (by omega) (by omega)
  refine th_iald hx hb hK hA_3 0 rfl (iv_in (X := v19.toInt) rfl (by omega) (by omega)) dX12_isOn_24 (fun v21 e22 => ?_)
  refine lv_istore (lv' := [(4, .int v21), (3, .int v10), (0, .ref h0), (1, .int x1), (2, .int x2)]) hx hb dX12_isOn_25 hl (by decide) rfl (fun ls hl => ?_)
  refine lv_iload_n hx hb dX12_isOn_27 rfl (lv_at hl 1 rfl) ?_
  refine lv_iload hx hb dX12_isOn_28 (lv_at hl 0 rfl) ?_
  have k23 := iv_lo v10
  have k24 := iv_hi v10
  have k25 := iv_lo v21
  have k26 := iv_hi v21
  refine lv_icmp_eq (tgt := 65) hx hb dX12_isOn_30 (by decide) (fun c27 => ?_) (fun c27 => ?_)
  · skip
    have k28 := iv_eq (X := v10.toInt) (Y := v21.toInt) rfl rfl c27
    refine lv_iconst (v := 1) hx hb dX12_isOn_65 (by decide) ?_
    refine lv_goto (tgt := 70) hx hb dX12_isOn_66 (by decide) ?_
    have hpost : 0 ≤ (1 : Int32).toInt ∧ (1 : Int32).toInt ≤ 1 := by first | decide | omega
    rw [hQ]
    exact W.zret (v := 1) hx hb hr (by decide) (fun t ht hW => ⟨⟨1, (), rfl, hpost, ht⟩, hS.F ht⟩) hS.2.2 dX12_isOn_70
  · skip
    have k29 := iv_ne (X := v10.toInt) (Y := v21.toInt) rfl rfl c27
    refine lv_iload_n hx hb dX12_isOn_33 rfl (lv_at hl 1 rfl) ?_
    refine lv_iload hx hb dX12_isOn_34 (lv_at hl 0 rfl) ?_
    refine lv_icmp_ge (tgt := 54) hx hb dX12_isOn_36 (by decide) (fun c30 => ?_) (fun c30 => ?_)
    · skip
      have k31 := iv_le (X := v21.toInt) (Y := v10.toInt) rfl rfl c30
      refine lv_iload_n hx hb dX12_isOn_54 rfl (lv_at hl 4 rfl) ?_
      refine lv_iload_n hx hb dX12_isOn_55 rfl (lv_at hl 1 rfl) ?_
      have k32 := iv_lo x2
      have k33 := iv_hi x2
      refine lv_icmp_ge (tgt := 65) hx hb dX12_isOn_56 (by decide) (fun c34 => ?_) (fun c34 => ?_)
      · skip
        have k35 := iv_le (X := v10.toInt) (Y := x2.toInt) rfl rfl c34
        refine lv_iconst (v := 1) hx hb dX12_isOn_65 (by decide) ?_
        refine lv_goto (tgt := 70) hx hb dX12_isOn_66 (by decide) ?_
        have hpost : 0 ≤ (1 : Int32).toInt ∧ (1 : Int32).toInt ≤ 1 := by first | decide | omega
        rw [hQ]
        exact W.zret (v := 1) hx hb hr (by decide) (fun t ht hW => ⟨⟨1, (), rfl, hpost, ht⟩, hS.F ht⟩) hS.2.2 dX12_isOn_70
      · skip
        have k36 := iv_nle (X := v10.toInt) (Y := x2.toInt) rfl rfl c34
        refine lv_iload_n hx hb dX12_isOn_59 rfl (lv_at hl 4 rfl) ?_
        refine lv_iload hx hb dX12_isOn_60 (lv_at hl 0 rfl) ?_
        refine lv_icmp_ge (tgt := 69) hx hb dX12_isOn_62 (by decide) (fun c37 => ?_) (fun c37 => ?_)
        · skip
          have k38 := iv_le (X := v21.toInt) (Y := x2.toInt) rfl rfl c37
          refine lv_iconst (v := 0) hx hb dX12_isOn_69 (by decide) ?_
          have hpost : 0 ≤ (0 : Int32).toInt ∧ (0 : Int32).toInt ≤ 1 := by first | decide | omega
          rw [hQ]
          exact W.zret (v := 0) hx hb hr (by decide) (fun t ht hW => ⟨⟨0, (), rfl, hpost, ht⟩, hS.F ht⟩) hS.2.2 dX12_isOn_70
        · skip
          have k39 := iv_nle (X := v21.toInt) (Y := x2.toInt) rfl rfl c37
          refine lv_iconst (v := 1) hx hb dX12_isOn_65 (by decide) ?_
          refine lv_goto (tgt := 70) hx hb dX12_isOn_66 (by decide) ?_
          have hpost : 0 ≤ (1 : Int32).toInt ∧ (1 : Int32).toInt ≤ 1 := by first | decide | omega
          rw [hQ]
          exact W.zret (v := 1) hx hb hr (by decide) (fun t ht hW => ⟨⟨1, (), rfl, hpost, ht⟩, hS.F ht⟩) hS.2.2 dX12_isOn_70
    · skip
      have k40 := iv_nle (X := v21.toInt) (Y := v10.toInt) rfl rfl c30
      refine lv_iload_n hx hb dX12_isOn_39 rfl (lv_at hl 4 rfl) ?_
      refine lv_iload_n hx hb dX12_isOn_40 rfl (lv_at hl 1 rfl) ?_
      refine lv_iload hx hb dX12_isOn_41 (lv_at hl 0 rfl) ?_
      refine lv_iconst (v := 1) hx hb dX12_isOn_43 (by decide) ?_
      refine lv_isub hx hb dX12_isOn_44 ?_
      refine lv_topi (fun v41 e42 => ?_)
      have tv41 : v41.toInt = v21.toInt - (1) := iv_sub rfl (by decide) e42 (by omega) (by omega)
      refine th_cSs (As := [.int x2, .int v10, .int v41]) (rest := []) (n := 3) (d := 0) ⟨hx, hb, hml, hown, hts⟩ (c_X12_lies l s.heap x2 v10 v41) wd_1395 wd_1396 wd_13 wd_1397 (by decide +kernel) ⟨by rw [hR]; exact Nat.le_of_ble_eq_true rfl, by rw [hR]; exact Nat.le_of_ble_eq_true rfl⟩ hN hS rfl hl.1 rfl (Nat.le_of_ble_eq_true rfl) dX12_isOn_45 ⟨Nat.zero_le _, Nat.zero_le _⟩ (fun r43 locs hp hS => ?_)
      rcases hp with ⟨rfl, hp⟩ | ⟨rfl, hp⟩
      · skip
        try simp only [rg, not_and, Int.not_le] at hp
        have hp44 := hp
        refine lv_if_eq (tgt := 69) hx hb dX12_isOn_48 (by decide) (fun c => absurd c (by decide)) (fun _ => ?_)
        refine lv_goto (tgt := 65) hx hb dX12_isOn_51 (by decide) ?_
        refine lv_iconst (v := 1) hx hb dX12_isOn_65 (by decide) ?_
        refine lv_goto (tgt := 70) hx hb dX12_isOn_66 (by decide) ?_
        have hpost : 0 ≤ (1 : Int32).toInt ∧ (1 : Int32).toInt ≤ 1 := by first | decide | omega
        rw [hQ]
        exact W.zret (v := 1) hx hb hr (by decide) (fun t ht hW => ⟨⟨1, (), rfl, hpost, ht⟩, hS.F ht⟩) hS.2.2 dX12_isOn_70
      · skip
        try simp only [rg, not_and, Int.not_le] at hp
        have hp45 := hp
        refine lv_if_eq (tgt := 69) hx hb dX12_isOn_48 (by decide) (fun _ => ?_) (fun c => absurd c (by decide))
        refine lv_iconst (v := 0) hx hb dX12_isOn_69 (by decide) ?_
        have hpost : 0 ≤ (0 : Int32).toInt ∧ (0 : Int32).toInt ≤ 1 := by first | decide | omega
        rw [hQ]
        exact W.zret (v := 0) hx hb hr (by decide) (fun t ht hW => ⟨⟨0, (), rfl, hpost, ht⟩, hS.F ht⟩) hS.2.2 dX12_isOn_70
theorem dX12_pumpedAt_0g : (decode cX12_pumpedAt 0 = .ok (.iconst 0, 1)) ∧ (decode cX12_pumpedAt 1 = .ok (.istore 4, 2)) ∧ (decode cX12_pumpedAt 3 = .ok (.iconst 0, 1)) ∧ (decode cX12_pumpedAt 4 = .ok (.istore 5, 2)) ∧ (decode cX12_pumpedAt 6 = .ok (.iload 5, 2)) ∧ (decode cX12_pumpedAt 8 = .ok (.iconst 2, 1)) ∧ (decode cX12_pumpedAt 9 = .ok (.if_icmp .ge 79, 3)) ∧ (decode cX12_pumpedAt 12 = .ok (.iload_n 3, 1)) ∧ (decode cX12_pumpedAt 13 = .ok (.ifCond .ne 75, 3)) ∧ (decode cX12_pumpedAt 16 = .ok (.iload 4, 2)) := by decide +kernel
theorem dX12_pumpedAt_0 : decode cX12_pumpedAt 0 = .ok (.iconst 0, 1) := dX12_pumpedAt_0g.1
theorem dX12_pumpedAt_1 : decode cX12_pumpedAt 1 = .ok (.istore 4, 2) := dX12_pumpedAt_0g.2.1
theorem dX12_pumpedAt_3 : decode cX12_pumpedAt 3 = .ok (.iconst 0, 1) := dX12_pumpedAt_0g.2.2.1
theorem dX12_pumpedAt_4 : decode cX12_pumpedAt 4 = .ok (.istore 5, 2) := dX12_pumpedAt_0g.2.2.2.1
theorem dX12_pumpedAt_6 : decode cX12_pumpedAt 6 = .ok (.iload 5, 2) := dX12_pumpedAt_0g.2.2.2.2.1
theorem dX12_pumpedAt_8 : decode cX12_pumpedAt 8 = .ok (.iconst 2, 1) := dX12_pumpedAt_0g.2.2.2.2.2.1
theorem dX12_pumpedAt_9 : decode cX12_pumpedAt 9 = .ok (.if_icmp .ge 79, 3) := dX12_pumpedAt_0g.2.2.2.2.2.2.1
theorem dX12_pumpedAt_12 : decode cX12_pumpedAt 12 = .ok (.iload_n 3, 1) := dX12_pumpedAt_0g.2.2.2.2.2.2.2.1
theorem dX12_pumpedAt_13 : decode cX12_pumpedAt 13 = .ok (.ifCond .ne 75, 3) := dX12_pumpedAt_0g.2.2.2.2.2.2.2.2.1
theorem dX12_pumpedAt_16 : decode cX12_pumpedAt 16 = .ok (.iload 4, 2) := dX12_pumpedAt_0g.2.2.2.2.2.2.2.2.2
theorem dX12_pumpedAt_18g : (decode cX12_pumpedAt 18 = .ok (.iload_n 1, 1)) ∧ (decode cX12_pumpedAt 19 = .ok (.aload_n 0, 1)) ∧ (decode cX12_pumpedAt 20 = .ok (.getfield 20, 3)) ∧ (decode cX12_pumpedAt 23 = .ok (.iconst 0, 1)) ∧ (decode cX12_pumpedAt 24 = .ok (.iconst 5, 1)) ∧ (decode cX12_pumpedAt 25 = .ok (.iload 5, 2)) ∧ (decode cX12_pumpedAt 27 = .ok (.imul, 1)) ∧ (decode cX12_pumpedAt 28 = .ok (.iadd, 1)) ∧ (decode cX12_pumpedAt 29 = .ok (.iaload, 1)) ∧ (decode cX12_pumpedAt 30 = .ok (.aload_n 0, 1)) := by decide +kernel
theorem dX12_pumpedAt_18 : decode cX12_pumpedAt 18 = .ok (.iload_n 1, 1) := dX12_pumpedAt_18g.1
theorem dX12_pumpedAt_19 : decode cX12_pumpedAt 19 = .ok (.aload_n 0, 1) := dX12_pumpedAt_18g.2.1
theorem dX12_pumpedAt_20 : decode cX12_pumpedAt 20 = .ok (.getfield 20, 3) := dX12_pumpedAt_18g.2.2.1
theorem dX12_pumpedAt_23 : decode cX12_pumpedAt 23 = .ok (.iconst 0, 1) := dX12_pumpedAt_18g.2.2.2.1
theorem dX12_pumpedAt_24 : decode cX12_pumpedAt 24 = .ok (.iconst 5, 1) := dX12_pumpedAt_18g.2.2.2.2.1
theorem dX12_pumpedAt_25 : decode cX12_pumpedAt 25 = .ok (.iload 5, 2) := dX12_pumpedAt_18g.2.2.2.2.2.1
theorem dX12_pumpedAt_27 : decode cX12_pumpedAt 27 = .ok (.imul, 1) := dX12_pumpedAt_18g.2.2.2.2.2.2.1
theorem dX12_pumpedAt_28 : decode cX12_pumpedAt 28 = .ok (.iadd, 1) := dX12_pumpedAt_18g.2.2.2.2.2.2.2.1
theorem dX12_pumpedAt_29 : decode cX12_pumpedAt 29 = .ok (.iaload, 1) := dX12_pumpedAt_18g.2.2.2.2.2.2.2.2.1
theorem dX12_pumpedAt_30 : decode cX12_pumpedAt 30 = .ok (.aload_n 0, 1) := dX12_pumpedAt_18g.2.2.2.2.2.2.2.2.2
theorem dX12_pumpedAt_31g : (decode cX12_pumpedAt 31 = .ok (.getfield 20, 3)) ∧ (decode cX12_pumpedAt 34 = .ok (.iconst 0, 1)) ∧ (decode cX12_pumpedAt 35 = .ok (.iconst 5, 1)) ∧ (decode cX12_pumpedAt 36 = .ok (.iload 5, 2)) ∧ (decode cX12_pumpedAt 38 = .ok (.imul, 1)) ∧ (decode cX12_pumpedAt 39 = .ok (.iadd, 1)) ∧ (decode cX12_pumpedAt 40 = .ok (.iconst 1, 1)) ∧ (decode cX12_pumpedAt 41 = .ok (.iadd, 1)) ∧ (decode cX12_pumpedAt 42 = .ok (.iaload, 1)) ∧ (decode cX12_pumpedAt 43 = .ok (.invokestatic 103, 3)) := by decide +kernel
theorem dX12_pumpedAt_31 : decode cX12_pumpedAt 31 = .ok (.getfield 20, 3) := dX12_pumpedAt_31g.1
theorem dX12_pumpedAt_34 : decode cX12_pumpedAt 34 = .ok (.iconst 0, 1) := dX12_pumpedAt_31g.2.1
theorem dX12_pumpedAt_35 : decode cX12_pumpedAt 35 = .ok (.iconst 5, 1) := dX12_pumpedAt_31g.2.2.1
theorem dX12_pumpedAt_36 : decode cX12_pumpedAt 36 = .ok (.iload 5, 2) := dX12_pumpedAt_31g.2.2.2.1
theorem dX12_pumpedAt_38 : decode cX12_pumpedAt 38 = .ok (.imul, 1) := dX12_pumpedAt_31g.2.2.2.2.1
theorem dX12_pumpedAt_39 : decode cX12_pumpedAt 39 = .ok (.iadd, 1) := dX12_pumpedAt_31g.2.2.2.2.2.1
theorem dX12_pumpedAt_40 : decode cX12_pumpedAt 40 = .ok (.iconst 1, 1) := dX12_pumpedAt_31g.2.2.2.2.2.2.1
theorem dX12_pumpedAt_41 : decode cX12_pumpedAt 41 = .ok (.iadd, 1) := dX12_pumpedAt_31g.2.2.2.2.2.2.2.1
theorem dX12_pumpedAt_42 : decode cX12_pumpedAt 42 = .ok (.iaload, 1) := dX12_pumpedAt_31g.2.2.2.2.2.2.2.2.1
theorem dX12_pumpedAt_43 : decode cX12_pumpedAt 43 = .ok (.invokestatic 103, 3) := dX12_pumpedAt_31g.2.2.2.2.2.2.2.2.2
theorem dX12_pumpedAt_46g : (decode cX12_pumpedAt 46 = .ok (.ifCond .eq 32, 3)) ∧ (decode cX12_pumpedAt 49 = .ok (.aload_n 0, 1)) ∧ (decode cX12_pumpedAt 50 = .ok (.iload 5, 2)) ∧ (decode cX12_pumpedAt 52 = .ok (.iload_n 2, 1)) ∧ (decode cX12_pumpedAt 53 = .ok (.bipush 24, 2)) ∧ (decode cX12_pumpedAt 55 = .ok (.irem, 1)) ∧ (decode cX12_pumpedAt 56 = .ok (.invokevirtual 263, 3)) ∧ (decode cX12_pumpedAt 59 = .ok (.ifCond .eq 19, 3)) ∧ (decode cX12_pumpedAt 62 = .ok (.aload_n 0, 1)) ∧ (decode cX12_pumpedAt 63 = .ok (.getfield 20, 3)) := by decide +kernel
theorem dX12_pumpedAt_46 : decode cX12_pumpedAt 46 = .ok (.ifCond .eq 32, 3) := dX12_pumpedAt_46g.1
theorem dX12_pumpedAt_49 : decode cX12_pumpedAt 49 = .ok (.aload_n 0, 1) := dX12_pumpedAt_46g.2.1
theorem dX12_pumpedAt_50 : decode cX12_pumpedAt 50 = .ok (.iload 5, 2) := dX12_pumpedAt_46g.2.2.1
theorem dX12_pumpedAt_52 : decode cX12_pumpedAt 52 = .ok (.iload_n 2, 1) := dX12_pumpedAt_46g.2.2.2.1
theorem dX12_pumpedAt_53 : decode cX12_pumpedAt 53 = .ok (.bipush 24, 2) := dX12_pumpedAt_46g.2.2.2.2.1
theorem dX12_pumpedAt_55 : decode cX12_pumpedAt 55 = .ok (.irem, 1) := dX12_pumpedAt_46g.2.2.2.2.2.1
theorem dX12_pumpedAt_56 : decode cX12_pumpedAt 56 = .ok (.invokevirtual 263, 3) := dX12_pumpedAt_46g.2.2.2.2.2.2.1
theorem dX12_pumpedAt_59 : decode cX12_pumpedAt 59 = .ok (.ifCond .eq 19, 3) := dX12_pumpedAt_46g.2.2.2.2.2.2.2.1
theorem dX12_pumpedAt_62 : decode cX12_pumpedAt 62 = .ok (.aload_n 0, 1) := dX12_pumpedAt_46g.2.2.2.2.2.2.2.2.1
theorem dX12_pumpedAt_63 : decode cX12_pumpedAt 63 = .ok (.getfield 20, 3) := dX12_pumpedAt_46g.2.2.2.2.2.2.2.2.2
theorem dX12_pumpedAt_66g : (decode cX12_pumpedAt 66 = .ok (.iconst 0, 1)) ∧ (decode cX12_pumpedAt 67 = .ok (.iconst 5, 1)) ∧ (decode cX12_pumpedAt 68 = .ok (.iload 5, 2)) ∧ (decode cX12_pumpedAt 70 = .ok (.imul, 1)) ∧ (decode cX12_pumpedAt 71 = .ok (.iadd, 1)) ∧ (decode cX12_pumpedAt 72 = .ok (.iconst 4, 1)) ∧ (decode cX12_pumpedAt 73 = .ok (.iadd, 1)) ∧ (decode cX12_pumpedAt 74 = .ok (.iaload, 1)) ∧ (decode cX12_pumpedAt 75 = .ok (.goto 4, 3)) ∧ (decode cX12_pumpedAt 78 = .ok (.iconst 0, 1)) := by decide +kernel
theorem dX12_pumpedAt_66 : decode cX12_pumpedAt 66 = .ok (.iconst 0, 1) := dX12_pumpedAt_66g.1
theorem dX12_pumpedAt_67 : decode cX12_pumpedAt 67 = .ok (.iconst 5, 1) := dX12_pumpedAt_66g.2.1
theorem dX12_pumpedAt_68 : decode cX12_pumpedAt 68 = .ok (.iload 5, 2) := dX12_pumpedAt_66g.2.2.1
theorem dX12_pumpedAt_70 : decode cX12_pumpedAt 70 = .ok (.imul, 1) := dX12_pumpedAt_66g.2.2.2.1
theorem dX12_pumpedAt_71 : decode cX12_pumpedAt 71 = .ok (.iadd, 1) := dX12_pumpedAt_66g.2.2.2.2.1
theorem dX12_pumpedAt_72 : decode cX12_pumpedAt 72 = .ok (.iconst 4, 1) := dX12_pumpedAt_66g.2.2.2.2.2.1
theorem dX12_pumpedAt_73 : decode cX12_pumpedAt 73 = .ok (.iadd, 1) := dX12_pumpedAt_66g.2.2.2.2.2.2.1
theorem dX12_pumpedAt_74 : decode cX12_pumpedAt 74 = .ok (.iaload, 1) := dX12_pumpedAt_66g.2.2.2.2.2.2.2.1
theorem dX12_pumpedAt_75 : decode cX12_pumpedAt 75 = .ok (.goto 4, 3) := dX12_pumpedAt_66g.2.2.2.2.2.2.2.2.1
theorem dX12_pumpedAt_78 : decode cX12_pumpedAt 78 = .ok (.iconst 0, 1) := dX12_pumpedAt_66g.2.2.2.2.2.2.2.2.2
theorem dX12_pumpedAt_79g : (decode cX12_pumpedAt 79 = .ok (.iadd, 1)) ∧ (decode cX12_pumpedAt 80 = .ok (.istore 4, 2)) ∧ (decode cX12_pumpedAt 82 = .ok (.iinc 5 1, 3)) ∧ (decode cX12_pumpedAt 85 = .ok (.goto (-79), 3)) ∧ (decode cX12_pumpedAt 88 = .ok (.iload 4, 2)) ∧ (decode cX12_pumpedAt 90 = .ok (.ireturn, 1)) := by decide +kernel
theorem dX12_pumpedAt_79 : decode cX12_pumpedAt 79 = .ok (.iadd, 1) := dX12_pumpedAt_79g.1
theorem dX12_pumpedAt_80 : decode cX12_pumpedAt 80 = .ok (.istore 4, 2) := dX12_pumpedAt_79g.2.1
theorem dX12_pumpedAt_82 : decode cX12_pumpedAt 82 = .ok (.iinc 5 1, 3) := dX12_pumpedAt_79g.2.2.1
theorem dX12_pumpedAt_85 : decode cX12_pumpedAt 85 = .ok (.goto (-79), 3) := dX12_pumpedAt_79g.2.2.2.1
theorem dX12_pumpedAt_88 : decode cX12_pumpedAt 88 = .ok (.iload 4, 2) := dX12_pumpedAt_79g.2.2.2.2.1
theorem dX12_pumpedAt_90 : decode cX12_pumpedAt 90 = .ok (.ireturn, 1) := dX12_pumpedAt_79g.2.2.2.2.2
set_option maxHeartbeats 4000000 in
set_option maxRecDepth 100000 in
theorem c_X12_pumpedAt (l : Launch) (E : Nat → Nat) (D : va_G) (G : th_G) (H0 : Heap) (h0 : Nat) (hG0 : G h0 = some (10, 0)) (x1 : Int32) (x2 : Int32) (x3 : Int32) (hx3 : (0 : Int) ≤ x3.toInt ∧ x3.toInt ≤ 1) : Met l yX12_pumpedAt (tb (.code yX12_pumpedAt cX12_pumpedAt 6 (some .int))) (rm 2) (va_Pc [.ref h0, .int x1, .int x2, .int x3] (PR E D G H0)) (QS H0 (fun r => True)) 0 0 (fun _ => False) := by
  refine Met.ofW (cc := cX12_pumpedAt) (maxL := 6) (ret := (some .int)) (by decide) rfl ?_
  intro p e s m args below meth c s₁ B hml hv
  obtain ⟨hav, rfl, hI, hN, hK⟩ := hv
  have hx := B.exec
  have hb := B.bytes
  have hr := B.returns
  have hts := atoms_spec (ws := tb (.code yX12_pumpedAt cX12_pumpedAt 6 (some .int))) B.pre
  have hown : s.vm.findClass RX12 = some m.cls := findClass_of_methodNamed B.named
  have hlocks := B.notSynchronized
  have hS : va_S (fun _ => False) s.heap s.heap [] := va_S.rf
  have hl := lv_entry ([.ref h0, .int x1, .int x2, .int x3]) (n := 6) (Nat.le_of_ble_eq_true rfl)
  rw [show entryFrame m args 6 = entryFrame m ([.ref h0, .int x1, .int x2, .int x3] : List Value).toArray 6 from by rw [hav], lg_entry_eq]
  generalize (lg_sl ([.ref h0, .int x1, .int x2, .int x3]) ++ List.replicate (6 - (lg_sl ([.ref h0, .int x1, .int x2, .int x3])).length) Slot.unset).toArray = ls at hl ⊢
  have hl : lv_has ls 6 [(0, .ref h0), (1, .int x1), (2, .int x2), (3, .int x3)] := hl
  generalize hR : (headSpec (tb (.code yX12_pumpedAt cX12_pumpedAt 6 (some .int))) (rm 2)).room = R
  have hR := hR.symm
  generalize hQ : MQ below (QS s.heap (fun r => True)) args s 0 0 (fun _ => False) = QF
  have hQ := hQ.symm
  obtain ⟨q_3, hq_3, hf_3⟩ := fr_of hI hG0 3 (by decide) (kd := (1, 5123)) rfl
  obtain ⟨F_3, hA_3, hP_3⟩ := om_1 hI hq_3 List.not_mem_nil
  have J_6 : ∀ (nn : Nat) (locs : List Loc) (ls : Array Slot) (v582 : Int32) (v583 : Int32) , (Int.toNat (2 - v582.toInt) = nn) → lv_has ls 6 [(5, .int v582), (4, .int v583), (0, .ref h0), (1, .int x1), (2, .int x2), (3, .int x3)] → ((0 : Int) ≤ v582.toInt ∧ v582.toInt ≤ 2) → ((0 : Int) ≤ x3.toInt ∧ x3.toInt ≤ 1) → va_S (fun _ => False) s.heap s.heap locs → W p l e R s m args below meth c s.heap locs 0 0 QF (F0 m 6 ls []) := by
    intro nn
    induction nn using Nat.strongRecOn with
    | ind nn ih_6 =>
      intro locs ls v582 v583  hm hl k584 k585 hS
      refine lv_iload hx hb dX12_pumpedAt_6 (lv_at hl 0 rfl) ?_
      refine lv_iconst (v := 2) hx hb dX12_pumpedAt_8 (by decide) ?_
      refine lv_icmp_ge (tgt := 88) hx hb dX12_pumpedAt_9 (by decide) (fun c586 => ?_) (fun c586 => ?_)
      · skip
        have k587 := iv_le (X := (2)) (Y := v582.toInt) (by decide) rfl c586
        refine lv_iload hx hb dX12_pumpedAt_88 (lv_at hl 1 rfl) ?_
        have hpost : True := trivial
        rw [hQ]
        exact W.iret (v := v583) hx hb hr (fun t ht hW => ⟨⟨v583, (), rfl, hpost, ht⟩, hS.F ht⟩) hS.2.2 dX12_pumpedAt_90
      · skip
        have k588 := iv_nle (X := (2)) (Y := v582.toInt) (by decide) rfl c586
        refine lv_iload_n hx hb dX12_pumpedAt_12 rfl (lv_at hl 5 rfl) ?_
        refine lv_if_ne (tgt := 88) hx hb dX12_pumpedAt_13 (by decide) (fun c589 => ?_) (fun c589 => ?_)
        · skip
          have k590 := iv_ne (X := x3.toInt) (Y := (0)) rfl (by decide) c589
          refine lv_iload hx hb dX12_pumpedAt_88 (lv_at hl 1 rfl) ?_
          have hpost : True := trivial
          rw [hQ]
          exact W.iret (v := v583) hx hb hr (fun t ht hW => ⟨⟨v583, (), rfl, hpost, ht⟩, hS.F ht⟩) hS.2.2 dX12_pumpedAt_90
        · skip
          have k591 := iv_eq (X := x3.toInt) (Y := (0)) rfl (by decide) c589
          refine lv_iload hx hb dX12_pumpedAt_16 (lv_at hl 1 rfl) ?_
          refine lv_iload_n hx hb dX12_pumpedAt_18 rfl (lv_at hl 3 rfl) ?_
          refine lv_aload_n hx hb dX12_pumpedAt_19 rfl (lv_at hl 2 rfl) ?_
          refine gmA hx hb hts inT12 hown hK hI List.not_mem_nil hG0 3 (by decide) (hts _ (tb_c wd_1236)) rfl rfl dX12_pumpedAt_20 (fun a592 hq593 hf594 => ?_)
          obtain rfl := fr.uniq (by decide) hf_3 hf594
          refine lv_iconst (v := 0) hx hb dX12_pumpedAt_23 (by decide) ?_
          refine lv_iconst (v := 5) hx hb dX12_pumpedAt_24 (by decide) ?_
          refine lv_iload hx hb dX12_pumpedAt_25 (lv_at hl 0 rfl) ?_
          refine lv_imul hx hb dX12_pumpedAt_27 ?_
          refine lv_topi (fun v595 e596 => ?_)
          have tv595 : v595.toInt = (5) * v582.toInt := iv_mul (by decide) rfl e596 (by omega) (by omega)
          refine lv_iadd hx hb dX12_pumpedAt_28 ?_
          refine lv_topi (fun v597 e598 => ?_)
          have tv597 : v597.toInt = (0) + v595.toInt := iv_add (by decide) rfl e598 (by omega) (by omega)
          refine th_iald hx hb hK hA_3 0 rfl (iv_in (X := v597.toInt) rfl (by omega) (by omega)) dX12_pumpedAt_29 (fun v599 e600 => ?_)
          refine lv_aload_n hx hb dX12_pumpedAt_30 rfl (lv_at hl 2 rfl) ?_
          refine gmA hx hb hts inT12 hown hK hI List.not_mem_nil hG0 3 (by decide) (hts _ (tb_c wd_1236)) rfl rfl dX12_pumpedAt_31 (fun a601 hq602 hf603 => ?_)
          obtain rfl := fr.uniq (by decide) hf_3 hf603
          refine lv_iconst (v := 0) hx hb dX12_pumpedAt_34 (by decide) ?_
          refine lv_iconst (v := 5) hx hb dX12_pumpedAt_35 (by decide) ?_
          refine lv_iload hx hb dX12_pumpedAt_36 (lv_at hl 0 rfl) ?_
          refine lv_imul hx hb dX12_pumpedAt_38 ?_
          refine lv_topi (fun v604 e605 => ?_)
          have tv604 : v604.toInt = (5) * v582.toInt := iv_mul (by decide) rfl e605 (by omega) (by omega)
          refine lv_iadd hx hb dX12_pumpedAt_39 ?_
          refine lv_topi (fun v606 e607 => ?_)
          have tv606 : v606.toInt = (0) + v604.toInt := iv_add (by decide) rfl e607 (by omega) (by omega)
          refine lv_iconst (v := 1) hx hb dX12_pumpedAt_40 (by decide) ?_
          refine lv_iadd hx hb dX12_pumpedAt_41 ?_
          refine lv_topi (fun v608 e609 => ?_)
          have tv608 : v608.toInt = v606.toInt + (1) := iv_add rfl (by decide) e609 (by omega) (by omega)
          refine th_iald hx hb hK hA_3 0 rfl (iv_in (X := v608.toInt) rfl (by omega) (by omega)) dX12_pumpedAt_42 (fun v610 e611 => ?_)
          refine th_cSs (As := [.int x1, .int v599, .int v610]) (rest := [.int v583]) (n := 3) (d := 0) ⟨hx, hb, hml, hown, hts⟩ (c_X12_lies l s.heap x1 v599 v610) wd_1395 wd_1396 wd_13 wd_1397 (by decide +kernel) ⟨by rw [hR]; exact Nat.le_of_ble_eq_true rfl, by rw [hR]; exact Nat.le_of_ble_eq_true rfl⟩ hN hS rfl hl.1 rfl (Nat.le_of_ble_eq_true rfl) dX12_pumpedAt_43 ⟨Nat.zero_le _, Nat.zero_le _⟩ (fun r612 locs hp hS => ?_)
          rcases hp with ⟨rfl, hp⟩ | ⟨rfl, hp⟩
          · skip
            try simp only [rg, not_and, Int.not_le] at hp
            have hp613 := hp
            refine lv_if_eq (tgt := 78) hx hb dX12_pumpedAt_46 (by decide) (fun c => absurd c (by decide)) (fun _ => ?_)
            refine lv_aload_n hx hb dX12_pumpedAt_49 rfl (lv_at hl 2 rfl) ?_
            refine lv_iload hx hb dX12_pumpedAt_50 (lv_at hl 0 rfl) ?_
            refine lv_iload_n hx hb dX12_pumpedAt_52 rfl (lv_at hl 4 rfl) ?_
            refine lv_bipush (v := 24) hx hb dX12_pumpedAt_53 (by decide) ?_
            refine lv_irem hx hb dX12_pumpedAt_55 (by decide) ?_
            refine lv_topi (fun v614 e615 => ?_)
            refine mr_i (As := [.int v582, .int v614]) (rest := [.int v583]) (n := 2) (d := 1) ⟨hx, hb, hml, hown, hts⟩ (c_X12_isOn l E D G s.heap h0 hG0 v582 v614 ⟨by omega, by omega⟩) wd_1471 wd_1473 wp_47 wd_13 wd_1474 (by decide +kernel) ⟨by rw [hR]; exact Nat.le_of_ble_eq_true rfl, by rw [hR]; exact Nat.le_of_ble_eq_true rfl⟩ hI hN hK hS hG0 rfl hl.1 rfl (Nat.le_of_ble_eq_true rfl) dX12_pumpedAt_56 ⟨Nat.zero_le _, Nat.zero_le _⟩ (fun r616 locs hp hS => ?_)
            have hp617 := hp
            refine lv_if_eq (tgt := 78) hx hb dX12_pumpedAt_59 (by decide) (fun c618 => ?_) (fun c618 => ?_)
            · skip
              have k619 := iv_eq (X := r616.toInt) (Y := (0)) rfl (by decide) c618
              refine lv_iconst (v := 0) hx hb dX12_pumpedAt_78 (by decide) ?_
              refine lv_iadd hx hb dX12_pumpedAt_79 ?_
              refine lv_topi (fun v620 e621 => ?_)
              have k622 := iv_lo v583
              have k623 := iv_hi v583
              have tv620 : v620.toInt = v583.toInt + (0) := iv_add rfl (by decide) e621 (by omega) (by omega)
              refine lv_istore (lv' := [(4, .int v620), (5, .int v582), (0, .ref h0), (1, .int x1), (2, .int x2), (3, .int x3)]) hx hb dX12_pumpedAt_80 hl (by decide) rfl (fun ls hl => ?_)
              obtain ⟨v624, e625⟩ : ∃ y : Int32, y = v582 + (1) := ⟨_, rfl⟩
              have tv624 : v624.toInt = v582.toInt + (1) := iv_add rfl (by decide) e625 (by omega) (by omega)
              refine lv_iinc (v := v624) (lv' := [(5, .int v624), (4, .int v620), (0, .ref h0), (1, .int x1), (2, .int x2), (3, .int x3)]) hx hb dX12_pumpedAt_82 hl (k := 1) rfl (by rw [e625]; rfl) (by decide) rfl (fun ls hl => ?_)
              refine lv_goto (tgt := 6) hx hb dX12_pumpedAt_85 (by decide) ?_
              exact ih_6 _ (by omega) locs ls v624 v620  rfl (lv_sub hl [0, 1, 2, 3, 4, 5] rfl) ⟨by omega, by omega⟩ ⟨by omega, by omega⟩ hS
            · skip
              have k626 := iv_ne (X := r616.toInt) (Y := (0)) rfl (by decide) c618
              refine lv_aload_n hx hb dX12_pumpedAt_62 rfl (lv_at hl 2 rfl) ?_
              refine gmA hx hb hts inT12 hown hK hI List.not_mem_nil hG0 3 (by decide) (hts _ (tb_c wd_1236)) rfl rfl dX12_pumpedAt_63 (fun a627 hq628 hf629 => ?_)
              obtain rfl := fr.uniq (by decide) hf_3 hf629
              refine lv_iconst (v := 0) hx hb dX12_pumpedAt_66 (by decide) ?_
              refine lv_iconst (v := 5) hx hb dX12_pumpedAt_67 (by decide) ?_
              refine lv_iload hx hb dX12_pumpedAt_68 (lv_at hl 0 rfl) ?_
              refine lv_imul hx hb dX12_pumpedAt_70 ?_
              refine lv_topi (fun v630 e631 => ?_)
              have tv630 : v630.toInt = (5) * v582.toInt := iv_mul (by decide) rfl e631 (by omega) (by omega)
              refine lv_iadd hx hb dX12_pumpedAt_71 ?_
              refine lv_topi (fun v632 e633 => ?_)
              have tv632 : v632.toInt = (0) + v630.toInt := iv_add (by decide) rfl e633 (by omega) (by omega)
              refine lv_iconst (v := 4) hx hb dX12_pumpedAt_72 (by decide) ?_
              refine lv_iadd hx hb dX12_pumpedAt_73 ?_
              refine lv_topi (fun v634 e635 => ?_)
              have tv634 : v634.toInt = v632.toInt + (4) := iv_add rfl (by decide) e635 (by omega) (by omega)
              refine th_iald hx hb hK hA_3 0 rfl (iv_in (X := v634.toInt) rfl (by omega) (by omega)) dX12_pumpedAt_74 (fun v636 e637 => ?_)
              refine lv_goto (tgt := 79) hx hb dX12_pumpedAt_75 (by decide) ?_
              refine lv_iadd hx hb dX12_pumpedAt_79 ?_
              refine lv_topi (fun v638 e639 => ?_)
              try have tv638 : v638.toInt = v583.toInt + v636.toInt := iv_add rfl rfl e639 (by omega) (by omega)
              refine lv_istore (lv' := [(4, .int v638), (5, .int v582), (0, .ref h0), (1, .int x1), (2, .int x2), (3, .int x3)]) hx hb dX12_pumpedAt_80 hl (by decide) rfl (fun ls hl => ?_)
              obtain ⟨v640, e641⟩ : ∃ y : Int32, y = v582 + (1) := ⟨_, rfl⟩
              have tv640 : v640.toInt = v582.toInt + (1) := iv_add rfl (by decide) e641 (by omega) (by omega)
              refine lv_iinc (v := v640) (lv' := [(5, .int v640), (4, .int v638), (0, .ref h0), (1, .int x1), (2, .int x2), (3, .int x3)]) hx hb dX12_pumpedAt_82 hl (k := 1) rfl (by rw [e641]; rfl) (by decide) rfl (fun ls hl => ?_)
              refine lv_goto (tgt := 6) hx hb dX12_pumpedAt_85 (by decide) ?_
              exact ih_6 _ (by omega) locs ls v640 v638  rfl (lv_sub hl [0, 1, 2, 3, 4, 5] rfl) ⟨by omega, by omega⟩ ⟨by omega, by omega⟩ hS
          · skip
            try simp only [rg, not_and, Int.not_le] at hp
            have hp642 := hp
            refine lv_if_eq (tgt := 78) hx hb dX12_pumpedAt_46 (by decide) (fun _ => ?_) (fun c => absurd c (by decide))
            refine lv_iconst (v := 0) hx hb dX12_pumpedAt_78 (by decide) ?_
            refine lv_iadd hx hb dX12_pumpedAt_79 ?_
            refine lv_topi (fun v643 e644 => ?_)
            have k645 := iv_lo v583
            have k646 := iv_hi v583
            have tv643 : v643.toInt = v583.toInt + (0) := iv_add rfl (by decide) e644 (by omega) (by omega)
            refine lv_istore (lv' := [(4, .int v643), (5, .int v582), (0, .ref h0), (1, .int x1), (2, .int x2), (3, .int x3)]) hx hb dX12_pumpedAt_80 hl (by decide) rfl (fun ls hl => ?_)
            obtain ⟨v647, e648⟩ : ∃ y : Int32, y = v582 + (1) := ⟨_, rfl⟩
            have tv647 : v647.toInt = v582.toInt + (1) := iv_add rfl (by decide) e648 (by omega) (by omega)
            refine lv_iinc (v := v647) (lv' := [(5, .int v647), (4, .int v643), (0, .ref h0), (1, .int x1), (2, .int x2), (3, .int x3)]) hx hb dX12_pumpedAt_82 hl (k := 1) rfl (by rw [e648]; rfl) (by decide) rfl (fun ls hl => ?_)
            refine lv_goto (tgt := 6) hx hb dX12_pumpedAt_85 (by decide) ?_
            exact ih_6 _ (by omega) locs ls v647 v643  rfl (lv_sub hl [0, 1, 2, 3, 4, 5] rfl) ⟨by omega, by omega⟩ ⟨by omega, by omega⟩ hS
  refine lv_iconst (v := 0) hx hb dX12_pumpedAt_0 (by decide) ?_
  refine lv_istore (lv' := [(4, .int 0), (0, .ref h0), (1, .int x1), (2, .int x2), (3, .int x3)]) hx hb dX12_pumpedAt_1 hl (by decide) rfl (fun ls hl => ?_)
  refine lv_iconst (v := 0) hx hb dX12_pumpedAt_3 (by decide) ?_
  refine lv_istore (lv' := [(5, .int 0), (4, .int 0), (0, .ref h0), (1, .int x1), (2, .int x2), (3, .int x3)]) hx hb dX12_pumpedAt_4 hl (by decide) rfl (fun ls hl => ?_)
  have zl : (0 : Int32).toInt = 0 := by decide
  exact J_6 _ [] ls 0 0  rfl (lv_sub hl [0, 1, 2, 3, 4, 5] rfl) ⟨by decide, by decide⟩ ⟨by omega, by omega⟩ hS
theorem dX12_sets_0g : (decode cX12_sets 0 = .ok (.iconst 0, 1)) ∧ (decode cX12_sets 1 = .ok (.istore 5, 2)) ∧ (decode cX12_sets 3 = .ok (.iconst 0, 1)) ∧ (decode cX12_sets 4 = .ok (.istore 6, 2)) ∧ (decode cX12_sets 6 = .ok (.iload 6, 2)) ∧ (decode cX12_sets 8 = .ok (.aload_n 0, 1)) ∧ (decode cX12_sets 9 = .ok (.getfield 20, 3)) ∧ (decode cX12_sets 12 = .ok (.sipush 309, 3)) ∧ (decode cX12_sets 15 = .ok (.iaload, 1)) ∧ (decode cX12_sets 16 = .ok (.if_icmp .ge 34, 3)) := by decide +kernel
theorem dX12_sets_0 : decode cX12_sets 0 = .ok (.iconst 0, 1) := dX12_sets_0g.1
theorem dX12_sets_1 : decode cX12_sets 1 = .ok (.istore 5, 2) := dX12_sets_0g.2.1
theorem dX12_sets_3 : decode cX12_sets 3 = .ok (.iconst 0, 1) := dX12_sets_0g.2.2.1
theorem dX12_sets_4 : decode cX12_sets 4 = .ok (.istore 6, 2) := dX12_sets_0g.2.2.2.1
theorem dX12_sets_6 : decode cX12_sets 6 = .ok (.iload 6, 2) := dX12_sets_0g.2.2.2.2.1
theorem dX12_sets_8 : decode cX12_sets 8 = .ok (.aload_n 0, 1) := dX12_sets_0g.2.2.2.2.2.1
theorem dX12_sets_9 : decode cX12_sets 9 = .ok (.getfield 20, 3) := dX12_sets_0g.2.2.2.2.2.2.1
theorem dX12_sets_12 : decode cX12_sets 12 = .ok (.sipush 309, 3) := dX12_sets_0g.2.2.2.2.2.2.2.1
theorem dX12_sets_15 : decode cX12_sets 15 = .ok (.iaload, 1) := dX12_sets_0g.2.2.2.2.2.2.2.2.1
theorem dX12_sets_16 : decode cX12_sets 16 = .ok (.if_icmp .ge 34, 3) := dX12_sets_0g.2.2.2.2.2.2.2.2.2
theorem dX12_sets_19g : (decode cX12_sets 19 = .ok (.iload 5, 2)) ∧ (decode cX12_sets 21 = .ok (.aload_n 0, 1)) ∧ (decode cX12_sets 22 = .ok (.getfield 20, 3)) ∧ (decode cX12_sets 25 = .ok (.sipush 130, 3)) ∧ (decode cX12_sets 28 = .ok (.iload 6, 2)) ∧ (decode cX12_sets 30 = .ok (.iadd, 1)) ∧ (decode cX12_sets 31 = .ok (.iaload, 1)) ∧ (decode cX12_sets 32 = .ok (.iload_n 1, 1)) ∧ (decode cX12_sets 33 = .ok (.if_icmp .ne 7, 3)) ∧ (decode cX12_sets 36 = .ok (.iconst 1, 1)) := by decide +kernel
theorem dX12_sets_19 : decode cX12_sets 19 = .ok (.iload 5, 2) := dX12_sets_19g.1
theorem dX12_sets_21 : decode cX12_sets 21 = .ok (.aload_n 0, 1) := dX12_sets_19g.2.1
theorem dX12_sets_22 : decode cX12_sets 22 = .ok (.getfield 20, 3) := dX12_sets_19g.2.2.1
theorem dX12_sets_25 : decode cX12_sets 25 = .ok (.sipush 130, 3) := dX12_sets_19g.2.2.2.1
theorem dX12_sets_28 : decode cX12_sets 28 = .ok (.iload 6, 2) := dX12_sets_19g.2.2.2.2.1
theorem dX12_sets_30 : decode cX12_sets 30 = .ok (.iadd, 1) := dX12_sets_19g.2.2.2.2.2.1
theorem dX12_sets_31 : decode cX12_sets 31 = .ok (.iaload, 1) := dX12_sets_19g.2.2.2.2.2.2.1
theorem dX12_sets_32 : decode cX12_sets 32 = .ok (.iload_n 1, 1) := dX12_sets_19g.2.2.2.2.2.2.2.1
theorem dX12_sets_33 : decode cX12_sets 33 = .ok (.if_icmp .ne 7, 3) := dX12_sets_19g.2.2.2.2.2.2.2.2.1
theorem dX12_sets_36 : decode cX12_sets 36 = .ok (.iconst 1, 1) := dX12_sets_19g.2.2.2.2.2.2.2.2.2
theorem dX12_sets_37g : (decode cX12_sets 37 = .ok (.goto 4, 3)) ∧ (decode cX12_sets 40 = .ok (.iconst 0, 1)) ∧ (decode cX12_sets 41 = .ok (.iadd, 1)) ∧ (decode cX12_sets 42 = .ok (.istore 5, 2)) ∧ (decode cX12_sets 44 = .ok (.iinc 6 1, 3)) ∧ (decode cX12_sets 47 = .ok (.goto (-41), 3)) ∧ (decode cX12_sets 50 = .ok (.aload_n 0, 1)) ∧ (decode cX12_sets 51 = .ok (.getfield 52, 3)) ∧ (decode cX12_sets 54 = .ok (.iconst 0, 1)) ∧ (decode cX12_sets 55 = .ok (.iload_n 1, 1)) := by decide +kernel
theorem dX12_sets_37 : decode cX12_sets 37 = .ok (.goto 4, 3) := dX12_sets_37g.1
theorem dX12_sets_40 : decode cX12_sets 40 = .ok (.iconst 0, 1) := dX12_sets_37g.2.1
theorem dX12_sets_41 : decode cX12_sets 41 = .ok (.iadd, 1) := dX12_sets_37g.2.2.1
theorem dX12_sets_42 : decode cX12_sets 42 = .ok (.istore 5, 2) := dX12_sets_37g.2.2.2.1
theorem dX12_sets_44 : decode cX12_sets 44 = .ok (.iinc 6 1, 3) := dX12_sets_37g.2.2.2.2.1
theorem dX12_sets_47 : decode cX12_sets 47 = .ok (.goto (-41), 3) := dX12_sets_37g.2.2.2.2.2.1
theorem dX12_sets_50 : decode cX12_sets 50 = .ok (.aload_n 0, 1) := dX12_sets_37g.2.2.2.2.2.2.1
theorem dX12_sets_51 : decode cX12_sets 51 = .ok (.getfield 52, 3) := dX12_sets_37g.2.2.2.2.2.2.2.1
theorem dX12_sets_54 : decode cX12_sets 54 = .ok (.iconst 0, 1) := dX12_sets_37g.2.2.2.2.2.2.2.2.1
theorem dX12_sets_55 : decode cX12_sets 55 = .ok (.iload_n 1, 1) := dX12_sets_37g.2.2.2.2.2.2.2.2.2
theorem dX12_sets_56g : (decode cX12_sets 56 = .ok (.iastore, 1)) ∧ (decode cX12_sets 57 = .ok (.aload_n 0, 1)) ∧ (decode cX12_sets 58 = .ok (.getfield 52, 3)) ∧ (decode cX12_sets 61 = .ok (.iconst 1, 1)) ∧ (decode cX12_sets 62 = .ok (.iload_n 2, 1)) ∧ (decode cX12_sets 63 = .ok (.bipush 24, 2)) ∧ (decode cX12_sets 65 = .ok (.irem, 1)) ∧ (decode cX12_sets 66 = .ok (.iastore, 1)) ∧ (decode cX12_sets 67 = .ok (.aload_n 0, 1)) ∧ (decode cX12_sets 68 = .ok (.getfield 52, 3)) := by decide +kernel
theorem dX12_sets_56 : decode cX12_sets 56 = .ok (.iastore, 1) := dX12_sets_56g.1
theorem dX12_sets_57 : decode cX12_sets 57 = .ok (.aload_n 0, 1) := dX12_sets_56g.2.1
theorem dX12_sets_58 : decode cX12_sets 58 = .ok (.getfield 52, 3) := dX12_sets_56g.2.2.1
theorem dX12_sets_61 : decode cX12_sets 61 = .ok (.iconst 1, 1) := dX12_sets_56g.2.2.2.1
theorem dX12_sets_62 : decode cX12_sets 62 = .ok (.iload_n 2, 1) := dX12_sets_56g.2.2.2.2.1
theorem dX12_sets_63 : decode cX12_sets 63 = .ok (.bipush 24, 2) := dX12_sets_56g.2.2.2.2.2.1
theorem dX12_sets_65 : decode cX12_sets 65 = .ok (.irem, 1) := dX12_sets_56g.2.2.2.2.2.2.1
theorem dX12_sets_66 : decode cX12_sets 66 = .ok (.iastore, 1) := dX12_sets_56g.2.2.2.2.2.2.2.1
theorem dX12_sets_67 : decode cX12_sets 67 = .ok (.aload_n 0, 1) := dX12_sets_56g.2.2.2.2.2.2.2.2.1
theorem dX12_sets_68 : decode cX12_sets 68 = .ok (.getfield 52, 3) := dX12_sets_56g.2.2.2.2.2.2.2.2.2
theorem dX12_sets_71g : (decode cX12_sets 71 = .ok (.iconst 2, 1)) ∧ (decode cX12_sets 72 = .ok (.iload_n 2, 1)) ∧ (decode cX12_sets 73 = .ok (.bipush 24, 2)) ∧ (decode cX12_sets 75 = .ok (.idiv, 1)) ∧ (decode cX12_sets 76 = .ok (.iastore, 1)) ∧ (decode cX12_sets 77 = .ok (.aload_n 0, 1)) ∧ (decode cX12_sets 78 = .ok (.getfield 52, 3)) ∧ (decode cX12_sets 81 = .ok (.iconst 3, 1)) ∧ (decode cX12_sets 82 = .ok (.iload 4, 2)) ∧ (decode cX12_sets 84 = .ok (.ifCond .eq 7, 3)) := by decide +kernel
theorem dX12_sets_71 : decode cX12_sets 71 = .ok (.iconst 2, 1) := dX12_sets_71g.1
theorem dX12_sets_72 : decode cX12_sets 72 = .ok (.iload_n 2, 1) := dX12_sets_71g.2.1
theorem dX12_sets_73 : decode cX12_sets 73 = .ok (.bipush 24, 2) := dX12_sets_71g.2.2.1
theorem dX12_sets_75 : decode cX12_sets 75 = .ok (.idiv, 1) := dX12_sets_71g.2.2.2.1
theorem dX12_sets_76 : decode cX12_sets 76 = .ok (.iastore, 1) := dX12_sets_71g.2.2.2.2.1
theorem dX12_sets_77 : decode cX12_sets 77 = .ok (.aload_n 0, 1) := dX12_sets_71g.2.2.2.2.2.1
theorem dX12_sets_78 : decode cX12_sets 78 = .ok (.getfield 52, 3) := dX12_sets_71g.2.2.2.2.2.2.1
theorem dX12_sets_81 : decode cX12_sets 81 = .ok (.iconst 3, 1) := dX12_sets_71g.2.2.2.2.2.2.2.1
theorem dX12_sets_82 : decode cX12_sets 82 = .ok (.iload 4, 2) := dX12_sets_71g.2.2.2.2.2.2.2.2.1
theorem dX12_sets_84 : decode cX12_sets 84 = .ok (.ifCond .eq 7, 3) := dX12_sets_71g.2.2.2.2.2.2.2.2.2
theorem dX12_sets_87g : (decode cX12_sets 87 = .ok (.iconst 1, 1)) ∧ (decode cX12_sets 88 = .ok (.goto 4, 3)) ∧ (decode cX12_sets 91 = .ok (.iconst 0, 1)) ∧ (decode cX12_sets 92 = .ok (.iastore, 1)) ∧ (decode cX12_sets 93 = .ok (.aload_n 0, 1)) ∧ (decode cX12_sets 94 = .ok (.getfield 52, 3)) ∧ (decode cX12_sets 97 = .ok (.iconst 4, 1)) ∧ (decode cX12_sets 98 = .ok (.aload_n 0, 1)) ∧ (decode cX12_sets 99 = .ok (.iload_n 1, 1)) ∧ (decode cX12_sets 100 = .ok (.iload_n 2, 1)) := by decide +kernel
theorem dX12_sets_87 : decode cX12_sets 87 = .ok (.iconst 1, 1) := dX12_sets_87g.1
theorem dX12_sets_88 : decode cX12_sets 88 = .ok (.goto 4, 3) := dX12_sets_87g.2.1
theorem dX12_sets_91 : decode cX12_sets 91 = .ok (.iconst 0, 1) := dX12_sets_87g.2.2.1
theorem dX12_sets_92 : decode cX12_sets 92 = .ok (.iastore, 1) := dX12_sets_87g.2.2.2.1
theorem dX12_sets_93 : decode cX12_sets 93 = .ok (.aload_n 0, 1) := dX12_sets_87g.2.2.2.2.1
theorem dX12_sets_94 : decode cX12_sets 94 = .ok (.getfield 52, 3) := dX12_sets_87g.2.2.2.2.2.1
theorem dX12_sets_97 : decode cX12_sets 97 = .ok (.iconst 4, 1) := dX12_sets_87g.2.2.2.2.2.2.1
theorem dX12_sets_98 : decode cX12_sets 98 = .ok (.aload_n 0, 1) := dX12_sets_87g.2.2.2.2.2.2.2.1
theorem dX12_sets_99 : decode cX12_sets 99 = .ok (.iload_n 1, 1) := dX12_sets_87g.2.2.2.2.2.2.2.2.1
theorem dX12_sets_100 : decode cX12_sets 100 = .ok (.iload_n 2, 1) := dX12_sets_87g.2.2.2.2.2.2.2.2.2
theorem dX12_sets_101g : (decode cX12_sets 101 = .ok (.iload 4, 2)) ∧ (decode cX12_sets 103 = .ok (.invokevirtual 266, 3)) ∧ (decode cX12_sets 106 = .ok (.iastore, 1)) ∧ (decode cX12_sets 107 = .ok (.aload_n 0, 1)) ∧ (decode cX12_sets 108 = .ok (.getfield 52, 3)) ∧ (decode cX12_sets 111 = .ok (.iconst 5, 1)) ∧ (decode cX12_sets 112 = .ok (.iload 5, 2)) ∧ (decode cX12_sets 114 = .ok (.iastore, 1)) ∧ (decode cX12_sets 115 = .ok (.aload_n 0, 1)) ∧ (decode cX12_sets 116 = .ok (.getfield 52, 3)) := by decide +kernel
theorem dX12_sets_101 : decode cX12_sets 101 = .ok (.iload 4, 2) := dX12_sets_101g.1
theorem dX12_sets_103 : decode cX12_sets 103 = .ok (.invokevirtual 266, 3) := dX12_sets_101g.2.1
theorem dX12_sets_106 : decode cX12_sets 106 = .ok (.iastore, 1) := dX12_sets_101g.2.2.1
theorem dX12_sets_107 : decode cX12_sets 107 = .ok (.aload_n 0, 1) := dX12_sets_101g.2.2.2.1
theorem dX12_sets_108 : decode cX12_sets 108 = .ok (.getfield 52, 3) := dX12_sets_101g.2.2.2.2.1
theorem dX12_sets_111 : decode cX12_sets 111 = .ok (.iconst 5, 1) := dX12_sets_101g.2.2.2.2.2.1
theorem dX12_sets_112 : decode cX12_sets 112 = .ok (.iload 5, 2) := dX12_sets_101g.2.2.2.2.2.2.1
theorem dX12_sets_114 : decode cX12_sets 114 = .ok (.iastore, 1) := dX12_sets_101g.2.2.2.2.2.2.2.1
theorem dX12_sets_115 : decode cX12_sets 115 = .ok (.aload_n 0, 1) := dX12_sets_101g.2.2.2.2.2.2.2.2.1
theorem dX12_sets_116 : decode cX12_sets 116 = .ok (.getfield 52, 3) := dX12_sets_101g.2.2.2.2.2.2.2.2.2
theorem dX12_sets_119g : (decode cX12_sets 119 = .ok (.bipush 6, 2)) ∧ (decode cX12_sets 121 = .ok (.aload_n 0, 1)) ∧ (decode cX12_sets 122 = .ok (.getfield 20, 3)) ∧ (decode cX12_sets 125 = .ok (.sipush 306, 3)) ∧ (decode cX12_sets 128 = .ok (.iaload, 1)) ∧ (decode cX12_sets 129 = .ok (.iastore, 1)) ∧ (decode cX12_sets 130 = .ok (.aload_n 0, 1)) ∧ (decode cX12_sets 131 = .ok (.getfield 52, 3)) ∧ (decode cX12_sets 134 = .ok (.bipush 7, 2)) ∧ (decode cX12_sets 136 = .ok (.iload_n 3, 1)) := by decide +kernel
theorem dX12_sets_119 : decode cX12_sets 119 = .ok (.bipush 6, 2) := dX12_sets_119g.1
theorem dX12_sets_121 : decode cX12_sets 121 = .ok (.aload_n 0, 1) := dX12_sets_119g.2.1
theorem dX12_sets_122 : decode cX12_sets 122 = .ok (.getfield 20, 3) := dX12_sets_119g.2.2.1
theorem dX12_sets_125 : decode cX12_sets 125 = .ok (.sipush 306, 3) := dX12_sets_119g.2.2.2.1
theorem dX12_sets_128 : decode cX12_sets 128 = .ok (.iaload, 1) := dX12_sets_119g.2.2.2.2.1
theorem dX12_sets_129 : decode cX12_sets 129 = .ok (.iastore, 1) := dX12_sets_119g.2.2.2.2.2.1
theorem dX12_sets_130 : decode cX12_sets 130 = .ok (.aload_n 0, 1) := dX12_sets_119g.2.2.2.2.2.2.1
theorem dX12_sets_131 : decode cX12_sets 131 = .ok (.getfield 52, 3) := dX12_sets_119g.2.2.2.2.2.2.2.1
theorem dX12_sets_134 : decode cX12_sets 134 = .ok (.bipush 7, 2) := dX12_sets_119g.2.2.2.2.2.2.2.2.1
theorem dX12_sets_136 : decode cX12_sets 136 = .ok (.iload_n 3, 1) := dX12_sets_119g.2.2.2.2.2.2.2.2.2
theorem dX12_sets_137g : (decode cX12_sets 137 = .ok (.iastore, 1)) ∧ (decode cX12_sets 138 = .ok (.aload_n 0, 1)) ∧ (decode cX12_sets 139 = .ok (.getfield 52, 3)) ∧ (decode cX12_sets 142 = .ok (.bipush 8, 2)) ∧ (decode cX12_sets 144 = .ok (.aload_n 0, 1)) ∧ (decode cX12_sets 145 = .ok (.getfield 20, 3)) ∧ (decode cX12_sets 148 = .ok (.sipush 307, 3)) ∧ (decode cX12_sets 151 = .ok (.iaload, 1)) ∧ (decode cX12_sets 152 = .ok (.iastore, 1)) ∧ (decode cX12_sets 153 = .ok (.return_, 1)) := by decide +kernel
theorem dX12_sets_137 : decode cX12_sets 137 = .ok (.iastore, 1) := dX12_sets_137g.1
theorem dX12_sets_138 : decode cX12_sets 138 = .ok (.aload_n 0, 1) := dX12_sets_137g.2.1
theorem dX12_sets_139 : decode cX12_sets 139 = .ok (.getfield 52, 3) := dX12_sets_137g.2.2.1
theorem dX12_sets_142 : decode cX12_sets 142 = .ok (.bipush 8, 2) := dX12_sets_137g.2.2.2.1
theorem dX12_sets_144 : decode cX12_sets 144 = .ok (.aload_n 0, 1) := dX12_sets_137g.2.2.2.2.1
theorem dX12_sets_145 : decode cX12_sets 145 = .ok (.getfield 20, 3) := dX12_sets_137g.2.2.2.2.2.1
theorem dX12_sets_148 : decode cX12_sets 148 = .ok (.sipush 307, 3) := dX12_sets_137g.2.2.2.2.2.2.1
theorem dX12_sets_151 : decode cX12_sets 151 = .ok (.iaload, 1) := dX12_sets_137g.2.2.2.2.2.2.2.1
theorem dX12_sets_152 : decode cX12_sets 152 = .ok (.iastore, 1) := dX12_sets_137g.2.2.2.2.2.2.2.2.1
theorem dX12_sets_153 : decode cX12_sets 153 = .ok (.return_, 1) := dX12_sets_137g.2.2.2.2.2.2.2.2.2
set_option maxHeartbeats 4000000 in
set_option maxRecDepth 100000 in
theorem c_X12_sets (l : Launch) (E : Nat → Nat) (D : va_G) (G : th_G) (h0 : Nat) (hG0 : G h0 = some (10, 0)) (x1 : Int32) (x2 : Int32) (x3 : Int32) (x4 : Int32) (hx4 : (0 : Int) ≤ x4.toInt ∧ x4.toInt ≤ 1) : Met l yX12_sets (tb (.code yX12_sets cX12_sets 7 none)) (rm 3) (va_Pc [.ref h0, .int x1, .int x2, .int x3, .int x4] (PX E D G (fun H => True))) (QXv E D G (fun H => True)) 0 0 (th_A G) := by
  refine Met.ofW (cc := cX12_sets) (maxL := 7) (ret := none) (by decide) rfl ?_
  intro p e s m args below meth c s₁ B hml hv
  obtain ⟨hav, ⟨hI, hN, hK⟩, hX⟩ := hv
  have hx := B.exec
  have hb := B.bytes
  have hr := B.returns
  have hts := atoms_spec (ws := tb (.code yX12_sets cX12_sets 7 none)) B.pre
  have hown : s.vm.findClass RX12 = some m.cls := findClass_of_methodNamed B.named
  have hlocks := B.notSynchronized
  have hS : va_S (th_A G) s.heap s.heap [] := va_S.rf
  have hl := lv_entry ([.ref h0, .int x1, .int x2, .int x3, .int x4]) (n := 7) (Nat.le_of_ble_eq_true rfl)
  rw [show entryFrame m args 7 = entryFrame m ([.ref h0, .int x1, .int x2, .int x3, .int x4] : List Value).toArray 7 from by rw [hav], lg_entry_eq]
  generalize (lg_sl ([.ref h0, .int x1, .int x2, .int x3, .int x4]) ++ List.replicate (7 - (lg_sl ([.ref h0, .int x1, .int x2, .int x3, .int x4])).length) Slot.unset).toArray = ls at hl ⊢
  have hl : lv_has ls 7 [(0, .ref h0), (1, .int x1), (2, .int x2), (3, .int x3), (4, .int x4)] := hl
  generalize hR : (headSpec (tb (.code yX12_sets cX12_sets 7 none)) (rm 3)).room = R
  have hR := hR.symm
  generalize hQ : MQ below (QXv E D G (fun H => True)) args s 0 0 (th_A G) = QF
  have hQ := hQ.symm
  have J_92 : ∀ (H : Heap) (locs : List Loc) (ls : Array Slot) (v7301 : Int32) (v7302 : Int32) (v7303 : Int32) (a7304 : Nat) , lv_has ls 7 [(6, .int v7301), (5, .int v7302), (0, .ref h0), (1, .int x1), (2, .int x2), (3, .int x3), (4, .int x4)] → ((0 : Int) ≤ v7301.toInt ∧ v7301.toInt ≤ 6) → ((0 : Int) ≤ x4.toInt ∧ x4.toInt ≤ 1) → ((0 : Int) ≤ v7303.toInt ∧ v7303.toInt ≤ 1) → G a7304 = some (0, 9) → th_I (okM E) D G [] H → va_S (th_A G) s.heap H locs → W p l e R s m args below meth c H locs 0 0 QF (F0 m 92 ls [.int v7303, .int 3, .ref a7304]) := by
    intro H locs ls v7301 v7302 v7303 a7304  hl k7305 k7306 k7307 ha7304 hI hS
    obtain ⟨F7308, hA7309⟩ := om_0 hI ha7304 List.not_mem_nil
    refine th_iast hx hb hK hA7309 0 rfl hS ⟨_, ha7304⟩ (iv_in (X := (3)) (by decide) (by omega) (by omega)) dX12_sets_92 (fun H locs hA7310 oq hS => ?_)
    have hI := th_I.put hI ha7304 hA7310 ok_m0 oq
    refine lv_aload_n hx hb dX12_sets_93 rfl (lv_at hl 2 rfl) ?_
    refine gmA hx hb hts inT12 hown hK hI List.not_mem_nil hG0 22 (by decide) (hts _ (tb_c wd_1255)) rfl rfl dX12_sets_94 (fun a7311 hq7312 hf7313 => ?_)
    refine lv_iconst (v := 4) hx hb dX12_sets_97 (by decide) ?_
    refine lv_aload_n hx hb dX12_sets_98 rfl (lv_at hl 2 rfl) ?_
    refine lv_iload_n hx hb dX12_sets_99 rfl (lv_at hl 3 rfl) ?_
    refine lv_iload_n hx hb dX12_sets_100 rfl (lv_at hl 4 rfl) ?_
    refine lv_iload hx hb dX12_sets_101 (lv_at hl 6 rfl) ?_
    refine mr_i (As := [.int x1, .int x2, .int x4]) (rest := [.int 4, .ref a7311]) (n := 3) (d := 2) ⟨hx, hb, hml, hown, hts⟩ (c_X12_pumpedAt l E D G H h0 hG0 x1 x2 x4 ⟨by omega, by omega⟩) wd_1467 wd_1469 wp_46 wd_13 wd_1470 (by decide +kernel) ⟨by rw [hR]; exact Nat.le_of_ble_eq_true rfl, by rw [hR]; exact Nat.le_of_ble_eq_true rfl⟩ hI hN hK hS hG0 rfl hl.1 rfl (Nat.le_of_ble_eq_true rfl) dX12_sets_103 ⟨Nat.zero_le _, Nat.zero_le _⟩ (fun r7314 locs hp hS => ?_)
    obtain ⟨F7315, hA7316⟩ := om_0 hI hq7312 List.not_mem_nil
    refine th_iast hx hb hK hA7316 0 rfl hS ⟨_, hq7312⟩ (iv_in (X := (4)) (by decide) (by omega) (by omega)) dX12_sets_106 (fun H locs hA7317 oq hS => ?_)
    have hI := th_I.put hI hq7312 hA7317 ok_m0 oq
    have hf7313 := fr.arr hG0 hq7312 (by decide) oq hf7313
    have e7318 : r7314 = (upd F7315 (4 : Int32).toNatClampNeg r7314) (4 : Int32).toNatClampNeg := rd_us
    refine lv_aload_n hx hb dX12_sets_107 rfl (lv_at hl 2 rfl) ?_
    refine gmA hx hb hts inT12 hown hK hI List.not_mem_nil hG0 22 (by decide) (hts _ (tb_c wd_1255)) rfl rfl dX12_sets_108 (fun a7319 hq7320 hf7321 => ?_)
    obtain rfl := fr.uniq (by decide) hf7313 hf7321
    refine lv_iconst (v := 5) hx hb dX12_sets_111 (by decide) ?_
    refine lv_iload hx hb dX12_sets_112 (lv_at hl 1 rfl) ?_
    refine th_iast hx hb hK hA7317 0 rfl hS ⟨_, hq7312⟩ (iv_in (X := (5)) (by decide) (by omega) (by omega)) dX12_sets_114 (fun H locs hA7322 oq hS => ?_)
    have hI := th_I.put hI hq7312 hA7322 ok_m0 oq
    have hf7313 := fr.arr hG0 hq7312 (by decide) oq hf7313
    have e7323 := rd_un (i := 4) (j := 5) (v := v7302) e7318 (X := (4)) (Y := (5)) (by decide) (by decide) (by omega) (by omega) (by omega)
    have e7324 : v7302 = (upd (upd F7315 (4 : Int32).toNatClampNeg r7314) (5 : Int32).toNatClampNeg v7302) (5 : Int32).toNatClampNeg := rd_us
    refine lv_aload_n hx hb dX12_sets_115 rfl (lv_at hl 2 rfl) ?_
    refine gmA hx hb hts inT12 hown hK hI List.not_mem_nil hG0 22 (by decide) (hts _ (tb_c wd_1255)) rfl rfl dX12_sets_116 (fun a7325 hq7326 hf7327 => ?_)
    obtain rfl := fr.uniq (by decide) hf7313 hf7327
    refine lv_bipush (v := 6) hx hb dX12_sets_119 (by decide) ?_
    refine lv_aload_n hx hb dX12_sets_121 rfl (lv_at hl 2 rfl) ?_
    refine gmA hx hb hts inT12 hown hK hI List.not_mem_nil hG0 3 (by decide) (hts _ (tb_c wd_1236)) rfl rfl dX12_sets_122 (fun a7328 hq7329 hf7330 => ?_)
    refine lv_sipush (v := 306) hx hb dX12_sets_125 (by decide) ?_
    obtain ⟨F7331, hA7332, hP7333⟩ := om_1 hI hq7329 List.not_mem_nil
    refine th_iald hx hb hK hA7332 0 rfl (iv_in (X := (306)) (by decide) (by omega) (by omega)) dX12_sets_128 (fun v7334 e7335 => ?_)
    refine th_iast hx hb hK hA7322 0 rfl hS ⟨_, hq7312⟩ (iv_in (X := (6)) (by decide) (by omega) (by omega)) dX12_sets_129 (fun H locs hA7336 oq hS => ?_)
    have hI := th_I.put hI hq7312 hA7336 ok_m0 oq
    have hf7313 := fr.arr hG0 hq7312 (by decide) oq hf7313
    have hf7330 := fr.arr hG0 hq7312 (by decide) oq hf7330
    have hA7332 := va_at.kept hA7332 (oq _ (m_ne hq7329 hq7312 (by first | decide | (dsimp only; decide))))
    have e7337 := rd_un (i := 4) (j := 6) (v := v7334) e7323 (X := (4)) (Y := (6)) (by decide) (by decide) (by omega) (by omega) (by omega)
    have e7338 := rd_un (i := 5) (j := 6) (v := v7334) e7324 (X := (5)) (Y := (6)) (by decide) (by decide) (by omega) (by omega) (by omega)
    have e7339 : v7334 = (upd (upd (upd F7315 (4 : Int32).toNatClampNeg r7314) (5 : Int32).toNatClampNeg v7302) (6 : Int32).toNatClampNeg v7334) (6 : Int32).toNatClampNeg := rd_us
    refine lv_aload_n hx hb dX12_sets_130 rfl (lv_at hl 2 rfl) ?_
    refine gmA hx hb hts inT12 hown hK hI List.not_mem_nil hG0 22 (by decide) (hts _ (tb_c wd_1255)) rfl rfl dX12_sets_131 (fun a7340 hq7341 hf7342 => ?_)
    obtain rfl := fr.uniq (by decide) hf7313 hf7342
    refine lv_bipush (v := 7) hx hb dX12_sets_134 (by decide) ?_
    refine lv_iload_n hx hb dX12_sets_136 rfl (lv_at hl 5 rfl) ?_
    refine th_iast hx hb hK hA7336 0 rfl hS ⟨_, hq7312⟩ (iv_in (X := (7)) (by decide) (by omega) (by omega)) dX12_sets_137 (fun H locs hA7343 oq hS => ?_)
    have hI := th_I.put hI hq7312 hA7343 ok_m0 oq
    have hf7313 := fr.arr hG0 hq7312 (by decide) oq hf7313
    have hf7330 := fr.arr hG0 hq7312 (by decide) oq hf7330
    have hA7332 := va_at.kept hA7332 (oq _ (m_ne hq7329 hq7312 (by first | decide | (dsimp only; decide))))
    have e7344 := rd_un (i := 4) (j := 7) (v := x3) e7337 (X := (4)) (Y := (7)) (by decide) (by decide) (by omega) (by omega) (by omega)
    have e7345 := rd_un (i := 5) (j := 7) (v := x3) e7338 (X := (5)) (Y := (7)) (by decide) (by decide) (by omega) (by omega) (by omega)
    have e7346 := rd_un (i := 6) (j := 7) (v := x3) e7339 (X := (6)) (Y := (7)) (by decide) (by decide) (by omega) (by omega) (by omega)
    have e7347 : x3 = (upd (upd (upd (upd F7315 (4 : Int32).toNatClampNeg r7314) (5 : Int32).toNatClampNeg v7302) (6 : Int32).toNatClampNeg v7334) (7 : Int32).toNatClampNeg x3) (7 : Int32).toNatClampNeg := rd_us
    refine lv_aload_n hx hb dX12_sets_138 rfl (lv_at hl 2 rfl) ?_
    refine gmA hx hb hts inT12 hown hK hI List.not_mem_nil hG0 22 (by decide) (hts _ (tb_c wd_1255)) rfl rfl dX12_sets_139 (fun a7348 hq7349 hf7350 => ?_)
    obtain rfl := fr.uniq (by decide) hf7313 hf7350
    refine lv_bipush (v := 8) hx hb dX12_sets_142 (by decide) ?_
    refine lv_aload_n hx hb dX12_sets_144 rfl (lv_at hl 2 rfl) ?_
    refine gmA hx hb hts inT12 hown hK hI List.not_mem_nil hG0 3 (by decide) (hts _ (tb_c wd_1236)) rfl rfl dX12_sets_145 (fun a7351 hq7352 hf7353 => ?_)
    obtain rfl := fr.uniq (by decide) hf7330 hf7353
    refine lv_sipush (v := 307) hx hb dX12_sets_148 (by decide) ?_
    refine th_iald hx hb hK hA7332 0 rfl (iv_in (X := (307)) (by decide) (by omega) (by omega)) dX12_sets_151 (fun v7354 e7355 => ?_)
    refine th_iast hx hb hK hA7343 0 rfl hS ⟨_, hq7312⟩ (iv_in (X := (8)) (by decide) (by omega) (by omega)) dX12_sets_152 (fun H locs hA7356 oq hS => ?_)
    have hI := th_I.put hI hq7312 hA7356 ok_m0 oq
    have hf7313 := fr.arr hG0 hq7312 (by decide) oq hf7313
    have hf7330 := fr.arr hG0 hq7312 (by decide) oq hf7330
    have hA7332 := va_at.kept hA7332 (oq _ (m_ne hq7329 hq7312 (by first | decide | (dsimp only; decide))))
    have e7357 := rd_un (i := 4) (j := 8) (v := v7354) e7344 (X := (4)) (Y := (8)) (by decide) (by decide) (by omega) (by omega) (by omega)
    have e7358 := rd_un (i := 5) (j := 8) (v := v7354) e7345 (X := (5)) (Y := (8)) (by decide) (by decide) (by omega) (by omega) (by omega)
    have e7359 := rd_un (i := 6) (j := 8) (v := v7354) e7346 (X := (6)) (Y := (8)) (by decide) (by decide) (by omega) (by omega) (by omega)
    have e7360 := rd_un (i := 7) (j := 8) (v := v7354) e7347 (X := (7)) (Y := (8)) (by decide) (by decide) (by omega) (by omega) (by omega)
    have e7361 : v7354 = (upd (upd (upd (upd (upd F7315 (4 : Int32).toNatClampNeg r7314) (5 : Int32).toNatClampNeg v7302) (6 : Int32).toNatClampNeg v7334) (7 : Int32).toNatClampNeg x3) (8 : Int32).toNatClampNeg v7354) (8 : Int32).toNatClampNeg := rd_us
    have hpost : True := trivial
    rw [hQ]
    exact W.vret hx hb hr (fun t ht hW => ⟨⟨(), rfl, trivial, ⟨by rw [ht]; exact hI, hN.warm hW, va_K.moved hW.alike hK⟩, by first | (rw [ht]; exact hpost) | exact hpost⟩, hS.F ht⟩) hS.2.2 dX12_sets_153
  have J_6 : ∀ (nn : Nat) (H : Heap) (locs : List Loc) (ls : Array Slot) (v7362 : Int32) (v7363 : Int32) , (Int.toNat (6 - v7362.toInt) = nn) → lv_has ls 7 [(6, .int v7362), (5, .int v7363), (0, .ref h0), (1, .int x1), (2, .int x2), (3, .int x3), (4, .int x4)] → ((0 : Int) ≤ v7362.toInt ∧ v7362.toInt ≤ 6) → ((0 : Int) ≤ x4.toInt ∧ x4.toInt ≤ 1) → th_I (okM E) D G [] H → va_S (th_A G) s.heap H locs → W p l e R s m args below meth c H locs 0 0 QF (F0 m 6 ls []) := by
    intro nn
    induction nn using Nat.strongRecOn with
    | ind nn ih_6 =>
      intro H locs ls v7362 v7363  hm hl k7364 k7365 hI hS
      have J_41 : ∀ (H : Heap) (locs : List Loc) (ls : Array Slot) (v7368 : Int32) (v7369 : Int32) , lv_has ls 7 [(6, .int v7362), (5, .int v7363), (0, .ref h0), (1, .int x1), (2, .int x2), (3, .int x3), (4, .int x4)] → ((0 : Int) ≤ v7362.toInt ∧ v7362.toInt ≤ 5) → ((0 : Int) ≤ v7368.toInt ∧ v7368.toInt ≤ 1) → th_I (okM E) D G [] H → va_S (th_A G) s.heap H locs → W p l e R s m args below meth c H locs 0 0 QF (F0 m 41 ls [.int v7368, .int v7369]) := by
        intro H locs ls v7368 v7369  hl k7370 k7371 hI hS
        refine lv_iadd hx hb dX12_sets_41 ?_
        refine lv_topi (fun v7372 e7373 => ?_)
        try have tv7372 : v7372.toInt = v7369.toInt + v7368.toInt := iv_add rfl rfl e7373 (by omega) (by omega)
        refine lv_istore (lv' := [(5, .int v7372), (6, .int v7362), (0, .ref h0), (1, .int x1), (2, .int x2), (3, .int x3), (4, .int x4)]) hx hb dX12_sets_42 hl (by decide) rfl (fun ls hl => ?_)
        obtain ⟨v7374, e7375⟩ : ∃ y : Int32, y = v7362 + (1) := ⟨_, rfl⟩
        have tv7374 : v7374.toInt = v7362.toInt + (1) := iv_add rfl (by decide) e7375 (by omega) (by omega)
        refine lv_iinc (v := v7374) (lv' := [(6, .int v7374), (5, .int v7372), (0, .ref h0), (1, .int x1), (2, .int x2), (3, .int x3), (4, .int x4)]) hx hb dX12_sets_44 hl (k := 1) rfl (by rw [e7375]; rfl) (by decide) rfl (fun ls hl => ?_)
        refine lv_goto (tgt := 6) hx hb dX12_sets_47 (by decide) ?_
        exact ih_6 _ (by omega) H locs ls v7374 v7372  rfl (lv_sub hl [0, 1, 2, 3, 4, 5, 6] rfl) ⟨by omega, by omega⟩ ⟨by omega, by omega⟩ hI hS
      refine lv_iload hx hb dX12_sets_6 (lv_at hl 0 rfl) ?_
      refine lv_aload_n hx hb dX12_sets_8 rfl (lv_at hl 2 rfl) ?_
      refine gmA hx hb hts inT12 hown hK hI List.not_mem_nil hG0 3 (by decide) (hts _ (tb_c wd_1236)) rfl rfl dX12_sets_9 (fun a7376 hq7377 hf7378 => ?_)
      refine lv_sipush (v := 309) hx hb dX12_sets_12 (by decide) ?_
      obtain ⟨F7379, hA7380, hP7381⟩ := om_1 hI hq7377 List.not_mem_nil
      refine th_iald hx hb hK hA7380 0 rfl (iv_in (X := (309)) (by decide) (by omega) (by omega)) dX12_sets_15 (fun v7382 e7383 => ?_)
      have k7384 := kg_m309 (kOk.get (i := 309) hP7381 e7383 (X := (309)) (by decide) (by omega) (by omega)) (by omega) (by omega) (by omega)
      refine lv_icmp_ge (tgt := 50) hx hb dX12_sets_16 (by decide) (fun c7385 => ?_) (fun c7385 => ?_)
      · skip
        have k7386 := iv_le (X := v7382.toInt) (Y := v7362.toInt) rfl rfl c7385
        refine lv_aload_n hx hb dX12_sets_50 rfl (lv_at hl 2 rfl) ?_
        refine gmA hx hb hts inT12 hown hK hI List.not_mem_nil hG0 22 (by decide) (hts _ (tb_c wd_1255)) rfl rfl dX12_sets_51 (fun a7387 hq7388 hf7389 => ?_)
        refine lv_iconst (v := 0) hx hb dX12_sets_54 (by decide) ?_
        refine lv_iload_n hx hb dX12_sets_55 rfl (lv_at hl 3 rfl) ?_
        obtain ⟨F7390, hA7391⟩ := om_0 hI hq7388 List.not_mem_nil
        refine th_iast hx hb hK hA7391 0 rfl hS ⟨_, hq7388⟩ (iv_in (X := (0)) (by decide) (by omega) (by omega)) dX12_sets_56 (fun H locs hA7392 oq hS => ?_)
        have hI := th_I.put hI hq7388 hA7392 ok_m0 oq
        have hf7378 := fr.arr hG0 hq7388 (by decide) oq hf7378
        have hf7389 := fr.arr hG0 hq7388 (by decide) oq hf7389
        have hA7380 := va_at.kept hA7380 (oq _ (m_ne hq7377 hq7388 (by first | decide | (dsimp only; decide))))
        have e7393 : x1 = (upd F7390 (0 : Int32).toNatClampNeg x1) (0 : Int32).toNatClampNeg := rd_us
        refine lv_aload_n hx hb dX12_sets_57 rfl (lv_at hl 2 rfl) ?_
        refine gmA hx hb hts inT12 hown hK hI List.not_mem_nil hG0 22 (by decide) (hts _ (tb_c wd_1255)) rfl rfl dX12_sets_58 (fun a7394 hq7395 hf7396 => ?_)
        obtain rfl := fr.uniq (by decide) hf7389 hf7396
        refine lv_iconst (v := 1) hx hb dX12_sets_61 (by decide) ?_
        refine lv_iload_n hx hb dX12_sets_62 rfl (lv_at hl 4 rfl) ?_
        refine lv_bipush (v := 24) hx hb dX12_sets_63 (by decide) ?_
        refine lv_irem hx hb dX12_sets_65 (by decide) ?_
        refine lv_topi (fun v7397 e7398 => ?_)
        refine th_iast hx hb hK hA7392 0 rfl hS ⟨_, hq7388⟩ (iv_in (X := (1)) (by decide) (by omega) (by omega)) dX12_sets_66 (fun H locs hA7399 oq hS => ?_)
        have hI := th_I.put hI hq7388 hA7399 ok_m0 oq
        have hf7378 := fr.arr hG0 hq7388 (by decide) oq hf7378
        have hf7389 := fr.arr hG0 hq7388 (by decide) oq hf7389
        have hA7380 := va_at.kept hA7380 (oq _ (m_ne hq7377 hq7388 (by first | decide | (dsimp only; decide))))
        have e7400 := rd_un (i := 0) (j := 1) (v := v7397) e7393 (X := (0)) (Y := (1)) (by decide) (by decide) (by omega) (by omega) (by omega)
        have e7401 : v7397 = (upd (upd F7390 (0 : Int32).toNatClampNeg x1) (1 : Int32).toNatClampNeg v7397) (1 : Int32).toNatClampNeg := rd_us
        refine lv_aload_n hx hb dX12_sets_67 rfl (lv_at hl 2 rfl) ?_
        refine gmA hx hb hts inT12 hown hK hI List.not_mem_nil hG0 22 (by decide) (hts _ (tb_c wd_1255)) rfl rfl dX12_sets_68 (fun a7402 hq7403 hf7404 => ?_)
        obtain rfl := fr.uniq (by decide) hf7389 hf7404
        refine lv_iconst (v := 2) hx hb dX12_sets_71 (by decide) ?_
        refine lv_iload_n hx hb dX12_sets_72 rfl (lv_at hl 4 rfl) ?_
        refine lv_bipush (v := 24) hx hb dX12_sets_73 (by decide) ?_
        refine lv_idiv hx hb dX12_sets_75 (by decide) ?_
        refine lv_topi (fun v7405 e7406 => ?_)
        refine th_iast hx hb hK hA7399 0 rfl hS ⟨_, hq7388⟩ (iv_in (X := (2)) (by decide) (by omega) (by omega)) dX12_sets_76 (fun H locs hA7407 oq hS => ?_)
        have hI := th_I.put hI hq7388 hA7407 ok_m0 oq
        have hf7378 := fr.arr hG0 hq7388 (by decide) oq hf7378
        have hf7389 := fr.arr hG0 hq7388 (by decide) oq hf7389
        have hA7380 := va_at.kept hA7380 (oq _ (m_ne hq7377 hq7388 (by first | decide | (dsimp only; decide))))
        have e7408 := rd_un (i := 0) (j := 2) (v := v7405) e7400 (X := (0)) (Y := (2)) (by decide) (by decide) (by omega) (by omega) (by omega)
        have e7409 := rd_un (i := 1) (j := 2) (v := v7405) e7401 (X := (1)) (Y := (2)) (by decide) (by decide) (by omega) (by omega) (by omega)
        have e7410 : v7405 = (upd (upd (upd F7390 (0 : Int32).toNatClampNeg x1) (1 : Int32).toNatClampNeg v7397) (2 : Int32).toNatClampNeg v7405) (2 : Int32).toNatClampNeg := rd_us
        refine lv_aload_n hx hb dX12_sets_77 rfl (lv_at hl 2 rfl) ?_
        refine gmA hx hb hts inT12 hown hK hI List.not_mem_nil hG0 22 (by decide) (hts _ (tb_c wd_1255)) rfl rfl dX12_sets_78 (fun a7411 hq7412 hf7413 => ?_)
        obtain rfl := fr.uniq (by decide) hf7389 hf7413
        refine lv_iconst (v := 3) hx hb dX12_sets_81 (by decide) ?_
        refine lv_iload hx hb dX12_sets_82 (lv_at hl 6 rfl) ?_
        refine lv_if_eq (tgt := 91) hx hb dX12_sets_84 (by decide) (fun c7414 => ?_) (fun c7414 => ?_)
        · skip
          have k7415 := iv_eq (X := x4.toInt) (Y := (0)) rfl (by decide) c7414
          refine lv_iconst (v := 0) hx hb dX12_sets_91 (by decide) ?_
          exact J_92 H locs ls v7362 v7363 0 a7387  (lv_sub hl [0, 1, 2, 3, 4, 5, 6] rfl) ⟨by omega, by omega⟩ ⟨by omega, by omega⟩ ⟨by decide, by decide⟩ hq7388 hI hS
        · skip
          have k7416 := iv_ne (X := x4.toInt) (Y := (0)) rfl (by decide) c7414
          refine lv_iconst (v := 1) hx hb dX12_sets_87 (by decide) ?_
          refine lv_goto (tgt := 92) hx hb dX12_sets_88 (by decide) ?_
          exact J_92 H locs ls v7362 v7363 1 a7387  (lv_sub hl [0, 1, 2, 3, 4, 5, 6] rfl) ⟨by omega, by omega⟩ ⟨by omega, by omega⟩ ⟨by decide, by decide⟩ hq7388 hI hS
      · skip
        have k7417 := iv_nle (X := v7382.toInt) (Y := v7362.toInt) rfl rfl c7385
        refine lv_iload hx hb dX12_sets_19 (lv_at hl 1 rfl) ?_
        refine lv_aload_n hx hb dX12_sets_21 rfl (lv_at hl 2 rfl) ?_
        refine gmA hx hb hts inT12 hown hK hI List.not_mem_nil hG0 3 (by decide) (hts _ (tb_c wd_1236)) rfl rfl dX12_sets_22 (fun a7418 hq7419 hf7420 => ?_)
        obtain rfl := fr.uniq (by decide) hf7378 hf7420
        refine lv_sipush (v := 130) hx hb dX12_sets_25 (by decide) ?_
        refine lv_iload hx hb dX12_sets_28 (lv_at hl 0 rfl) ?_
        refine lv_iadd hx hb dX12_sets_30 ?_
        refine lv_topi (fun v7421 e7422 => ?_)
        have tv7421 : v7421.toInt = (130) + v7362.toInt := iv_add (by decide) rfl e7422 (by omega) (by omega)
        refine th_iald hx hb hK hA7380 0 rfl (iv_in (X := v7421.toInt) rfl (by omega) (by omega)) dX12_sets_31 (fun v7423 e7424 => ?_)
        have k7425 := kg_mill (kOk.get (i := v7421) hP7381 e7424 (X := v7421.toInt) rfl (by omega) (by omega)) (by omega) (by omega) (by omega)
        refine lv_iload_n hx hb dX12_sets_32 rfl (lv_at hl 3 rfl) ?_
        have k7426 := iv_lo x1
        have k7427 := iv_hi x1
        refine lv_icmp_ne (tgt := 40) hx hb dX12_sets_33 (by decide) (fun c7428 => ?_) (fun c7428 => ?_)
        · skip
          have k7429 := iv_ne (X := v7423.toInt) (Y := x1.toInt) rfl rfl c7428
          refine lv_iconst (v := 0) hx hb dX12_sets_40 (by decide) ?_
          exact J_41 H locs ls 0 v7363  (lv_sub hl [0, 1, 2, 3, 4, 5, 6] rfl) ⟨by omega, by omega⟩ ⟨by decide, by decide⟩ hI hS
        · skip
          have k7430 := iv_eq (X := v7423.toInt) (Y := x1.toInt) rfl rfl c7428
          refine lv_iconst (v := 1) hx hb dX12_sets_36 (by decide) ?_
          refine lv_goto (tgt := 41) hx hb dX12_sets_37 (by decide) ?_
          exact J_41 H locs ls 1 v7363  (lv_sub hl [0, 1, 2, 3, 4, 5, 6] rfl) ⟨by omega, by omega⟩ ⟨by decide, by decide⟩ hI hS
  refine lv_iconst (v := 0) hx hb dX12_sets_0 (by decide) ?_
  refine lv_istore (lv' := [(5, .int 0), (0, .ref h0), (1, .int x1), (2, .int x2), (3, .int x3), (4, .int x4)]) hx hb dX12_sets_1 hl (by decide) rfl (fun ls hl => ?_)
  refine lv_iconst (v := 0) hx hb dX12_sets_3 (by decide) ?_
  refine lv_istore (lv' := [(6, .int 0), (5, .int 0), (0, .ref h0), (1, .int x1), (2, .int x2), (3, .int x3), (4, .int x4)]) hx hb dX12_sets_4 hl (by decide) rfl (fun ls hl => ?_)
  have zl : (0 : Int32).toInt = 0 := by decide
  exact J_6 _ s.heap [] ls 0 0  rfl (lv_sub hl [0, 1, 2, 3, 4, 5, 6] rfl) ⟨by decide, by decide⟩ ⟨by omega, by omega⟩ hI hS
theorem dX12_codeAt_0g : (decode cX12_codeAt 0 = .ok (.iload_n 1, 1)) ∧ (decode cX12_codeAt 1 = .ok (.aload_n 0, 1)) ∧ (decode cX12_codeAt 2 = .ok (.getfield 216, 3)) ∧ (decode cX12_codeAt 5 = .ok (.if_icmp .ge 16, 3)) ∧ (decode cX12_codeAt 8 = .ok (.aload_n 0, 1)) ∧ (decode cX12_codeAt 9 = .ok (.getfield 20, 3)) ∧ (decode cX12_codeAt 12 = .ok (.sipush 323, 3)) ∧ (decode cX12_codeAt 15 = .ok (.iload_n 1, 1)) ∧ (decode cX12_codeAt 16 = .ok (.iadd, 1)) ∧ (decode cX12_codeAt 17 = .ok (.iaload, 1)) := by decide +kernel
theorem dX12_codeAt_0 : decode cX12_codeAt 0 = .ok (.iload_n 1, 1) := dX12_codeAt_0g.1
theorem dX12_codeAt_1 : decode cX12_codeAt 1 = .ok (.aload_n 0, 1) := dX12_codeAt_0g.2.1
theorem dX12_codeAt_2 : decode cX12_codeAt 2 = .ok (.getfield 216, 3) := dX12_codeAt_0g.2.2.1
theorem dX12_codeAt_5 : decode cX12_codeAt 5 = .ok (.if_icmp .ge 16, 3) := dX12_codeAt_0g.2.2.2.1
theorem dX12_codeAt_8 : decode cX12_codeAt 8 = .ok (.aload_n 0, 1) := dX12_codeAt_0g.2.2.2.2.1
theorem dX12_codeAt_9 : decode cX12_codeAt 9 = .ok (.getfield 20, 3) := dX12_codeAt_0g.2.2.2.2.2.1
theorem dX12_codeAt_12 : decode cX12_codeAt 12 = .ok (.sipush 323, 3) := dX12_codeAt_0g.2.2.2.2.2.2.1
theorem dX12_codeAt_15 : decode cX12_codeAt 15 = .ok (.iload_n 1, 1) := dX12_codeAt_0g.2.2.2.2.2.2.2.1
theorem dX12_codeAt_16 : decode cX12_codeAt 16 = .ok (.iadd, 1) := dX12_codeAt_0g.2.2.2.2.2.2.2.2.1
theorem dX12_codeAt_17 : decode cX12_codeAt 17 = .ok (.iaload, 1) := dX12_codeAt_0g.2.2.2.2.2.2.2.2.2
theorem dX12_codeAt_18g : (decode cX12_codeAt 18 = .ok (.goto 4, 3)) ∧ (decode cX12_codeAt 21 = .ok (.iconst 0, 1)) ∧ (decode cX12_codeAt 22 = .ok (.ireturn, 1)) := by decide +kernel
theorem dX12_codeAt_18 : decode cX12_codeAt 18 = .ok (.goto 4, 3) := dX12_codeAt_18g.1
theorem dX12_codeAt_21 : decode cX12_codeAt 21 = .ok (.iconst 0, 1) := dX12_codeAt_18g.2.1
theorem dX12_codeAt_22 : decode cX12_codeAt 22 = .ok (.ireturn, 1) := dX12_codeAt_18g.2.2
set_option maxHeartbeats 4000000 in
set_option maxRecDepth 100000 in
theorem c_X12_codeAt (l : Launch) (E : Nat → Nat) (D : va_G) (G : th_G) (H0 : Heap) (h0 : Nat) (hG0 : G h0 = some (10, 0)) (x1 : Int32) (hx1 : (0 : Int) ≤ x1.toInt ∧ x1.toInt ≤ 2401) (ff : Nat → Int32) (tt pp j : Nat) (hE : EV E D G h0 ff tt pp H0) (hj : x1.toInt = 400 * (tt : Int) + (j : Int)) : Met l yX12_codeAt (tb (.code yX12_codeAt cX12_codeAt 2 (some .int))) (rm 0) (va_Pc [.ref h0, .int x1] (PR E D G H0)) (QS H0 (fun r => (r : Int32).toInt = kC ff tt j)) 0 0 (fun _ => False) := by
  refine Met.ofW (cc := cX12_codeAt) (maxL := 2) (ret := (some .int)) (by decide) rfl ?_
  intro p e s m args below meth c s₁ B hml hv
  obtain ⟨hav, rfl, hI, hN, hK⟩ := hv
  have hx := B.exec
  have hb := B.bytes
  have hr := B.returns
  have hts := atoms_spec (ws := tb (.code yX12_codeAt cX12_codeAt 2 (some .int))) B.pre
  have hown : s.vm.findClass RX12 = some m.cls := findClass_of_methodNamed B.named
  have hlocks := B.notSynchronized
  have hS : va_S (fun _ => False) s.heap s.heap [] := va_S.rf
  have hl := lv_entry ([.ref h0, .int x1]) (n := 2) (Nat.le_of_ble_eq_true rfl)
  rw [show entryFrame m args 2 = entryFrame m ([.ref h0, .int x1] : List Value).toArray 2 from by rw [hav], lg_entry_eq]
  generalize (lg_sl ([.ref h0, .int x1]) ++ List.replicate (2 - (lg_sl ([.ref h0, .int x1])).length) Slot.unset).toArray = ls at hl ⊢
  have hl : lv_has ls 2 [(0, .ref h0), (1, .int x1)] := hl
  generalize hR : (headSpec (tb (.code yX12_codeAt cX12_codeAt 2 (some .int))) (rm 0)).room = R
  have hR := hR.symm
  generalize hQ : MQ below (QS s.heap (fun r => (r : Int32).toInt = kC ff tt j)) args s 0 0 (fun _ => False) = QF
  have hQ := hQ.symm
  obtain ⟨hkf, ht, hT, k9, ⟨qq1, hf2, hq3, hA4⟩, ⟨w5, hg6, k10⟩, ⟨w7, hg8, k11⟩⟩ := hE
  refine lv_iload_n hx hb dX12_codeAt_0 rfl (lv_at hl 1 rfl) ?_
  refine lv_aload_n hx hb dX12_codeAt_1 rfl (lv_at hl 0 rfl) ?_
  refine gmI hx hb hts inT12 hown hK hI List.not_mem_nil hG0 20 (by decide) (hts _ (tb_c wd_1253)) rfl rfl dX12_codeAt_2 (fun w12 hg13 k14 k15 => ?_)
  obtain rfl := gf.uniq (by decide) hg8 hg13
  refine lv_icmp_ge (tgt := 21) hx hb dX12_codeAt_5 (by decide) (fun c16 => ?_) (fun c16 => ?_)
  · skip
    have k17 := iv_le (X := w7.toInt) (Y := x1.toInt) rfl rfl c16
    refine lv_iconst (v := 0) hx hb dX12_codeAt_21 (by decide) ?_
    have hpost : (0 : Int32).toInt = kC ff tt j := by rw [kC_end _ (by omega)]; decide
    rw [hQ]
    exact W.iret (v := 0) hx hb hr (fun t ht hW => ⟨⟨0, (), rfl, hpost, ht⟩, hS.F ht⟩) hS.2.2 dX12_codeAt_22
  · skip
    have k18 := iv_nle (X := w7.toInt) (Y := x1.toInt) rfl rfl c16
    refine lv_aload_n hx hb dX12_codeAt_8 rfl (lv_at hl 0 rfl) ?_
    refine gmA hx hb hts inT12 hown hK hI List.not_mem_nil hG0 3 (by decide) (hts _ (tb_c wd_1236)) rfl rfl dX12_codeAt_9 (fun a19 hq20 hf21 => ?_)
    obtain rfl := fr.uniq (by decide) hf2 hf21
    refine lv_sipush (v := 323) hx hb dX12_codeAt_12 (by decide) ?_
    refine lv_iload_n hx hb dX12_codeAt_15 rfl (lv_at hl 1 rfl) ?_
    refine lv_iadd hx hb dX12_codeAt_16 ?_
    refine lv_topi (fun v22 e23 => ?_)
    have tv22 : v22.toInt = (323) + x1.toInt := iv_add (by decide) rfl e23 (by omega) (by omega)
    refine th_iald hx hb hK hA4 0 rfl (iv_in (X := v22.toInt) rfl (by omega) (by omega)) dX12_codeAt_17 (fun v24 e25 => ?_)
    refine lv_goto (tgt := 22) hx hb dX12_codeAt_18 (by decide) ?_
    have hpost : (v24 : Int32).toInt = kC ff tt j := kC_at e25 (by omega) (by omega)
    rw [hQ]
    exact W.iret (v := v24) hx hb hr (fun t ht hW => ⟨⟨v24, (), rfl, hpost, ht⟩, hS.F ht⟩) hS.2.2 dX12_codeAt_22
theorem dX12_passes0_0g : (decode cX12_passes0 0 = .ok (.aload_n 0, 1)) ∧ (decode cX12_passes0 1 = .ok (.aload_n 0, 1)) ∧ (decode cX12_passes0 2 = .ok (.getfield 219, 3)) ∧ (decode cX12_passes0 5 = .ok (.invokevirtual 222, 3)) ∧ (decode cX12_passes0 8 = .ok (.iload_n 1, 1)) ∧ (decode cX12_passes0 9 = .ok (.if_icmp .ne 7, 3)) ∧ (decode cX12_passes0 12 = .ok (.iconst 1, 1)) ∧ (decode cX12_passes0 13 = .ok (.goto 4, 3)) ∧ (decode cX12_passes0 16 = .ok (.iconst 0, 1)) ∧ (decode cX12_passes0 17 = .ok (.istore_n 2, 1)) := by decide +kernel
theorem dX12_passes0_0 : decode cX12_passes0 0 = .ok (.aload_n 0, 1) := dX12_passes0_0g.1
theorem dX12_passes0_1 : decode cX12_passes0 1 = .ok (.aload_n 0, 1) := dX12_passes0_0g.2.1
theorem dX12_passes0_2 : decode cX12_passes0 2 = .ok (.getfield 219, 3) := dX12_passes0_0g.2.2.1
theorem dX12_passes0_5 : decode cX12_passes0 5 = .ok (.invokevirtual 222, 3) := dX12_passes0_0g.2.2.2.1
theorem dX12_passes0_8 : decode cX12_passes0 8 = .ok (.iload_n 1, 1) := dX12_passes0_0g.2.2.2.2.1
theorem dX12_passes0_9 : decode cX12_passes0 9 = .ok (.if_icmp .ne 7, 3) := dX12_passes0_0g.2.2.2.2.2.1
theorem dX12_passes0_12 : decode cX12_passes0 12 = .ok (.iconst 1, 1) := dX12_passes0_0g.2.2.2.2.2.2.1
theorem dX12_passes0_13 : decode cX12_passes0 13 = .ok (.goto 4, 3) := dX12_passes0_0g.2.2.2.2.2.2.2.1
theorem dX12_passes0_16 : decode cX12_passes0 16 = .ok (.iconst 0, 1) := dX12_passes0_0g.2.2.2.2.2.2.2.2.1
theorem dX12_passes0_17 : decode cX12_passes0 17 = .ok (.istore_n 2, 1) := dX12_passes0_0g.2.2.2.2.2.2.2.2.2
theorem dX12_passes0_18g : (decode cX12_passes0 18 = .ok (.iload_n 2, 1)) ∧ (decode cX12_passes0 19 = .ok (.ifCond .eq 13, 3)) ∧ (decode cX12_passes0 22 = .ok (.aload_n 0, 1)) ∧ (decode cX12_passes0 23 = .ok (.dup, 1)) ∧ (decode cX12_passes0 24 = .ok (.getfield 219, 3)) ∧ (decode cX12_passes0 27 = .ok (.iconst 1, 1)) ∧ (decode cX12_passes0 28 = .ok (.iadd, 1)) ∧ (decode cX12_passes0 29 = .ok (.putfield 219, 3)) ∧ (decode cX12_passes0 32 = .ok (.iload_n 2, 1)) ∧ (decode cX12_passes0 33 = .ok (.ireturn, 1)) := by decide +kernel
theorem dX12_passes0_18 : decode cX12_passes0 18 = .ok (.iload_n 2, 1) := dX12_passes0_18g.1
theorem dX12_passes0_19 : decode cX12_passes0 19 = .ok (.ifCond .eq 13, 3) := dX12_passes0_18g.2.1
theorem dX12_passes0_22 : decode cX12_passes0 22 = .ok (.aload_n 0, 1) := dX12_passes0_18g.2.2.1
theorem dX12_passes0_23 : decode cX12_passes0 23 = .ok (.dup, 1) := dX12_passes0_18g.2.2.2.1
theorem dX12_passes0_24 : decode cX12_passes0 24 = .ok (.getfield 219, 3) := dX12_passes0_18g.2.2.2.2.1
theorem dX12_passes0_27 : decode cX12_passes0 27 = .ok (.iconst 1, 1) := dX12_passes0_18g.2.2.2.2.2.1
theorem dX12_passes0_28 : decode cX12_passes0 28 = .ok (.iadd, 1) := dX12_passes0_18g.2.2.2.2.2.2.1
theorem dX12_passes0_29 : decode cX12_passes0 29 = .ok (.putfield 219, 3) := dX12_passes0_18g.2.2.2.2.2.2.2.1
theorem dX12_passes0_32 : decode cX12_passes0 32 = .ok (.iload_n 2, 1) := dX12_passes0_18g.2.2.2.2.2.2.2.2.1
theorem dX12_passes0_33 : decode cX12_passes0 33 = .ok (.ireturn, 1) := dX12_passes0_18g.2.2.2.2.2.2.2.2.2
set_option maxHeartbeats 4000000 in
set_option maxRecDepth 100000 in
theorem c_X12_passes0 (l : Launch) (E : Nat → Nat) (D : va_G) (G : th_G) (h0 : Nat) (hG0 : G h0 = some (10, 0)) (x1 : Int32) (ff : Nat → Int32) (tt pp : Nat) (hp4 : pp ≤ 400) : Met l yX12_passes0 (tb (.code yX12_passes0 cX12_passes0 3 (some .boolean))) (rm 1) (va_Pc [.ref h0, .int x1] (PX E D G (fun H => EV E D G h0 ff tt pp H))) (QXi E D G (fun r H => ((r : Int32) = 1 ∧ (kC ff tt pp = x1.toInt ∧ EV E D G h0 ff tt (pp + 1) H)) ∨ ((r : Int32) = 0 ∧ (kC ff tt pp ≠ x1.toInt ∧ EV E D G h0 ff tt pp H)))) 0 0 (th_A G) := by
  refine Met.ofW (cc := cX12_passes0) (maxL := 3) (ret := (some .boolean)) (by decide) rfl ?_
  intro p e s m args below meth c s₁ B hml hv
  obtain ⟨hav, ⟨hI, hN, hK⟩, hX⟩ := hv
  have hx := B.exec
  have hb := B.bytes
  have hr := B.returns
  have hts := atoms_spec (ws := tb (.code yX12_passes0 cX12_passes0 3 (some .boolean))) B.pre
  have hown : s.vm.findClass RX12 = some m.cls := findClass_of_methodNamed B.named
  have hlocks := B.notSynchronized
  have hS : va_S (th_A G) s.heap s.heap [] := va_S.rf
  have hl := lv_entry ([.ref h0, .int x1]) (n := 3) (Nat.le_of_ble_eq_true rfl)
  rw [show entryFrame m args 3 = entryFrame m ([.ref h0, .int x1] : List Value).toArray 3 from by rw [hav], lg_entry_eq]
  generalize (lg_sl ([.ref h0, .int x1]) ++ List.replicate (3 - (lg_sl ([.ref h0, .int x1])).length) Slot.unset).toArray = ls at hl ⊢
  have hl : lv_has ls 3 [(0, .ref h0), (1, .int x1)] := hl
  generalize hR : (headSpec (tb (.code yX12_passes0 cX12_passes0 3 (some .boolean))) (rm 1)).room = R
  have hR := hR.symm
  generalize hQ : MQ below (QXi E D G (fun r H => ((r : Int32) = 1 ∧ (kC ff tt pp = x1.toInt ∧ EV E D G h0 ff tt (pp + 1) H)) ∨ ((r : Int32) = 0 ∧ (kC ff tt pp ≠ x1.toInt ∧ EV E D G h0 ff tt pp H)))) args s 0 0 (th_A G) = QF
  have hQ := hQ.symm
  obtain ⟨hkf, ht, hT, k9, ⟨qq1, hf2, hq3, hA4⟩, ⟨w5, hg6, k10⟩, ⟨w7, hg8, k11⟩⟩ := hX
  refine lv_aload_n hx hb dX12_passes0_0 rfl (lv_at hl 0 rfl) ?_
  refine lv_aload_n hx hb dX12_passes0_1 rfl (lv_at hl 0 rfl) ?_
  refine gmI hx hb hts inT12 hown hK hI List.not_mem_nil hG0 19 (by decide) (hts _ (tb_c wd_1252)) rfl rfl dX12_passes0_2 (fun w12 hg13 k14 k15 => ?_)
  obtain rfl := gf.uniq (by decide) hg6 hg13
  refine mr_i (As := [.int w5]) (rest := []) (n := 1) (d := 0) ⟨hx, hb, hml, hown, hts⟩ (c_X12_codeAt l E D G s.heap h0 hG0 w5 ⟨by omega, by omega⟩ ff tt pp pp ⟨hkf, ht, hT, by omega, ⟨qq1, hf2, hq3, hA4⟩, ⟨w5, hg6, by omega⟩, ⟨w7, hg8, by omega⟩⟩ (by omega)) wd_1479 wd_1481 wp_49 wd_13 wd_1482 (by decide +kernel) ⟨by rw [hR]; exact Nat.le_of_ble_eq_true rfl, by rw [hR]; exact Nat.le_of_ble_eq_true rfl⟩ hI hN hK hS hG0 rfl hl.1 rfl (Nat.le_of_ble_eq_true rfl) dX12_passes0_5 ⟨Nat.zero_le _, Nat.zero_le _⟩ (fun r16 locs hp hS => ?_)
  have hc17 := hp
  refine lv_iload_n hx hb dX12_passes0_8 rfl (lv_at hl 1 rfl) ?_
  have k18 := iv_lo r16
  have k19 := iv_hi r16
  have k20 := iv_lo x1
  have k21 := iv_hi x1
  refine lv_icmp_ne (tgt := 16) hx hb dX12_passes0_9 (by decide) (fun c22 => ?_) (fun c22 => ?_)
  · skip
    have k23 := iv_ne (X := r16.toInt) (Y := x1.toInt) rfl rfl c22
    refine lv_iconst (v := 0) hx hb dX12_passes0_16 (by decide) ?_
    refine lv_istore_n (lv' := [(2, .int 0), (0, .ref h0), (1, .int x1)]) hx hb dX12_passes0_17 rfl hl (by decide) rfl (fun ls hl => ?_)
    refine lv_iload_n hx hb dX12_passes0_18 rfl (lv_at hl 0 rfl) ?_
    refine lv_if_eq (tgt := 32) hx hb dX12_passes0_19 (by decide) (fun _ => ?_) (fun c => absurd c (by decide))
    refine lv_iload_n hx hb dX12_passes0_32 rfl (lv_at hl 0 rfl) ?_
    have hpost : ((0 : Int32) = 1 ∧ (kC ff tt pp = x1.toInt ∧ EV E D G h0 ff tt (pp + 1) s.heap)) ∨ ((0 : Int32) = 0 ∧ (kC ff tt pp ≠ x1.toInt ∧ EV E D G h0 ff tt pp s.heap)) := Or.inr ⟨rfl, by omega, ⟨hkf, ht, hT, by omega, ⟨qq1, hf2, hq3, hA4⟩, ⟨w5, hg6, by omega⟩, ⟨w7, hg8, by omega⟩⟩⟩
    rw [hQ]
    exact W.zret (v := 0) hx hb hr (by decide) (fun t ht hW => ⟨⟨0, 0, rfl, rfl, ⟨by rw [ht]; exact hI, hN.warm hW, va_K.moved hW.alike hK⟩, by first | (rw [ht]; exact hpost) | exact hpost⟩, hS.F ht⟩) hS.2.2 dX12_passes0_33
  · skip
    have k24 := iv_eq (X := r16.toInt) (Y := x1.toInt) rfl rfl c22
    refine lv_iconst (v := 1) hx hb dX12_passes0_12 (by decide) ?_
    refine lv_goto (tgt := 17) hx hb dX12_passes0_13 (by decide) ?_
    refine lv_istore_n (lv' := [(2, .int 1), (0, .ref h0), (1, .int x1)]) hx hb dX12_passes0_17 rfl hl (by decide) rfl (fun ls hl => ?_)
    refine lv_iload_n hx hb dX12_passes0_18 rfl (lv_at hl 0 rfl) ?_
    refine lv_if_eq (tgt := 32) hx hb dX12_passes0_19 (by decide) (fun c => absurd c (by decide)) (fun _ => ?_)
    refine lv_aload_n hx hb dX12_passes0_22 rfl (lv_at hl 1 rfl) ?_
    refine lv_dup hx hb dX12_passes0_23 rfl ?_
    refine gmI hx hb hts inT12 hown hK hI List.not_mem_nil hG0 19 (by decide) (hts _ (tb_c wd_1252)) rfl rfl dX12_passes0_24 (fun w25 hg26 k27 k28 => ?_)
    obtain rfl := gf.uniq (by decide) hg6 hg26
    refine lv_iconst (v := 1) hx hb dX12_passes0_27 (by decide) ?_
    refine lv_iadd hx hb dX12_passes0_28 ?_
    refine lv_topi (fun v29 e30 => ?_)
    have tv29 : v29.toInt = w5.toInt + (1) := iv_add rfl (by decide) e30 (by omega) (by omega)
    refine pmI (ty := .int) hx hb hts inT12 hown hK hI List.not_mem_nil hG0 hS ⟨_, hG0⟩ 19 (by decide) (hts _ (tb_c wd_1252)) rfl rfl (by decide +kernel) rfl rfl rfl (by omega) (by omega) dX12_passes0_29 (fun H locs hI hgP hS => ?_)
    have hg8 := hgP.2.2.1 20 _ (by decide) (by decide) hg8
    have hg31 := hgP.2.1
    have hf2 := hgP.2.2.2 3 _ (by decide) (by decide) hf2
    have hA4 := va_at.kept hA4 (hgP.1 _ (m_ne hq3 hG0 (by first | decide | (dsimp only; decide))))
    refine lv_iload_n hx hb dX12_passes0_32 rfl (lv_at hl 0 rfl) ?_
    have hpost : ((1 : Int32) = 1 ∧ (kC ff tt pp = x1.toInt ∧ EV E D G h0 ff tt (pp + 1) H)) ∨ ((1 : Int32) = 0 ∧ (kC ff tt pp ≠ x1.toInt ∧ EV E D G h0 ff tt pp H)) := Or.inl ⟨rfl, by omega, ⟨hkf, ht, hT, by omega, ⟨qq1, hf2, hq3, hA4⟩, ⟨v29, hg31, by omega⟩, ⟨w7, hg8, by omega⟩⟩⟩
    rw [hQ]
    exact W.zret (v := 1) hx hb hr (by decide) (fun t ht hW => ⟨⟨1, 1, rfl, rfl, ⟨by rw [ht]; exact hI, hN.warm hW, va_K.moved hW.alike hK⟩, by first | (rw [ht]; exact hpost) | exact hpost⟩, hS.F ht⟩) hS.2.2 dX12_passes0_33
theorem dX12_bounded_0g : (decode cX12_bounded 0 = .ok (.iload_n 3, 1)) ∧ (decode cX12_bounded 1 = .ok (.ifCond .eq 24, 3)) ∧ (decode cX12_bounded 4 = .ok (.lload_n 1, 1)) ∧ (decode cX12_bounded 5 = .ok (.ldc2_w 225, 3)) ∧ (decode cX12_bounded 8 = .ok (.lcmp, 1)) ∧ (decode cX12_bounded 9 = .ok (.ifCond .gt 11, 3)) ∧ (decode cX12_bounded 12 = .ok (.lload_n 1, 1)) ∧ (decode cX12_bounded 13 = .ok (.ldc2_w 227, 3)) ∧ (decode cX12_bounded 16 = .ok (.lcmp, 1)) ∧ (decode cX12_bounded 17 = .ok (.ifCond .ge 8, 3)) := by decide +kernel
theorem dX12_bounded_0 : decode cX12_bounded 0 = .ok (.iload_n 3, 1) := dX12_bounded_0g.1
theorem dX12_bounded_1 : decode cX12_bounded 1 = .ok (.ifCond .eq 24, 3) := dX12_bounded_0g.2.1
theorem dX12_bounded_4 : decode cX12_bounded 4 = .ok (.lload_n 1, 1) := dX12_bounded_0g.2.2.1
theorem dX12_bounded_5 : decode cX12_bounded 5 = .ok (.ldc2_w 225, 3) := dX12_bounded_0g.2.2.2.1
theorem dX12_bounded_8 : decode cX12_bounded 8 = .ok (.lcmp, 1) := dX12_bounded_0g.2.2.2.2.1
theorem dX12_bounded_9 : decode cX12_bounded 9 = .ok (.ifCond .gt 11, 3) := dX12_bounded_0g.2.2.2.2.2.1
theorem dX12_bounded_12 : decode cX12_bounded 12 = .ok (.lload_n 1, 1) := dX12_bounded_0g.2.2.2.2.2.2.1
theorem dX12_bounded_13 : decode cX12_bounded 13 = .ok (.ldc2_w 227, 3) := dX12_bounded_0g.2.2.2.2.2.2.2.1
theorem dX12_bounded_16 : decode cX12_bounded 16 = .ok (.lcmp, 1) := dX12_bounded_0g.2.2.2.2.2.2.2.2.1
theorem dX12_bounded_17 : decode cX12_bounded 17 = .ok (.ifCond .ge 8, 3) := dX12_bounded_0g.2.2.2.2.2.2.2.2.2
theorem dX12_bounded_20g : (decode cX12_bounded 20 = .ok (.aload_n 0, 1)) ∧ (decode cX12_bounded 21 = .ok (.iconst 1, 1)) ∧ (decode cX12_bounded 22 = .ok (.putfield 229, 3)) ∧ (decode cX12_bounded 25 = .ok (.aload_n 0, 1)) ∧ (decode cX12_bounded 26 = .ok (.getfield 229, 3)) ∧ (decode cX12_bounded 29 = .ok (.ifCond .eq 7, 3)) ∧ (decode cX12_bounded 32 = .ok (.lconst 0, 1)) ∧ (decode cX12_bounded 33 = .ok (.goto 4, 3)) ∧ (decode cX12_bounded 36 = .ok (.lload_n 1, 1)) ∧ (decode cX12_bounded 37 = .ok (.lreturn, 1)) := by decide +kernel
theorem dX12_bounded_20 : decode cX12_bounded 20 = .ok (.aload_n 0, 1) := dX12_bounded_20g.1
theorem dX12_bounded_21 : decode cX12_bounded 21 = .ok (.iconst 1, 1) := dX12_bounded_20g.2.1
theorem dX12_bounded_22 : decode cX12_bounded 22 = .ok (.putfield 229, 3) := dX12_bounded_20g.2.2.1
theorem dX12_bounded_25 : decode cX12_bounded 25 = .ok (.aload_n 0, 1) := dX12_bounded_20g.2.2.2.1
theorem dX12_bounded_26 : decode cX12_bounded 26 = .ok (.getfield 229, 3) := dX12_bounded_20g.2.2.2.2.1
theorem dX12_bounded_29 : decode cX12_bounded 29 = .ok (.ifCond .eq 7, 3) := dX12_bounded_20g.2.2.2.2.2.1
theorem dX12_bounded_32 : decode cX12_bounded 32 = .ok (.lconst 0, 1) := dX12_bounded_20g.2.2.2.2.2.2.1
theorem dX12_bounded_33 : decode cX12_bounded 33 = .ok (.goto 4, 3) := dX12_bounded_20g.2.2.2.2.2.2.2.1
theorem dX12_bounded_36 : decode cX12_bounded 36 = .ok (.lload_n 1, 1) := dX12_bounded_20g.2.2.2.2.2.2.2.2.1
theorem dX12_bounded_37 : decode cX12_bounded 37 = .ok (.lreturn, 1) := dX12_bounded_20g.2.2.2.2.2.2.2.2.2
set_option maxHeartbeats 4000000 in
set_option maxRecDepth 100000 in
theorem c_X12_bounded (l : Launch) (E : Nat → Nat) (D : va_G) (G : th_G) (h0 : Nat) (hG0 : G h0 = some (10, 0)) (x1 : Int64) (x2 : Int32) (hx2 : (0 : Int) ≤ x2.toInt ∧ x2.toInt ≤ 1) (ff : Nat → Int32) (tt pp : Nat) : Met l yX12_bounded (tb (.code yX12_bounded cX12_bounded 4 (some .long))) (rm 0) (va_Pc [.ref h0, .long x1, .int x2] (PX E D G (fun H => EV E D G h0 ff tt pp H))) (QXl E D G (fun r H => EV E D G h0 ff tt pp H)) 0 0 (th_A G) := by
  refine Met.ofW (cc := cX12_bounded) (maxL := 4) (ret := (some .long)) (by decide) rfl ?_
  intro p e s m args below meth c s₁ B hml hv
  obtain ⟨hav, ⟨hI, hN, hK⟩, hX⟩ := hv
  have hx := B.exec
  have hb := B.bytes
  have hr := B.returns
  have hts := atoms_spec (ws := tb (.code yX12_bounded cX12_bounded 4 (some .long))) B.pre
  have hown : s.vm.findClass RX12 = some m.cls := findClass_of_methodNamed B.named
  have hlocks := B.notSynchronized
  have hS : va_S (th_A G) s.heap s.heap [] := va_S.rf
  have hl := lv_entry ([.ref h0, .long x1, .int x2]) (n := 4) (Nat.le_of_ble_eq_true rfl)
  rw [show entryFrame m args 4 = entryFrame m ([.ref h0, .long x1, .int x2] : List Value).toArray 4 from by rw [hav], lg_entry_eq]
  generalize (lg_sl ([.ref h0, .long x1, .int x2]) ++ List.replicate (4 - (lg_sl ([.ref h0, .long x1, .int x2])).length) Slot.unset).toArray = ls at hl ⊢
  have hl : lv_has ls 4 [(0, .ref h0), (1, .long x1), (3, .int x2)] := hl
  generalize hR : (headSpec (tb (.code yX12_bounded cX12_bounded 4 (some .long))) (rm 0)).room = R
  have hR := hR.symm
  generalize hQ : MQ below (QXl E D G (fun r H => EV E D G h0 ff tt pp H)) args s 0 0 (th_A G) = QF
  have hQ := hQ.symm
  obtain ⟨hkf, ht, hT, k9, ⟨qq1, hf2, hq3, hA4⟩, ⟨w5, hg6, k10⟩, ⟨w7, hg8, k11⟩⟩ := hX
  refine lv_iload_n hx hb dX12_bounded_0 rfl (lv_at hl 2 rfl) ?_
  refine lv_if_eq (tgt := 25) hx hb dX12_bounded_1 (by decide) (fun c12 => ?_) (fun c12 => ?_)
  · skip
    have k13 := iv_eq (X := x2.toInt) (Y := (0)) rfl (by decide) c12
    refine lv_aload_n hx hb dX12_bounded_25 rfl (lv_at hl 0 rfl) ?_
    refine gmI hx hb hts inT12 hown hK hI List.not_mem_nil hG0 21 (by decide) (hts _ (tb_c wd_1254)) rfl rfl dX12_bounded_26 (fun w14 hg15 k16 k17 => ?_)
    refine lv_if_eq (tgt := 36) hx hb dX12_bounded_29 (by decide) (fun c18 => ?_) (fun c18 => ?_)
    · skip
      have k19 := iv_eq (X := w14.toInt) (Y := (0)) rfl (by decide) c18
      refine lv_lload_n hx hb dX12_bounded_36 rfl (lv_at hl 1 rfl) ?_
      have hpost : EV E D G h0 ff tt pp s.heap := ⟨hkf, ht, hT, by omega, ⟨qq1, hf2, hq3, hA4⟩, ⟨w5, hg6, by omega⟩, ⟨w7, hg8, by omega⟩⟩
      rw [hQ]
      exact W.lret (v := x1) hx hb hr (fun t ht hW => ⟨⟨x1, x1, rfl, rfl, ⟨by rw [ht]; exact hI, hN.warm hW, va_K.moved hW.alike hK⟩, by first | (rw [ht]; exact hpost) | exact hpost⟩, hS.F ht⟩) hS.2.2 dX12_bounded_37
    · skip
      have k20 := iv_ne (X := w14.toInt) (Y := (0)) rfl (by decide) c18
      refine lv_lconst hx hb dX12_bounded_32 rfl ?_
      refine lv_topl (fun l21 e22 => ?_)
      refine lv_goto (tgt := 37) hx hb dX12_bounded_33 (by decide) ?_
      have hpost : EV E D G h0 ff tt pp s.heap := ⟨hkf, ht, hT, by omega, ⟨qq1, hf2, hq3, hA4⟩, ⟨w5, hg6, by omega⟩, ⟨w7, hg8, by omega⟩⟩
      rw [hQ]
      exact W.lret (v := l21) hx hb hr (fun t ht hW => ⟨⟨l21, l21, rfl, rfl, ⟨by rw [ht]; exact hI, hN.warm hW, va_K.moved hW.alike hK⟩, by first | (rw [ht]; exact hpost) | exact hpost⟩, hS.F ht⟩) hS.2.2 dX12_bounded_37
  · skip
    have k23 := iv_ne (X := x2.toInt) (Y := (0)) rfl (by decide) c12
    refine lv_lload_n hx hb dX12_bounded_4 rfl (lv_at hl 1 rfl) ?_
    refine lv_ldc2 hx hb hown (hts _ (tb_c wd_1506)) dX12_bounded_5 ?_
    refine lv_topl (fun l24 e25 => ?_)
    refine W.lcmp hx hb dX12_bounded_8 ?_
    refine lv_topi (fun v26 e27 => ?_)
    have tv26 := iv_cmp e27
    refine lv_if_gt (tgt := 20) hx hb dX12_bounded_9 (by decide) (fun c28 => ?_) (fun c28 => ?_)
    · skip
      have k29 := iv_lt (X := (0)) (Y := v26.toInt) (by decide) rfl c28
      refine lv_aload_n hx hb dX12_bounded_20 rfl (lv_at hl 0 rfl) ?_
      refine lv_iconst (v := 1) hx hb dX12_bounded_21 (by decide) ?_
      refine pmI (ty := .boolean) hx hb hts inT12 hown hK hI List.not_mem_nil hG0 hS ⟨_, hG0⟩ 21 (by decide) (hts _ (tb_c wd_1254)) rfl rfl (by decide +kernel) (by decide) rfl rfl (by decide) (by decide) dX12_bounded_22 (fun H locs hI hgP hS => ?_)
      have hg6 := hgP.2.2.1 19 _ (by decide) (by decide) hg6
      have hg8 := hgP.2.2.1 20 _ (by decide) (by decide) hg8
      have hg30 := hgP.2.1
      have hf2 := hgP.2.2.2 3 _ (by decide) (by decide) hf2
      have hA4 := va_at.kept hA4 (hgP.1 _ (m_ne hq3 hG0 (by first | decide | (dsimp only; decide))))
      refine lv_aload_n hx hb dX12_bounded_25 rfl (lv_at hl 0 rfl) ?_
      refine gmI hx hb hts inT12 hown hK hI List.not_mem_nil hG0 21 (by decide) (hts _ (tb_c wd_1254)) rfl rfl dX12_bounded_26 (fun w31 hg32 k33 k34 => ?_)
      obtain rfl := gf.uniq (by decide) hg30 hg32
      refine lv_if_eq (tgt := 36) hx hb dX12_bounded_29 (by decide) (fun c => absurd c (by decide)) (fun _ => ?_)
      refine lv_lconst hx hb dX12_bounded_32 rfl ?_
      refine lv_topl (fun l35 e36 => ?_)
      refine lv_goto (tgt := 37) hx hb dX12_bounded_33 (by decide) ?_
      have hpost : EV E D G h0 ff tt pp H := ⟨hkf, ht, hT, by omega, ⟨qq1, hf2, hq3, hA4⟩, ⟨w5, hg6, by omega⟩, ⟨w7, hg8, by omega⟩⟩
      rw [hQ]
      exact W.lret (v := l35) hx hb hr (fun t ht hW => ⟨⟨l35, l35, rfl, rfl, ⟨by rw [ht]; exact hI, hN.warm hW, va_K.moved hW.alike hK⟩, by first | (rw [ht]; exact hpost) | exact hpost⟩, hS.F ht⟩) hS.2.2 dX12_bounded_37
    · skip
      have k37 := iv_nlt (X := (0)) (Y := v26.toInt) (by decide) rfl c28
      refine lv_lload_n hx hb dX12_bounded_12 rfl (lv_at hl 1 rfl) ?_
      refine lv_ldc2 hx hb hown (hts _ (tb_c wd_1507)) dX12_bounded_13 ?_
      refine lv_topl (fun l38 e39 => ?_)
      refine W.lcmp hx hb dX12_bounded_16 ?_
      refine lv_topi (fun v40 e41 => ?_)
      have tv40 := iv_cmp e41
      refine lv_if_ge (tgt := 25) hx hb dX12_bounded_17 (by decide) (fun c42 => ?_) (fun c42 => ?_)
      · skip
        have k43 := iv_le (X := (0)) (Y := v40.toInt) (by decide) rfl c42
        refine lv_aload_n hx hb dX12_bounded_25 rfl (lv_at hl 0 rfl) ?_
        refine gmI hx hb hts inT12 hown hK hI List.not_mem_nil hG0 21 (by decide) (hts _ (tb_c wd_1254)) rfl rfl dX12_bounded_26 (fun w44 hg45 k46 k47 => ?_)
        refine lv_if_eq (tgt := 36) hx hb dX12_bounded_29 (by decide) (fun c48 => ?_) (fun c48 => ?_)
        · skip
          have k49 := iv_eq (X := w44.toInt) (Y := (0)) rfl (by decide) c48
          refine lv_lload_n hx hb dX12_bounded_36 rfl (lv_at hl 1 rfl) ?_
          have hpost : EV E D G h0 ff tt pp s.heap := ⟨hkf, ht, hT, by omega, ⟨qq1, hf2, hq3, hA4⟩, ⟨w5, hg6, by omega⟩, ⟨w7, hg8, by omega⟩⟩
          rw [hQ]
          exact W.lret (v := x1) hx hb hr (fun t ht hW => ⟨⟨x1, x1, rfl, rfl, ⟨by rw [ht]; exact hI, hN.warm hW, va_K.moved hW.alike hK⟩, by first | (rw [ht]; exact hpost) | exact hpost⟩, hS.F ht⟩) hS.2.2 dX12_bounded_37
        · skip
          have k50 := iv_ne (X := w44.toInt) (Y := (0)) rfl (by decide) c48
          refine lv_lconst hx hb dX12_bounded_32 rfl ?_
          refine lv_topl (fun l51 e52 => ?_)
          refine lv_goto (tgt := 37) hx hb dX12_bounded_33 (by decide) ?_
          have hpost : EV E D G h0 ff tt pp s.heap := ⟨hkf, ht, hT, by omega, ⟨qq1, hf2, hq3, hA4⟩, ⟨w5, hg6, by omega⟩, ⟨w7, hg8, by omega⟩⟩
          rw [hQ]
          exact W.lret (v := l51) hx hb hr (fun t ht hW => ⟨⟨l51, l51, rfl, rfl, ⟨by rw [ht]; exact hI, hN.warm hW, va_K.moved hW.alike hK⟩, by first | (rw [ht]; exact hpost) | exact hpost⟩, hS.F ht⟩) hS.2.2 dX12_bounded_37
      · skip
        have k53 := iv_nle (X := (0)) (Y := v40.toInt) (by decide) rfl c42
        refine lv_aload_n hx hb dX12_bounded_20 rfl (lv_at hl 0 rfl) ?_
        refine lv_iconst (v := 1) hx hb dX12_bounded_21 (by decide) ?_
        refine pmI (ty := .boolean) hx hb hts inT12 hown hK hI List.not_mem_nil hG0 hS ⟨_, hG0⟩ 21 (by decide) (hts _ (tb_c wd_1254)) rfl rfl (by decide +kernel) (by decide) rfl rfl (by decide) (by decide) dX12_bounded_22 (fun H locs hI hgP hS => ?_)
        have hg6 := hgP.2.2.1 19 _ (by decide) (by decide) hg6
        have hg8 := hgP.2.2.1 20 _ (by decide) (by decide) hg8
        have hg54 := hgP.2.1
        have hf2 := hgP.2.2.2 3 _ (by decide) (by decide) hf2
        have hA4 := va_at.kept hA4 (hgP.1 _ (m_ne hq3 hG0 (by first | decide | (dsimp only; decide))))
        refine lv_aload_n hx hb dX12_bounded_25 rfl (lv_at hl 0 rfl) ?_
        refine gmI hx hb hts inT12 hown hK hI List.not_mem_nil hG0 21 (by decide) (hts _ (tb_c wd_1254)) rfl rfl dX12_bounded_26 (fun w55 hg56 k57 k58 => ?_)
        obtain rfl := gf.uniq (by decide) hg54 hg56
        refine lv_if_eq (tgt := 36) hx hb dX12_bounded_29 (by decide) (fun c => absurd c (by decide)) (fun _ => ?_)
        refine lv_lconst hx hb dX12_bounded_32 rfl ?_
        refine lv_topl (fun l59 e60 => ?_)
        refine lv_goto (tgt := 37) hx hb dX12_bounded_33 (by decide) ?_
        have hpost : EV E D G h0 ff tt pp H := ⟨hkf, ht, hT, by omega, ⟨qq1, hf2, hq3, hA4⟩, ⟨w5, hg6, by omega⟩, ⟨w7, hg8, by omega⟩⟩
        rw [hQ]
        exact W.lret (v := l59) hx hb hr (fun t ht hW => ⟨⟨l59, l59, rfl, rfl, ⟨by rw [ht]; exact hI, hN.warm hW, va_K.moved hW.alike hK⟩, by first | (rw [ht]; exact hpost) | exact hpost⟩, hS.F ht⟩) hS.2.2 dX12_bounded_37
