theorem wn_77 : (Cond.fieldLinkNest RX11 (307 : Nat) "NineRiver$State" "jobs" "LNineRiver$Rows;" "NineRiver") ∈ lw_tbl := List.mem_append_right _ (List.mem_of_getElem? (i := 77) (by decide +kernel))
theorem wn_80 : (Cond.fieldLinkNest RX11 (322 : Nat) "NineRiver$State" "wishes" "LNineRiver$Rows;" "NineRiver") ∈ lw_tbl := List.mem_append_right _ (List.mem_of_getElem? (i := 80) (by decide +kernel))
theorem wp_9 : Cond.selects RX11 yX11_pourFromTape yX11_pourFromTape ∈ TB := tv 9 (by decide +kernel) (by decide +kernel)
theorem wd_1016 : (Cond.methodLink RX11 (301 : Nat) yX5_findAlone) ∈ TB := tw 1016 (by decide +kernel) (by decide +kernel)
theorem wd_1017 : (Jvm.Cond.instanceMethod yX5_findAlone) ∈ TB := tw 1017 (by decide +kernel) (by decide +kernel)
theorem wd_1018 : (Cond.selects RX5 yX5_findAlone yX5_findAlone) ∈ TB := tw 1018 (by decide +kernel) (by decide +kernel)
theorem wd_1019 : (Cond.code yX5_findAlone cX5_findAlone 5 (Option.some Jvm.ClassFile.FieldType.int)) ∈ TB := tw 1019 (by decide +kernel) (by decide +kernel)
theorem wd_1084 : (Cond.methodLink RX11 (313 : Nat) yX8_answer) ∈ TB := tw 1084 (by decide +kernel) (by decide +kernel)
theorem wd_1085 : (Jvm.Cond.instanceMethod yX8_answer) ∈ TB := tw 1085 (by decide +kernel) (by decide +kernel)
theorem wd_1086 : (Cond.selects RX8 yX8_answer yX8_answer) ∈ TB := tw 1086 (by decide +kernel) (by decide +kernel)
theorem wd_1087 : (Cond.code yX8_answer cX8_answer 10 (Option.some Jvm.ClassFile.FieldType.int)) ∈ TB := tw 1087 (by decide +kernel) (by decide +kernel)
theorem wd_1098 : (Cond.methodLink RX11 (316 : Nat) yX9_paddle) ∈ TB := tw 1098 (by decide +kernel) (by decide +kernel)
theorem wd_1099 : (Jvm.Cond.instanceMethod yX9_paddle) ∈ TB := tw 1099 (by decide +kernel) (by decide +kernel)
theorem wd_1100 : (Cond.selects RX9 yX9_paddle yX9_paddle) ∈ TB := tw 1100 (by decide +kernel) (by decide +kernel)
theorem wd_1101 : (Cond.code yX9_paddle cX9_paddle 6 (Option.some Jvm.ClassFile.FieldType.int)) ∈ TB := tw 1101 (by decide +kernel) (by decide +kernel)
theorem wd_1109 : (Cond.methodLink RX11 (319 : Nat) yX9_turningHours) ∈ TB := tw 1109 (by decide +kernel) (by decide +kernel)
theorem wd_1110 : (Jvm.Cond.instanceMethod yX9_turningHours) ∈ TB := tw 1110 (by decide +kernel) (by decide +kernel)
theorem wd_1111 : (Cond.selects RX9 yX9_turningHours yX9_turningHours) ∈ TB := tw 1111 (by decide +kernel) (by decide +kernel)
theorem wd_1112 : (Cond.code yX9_turningHours cX9_turningHours 11 (Option.some Jvm.ClassFile.FieldType.int)) ∈ TB := tw 1112 (by decide +kernel) (by decide +kernel)
theorem wd_1134 : (Cond.methodLink RX11 (325 : Nat) yX10_grantedNow) ∈ TB := tw 1134 (by decide +kernel) (by decide +kernel)
theorem wd_1135 : (Jvm.Cond.instanceMethod yX10_grantedNow) ∈ TB := tw 1135 (by decide +kernel) (by decide +kernel)
theorem wd_1136 : (Cond.selects RX10 yX10_grantedNow yX10_grantedNow) ∈ TB := tw 1136 (by decide +kernel) (by decide +kernel)
theorem wd_1137 : (Cond.code yX10_grantedNow cX10_grantedNow 4 (Option.some Jvm.ClassFile.FieldType.int)) ∈ TB := tw 1137 (by decide +kernel) (by decide +kernel)
theorem wd_1145 : (Cond.methodLink RX11 (328 : Nat) yX10_tune) ∈ TB := tw 1145 (by decide +kernel) (by decide +kernel)
theorem wd_1146 : (Jvm.Cond.instanceMethod yX10_tune) ∈ TB := tw 1146 (by decide +kernel) (by decide +kernel)
theorem wd_1147 : (Cond.selects RX10 yX10_tune yX10_tune) ∈ TB := tw 1147 (by decide +kernel) (by decide +kernel)
theorem wd_1148 : (Cond.code yX10_tune cX10_tune 5 (Option.none : Option Jvm.ClassFile.FieldType)) ∈ TB := tw 1148 (by decide +kernel) (by decide +kernel)
theorem wd_1168 : (Cond.methodLink RX11 (331 : Nat) yX10_tuned) ∈ TB := tw 1168 (by decide +kernel) (by decide +kernel)
theorem wd_1169 : (Jvm.Cond.instanceMethod yX10_tuned) ∈ TB := tw 1169 (by decide +kernel) (by decide +kernel)
theorem wd_1170 : (Cond.selects RX10 yX10_tuned yX10_tuned) ∈ TB := tw 1170 (by decide +kernel) (by decide +kernel)
theorem wd_1171 : (Cond.code yX10_tuned cX10_tuned 2 (Option.some Jvm.ClassFile.FieldType.int)) ∈ TB := tw 1171 (by decide +kernel) (by decide +kernel)
theorem wd_1176 : (Cond.methodLink RX11 (334 : Nat) yX6_tellClocks) ∈ TB := tw 1176 (by decide +kernel) (by decide +kernel)
theorem wd_1181 : (Cond.constant RX11 (337 : Nat) (1000000 : Int32)) ∈ TB := tw 1181 (by decide +kernel) (by decide +kernel)
theorem wd_1182 : (Cond.methodLink RX11 (338 : Nat) yX9_drawWeek) ∈ TB := tw 1182 (by decide +kernel) (by decide +kernel)
theorem wd_1183 : (Jvm.Cond.instanceMethod yX9_drawWeek) ∈ TB := tw 1183 (by decide +kernel) (by decide +kernel)
theorem wd_1184 : (Cond.selects RX9 yX9_drawWeek yX9_drawWeek) ∈ TB := tw 1184 (by decide +kernel) (by decide +kernel)
theorem wd_1185 : (Cond.code yX9_drawWeek cX9_drawWeek 9 (Option.some Jvm.ClassFile.FieldType.int)) ∈ TB := tw 1185 (by decide +kernel) (by decide +kernel)
theorem wd_1219 : (Cond.methodLink RX11 (345 : Nat) yX6_countStrikes) ∈ TB := tw 1219 (by decide +kernel) (by decide +kernel)
theorem wd_1220 : (Jvm.Cond.instanceMethod yX6_countStrikes) ∈ TB := tw 1220 (by decide +kernel) (by decide +kernel)
theorem wd_1221 : (Cond.selects RX6 yX6_countStrikes yX6_countStrikes) ∈ TB := tw 1221 (by decide +kernel) (by decide +kernel)
theorem wd_1222 : (Cond.code yX6_countStrikes cX6_countStrikes 6 (Option.some Jvm.ClassFile.FieldType.int)) ∈ TB := tw 1222 (by decide +kernel) (by decide +kernel)
theorem wd_349 : (Cond.fieldLink RX11 (27 : Nat) "NineRiver" "landed" "[I") ∈ TB := tw 349 (by decide +kernel) (by decide +kernel)
theorem wd_361 : (Cond.fieldLink RX11 (102 : Nat) "NineRiver" "hasWeek" "Z") ∈ TB := tw 361 (by decide +kernel) (by decide +kernel)
theorem wd_613 : (Cond.methodLink RX11 (188 : Nat) yX11_pourFromTape) ∈ TB := tw 613 (by decide +kernel) (by decide +kernel)
theorem wd_615 : (Jvm.Cond.instanceMethod yX11_pourFromTape) ∈ TB := tw 615 (by decide +kernel) (by decide +kernel)
theorem wd_616 : (Cond.code yX11_pourFromTape cX11_pourFromTape 6 (Option.some Jvm.ClassFile.FieldType.boolean)) ∈ TB := tw 616 (by decide +kernel) (by decide +kernel)
theorem wd_995 : (Cond.methodLink RX11 (298 : Nat) yX5_countAlone) ∈ TB := tw 995 (by decide +kernel) (by decide +kernel)
theorem wd_996 : (Jvm.Cond.instanceMethod yX5_countAlone) ∈ TB := tw 996 (by decide +kernel) (by decide +kernel)
theorem wd_997 : (Cond.selects RX5 yX5_countAlone yX5_countAlone) ∈ TB := tw 997 (by decide +kernel) (by decide +kernel)
theorem wd_998 : (Cond.code yX5_countAlone cX5_countAlone 7 (Option.some Jvm.ClassFile.FieldType.int)) ∈ TB := tw 998 (by decide +kernel) (by decide +kernel)
theorem dX11_pourFromTape_0g : (decode cX11_pourFromTape 0 = .ok (.iload_n 1, 1)) ∧ (decode cX11_pourFromTape 1 = .ok (.ifCond .lt 13, 3)) ∧ (decode cX11_pourFromTape 4 = .ok (.iload_n 1, 1)) ∧ (decode cX11_pourFromTape 5 = .ok (.iconst 4, 1)) ∧ (decode cX11_pourFromTape 6 = .ok (.iadd, 1)) ∧ (decode cX11_pourFromTape 7 = .ok (.aload_n 0, 1)) ∧ (decode cX11_pourFromTape 8 = .ok (.getfield 89, 3)) ∧ (decode cX11_pourFromTape 11 = .ok (.if_icmp .le 5, 3)) ∧ (decode cX11_pourFromTape 14 = .ok (.iconst 0, 1)) ∧ (decode cX11_pourFromTape 15 = .ok (.ireturn, 1)) := by decide +kernel
theorem dX11_pourFromTape_0 : decode cX11_pourFromTape 0 = .ok (.iload_n 1, 1) := dX11_pourFromTape_0g.1
theorem dX11_pourFromTape_1 : decode cX11_pourFromTape 1 = .ok (.ifCond .lt 13, 3) := dX11_pourFromTape_0g.2.1
theorem dX11_pourFromTape_4 : decode cX11_pourFromTape 4 = .ok (.iload_n 1, 1) := dX11_pourFromTape_0g.2.2.1
theorem dX11_pourFromTape_5 : decode cX11_pourFromTape 5 = .ok (.iconst 4, 1) := dX11_pourFromTape_0g.2.2.2.1
theorem dX11_pourFromTape_6 : decode cX11_pourFromTape 6 = .ok (.iadd, 1) := dX11_pourFromTape_0g.2.2.2.2.1
theorem dX11_pourFromTape_7 : decode cX11_pourFromTape 7 = .ok (.aload_n 0, 1) := dX11_pourFromTape_0g.2.2.2.2.2.1
theorem dX11_pourFromTape_8 : decode cX11_pourFromTape 8 = .ok (.getfield 89, 3) := dX11_pourFromTape_0g.2.2.2.2.2.2.1
theorem dX11_pourFromTape_11 : decode cX11_pourFromTape 11 = .ok (.if_icmp .le 5, 3) := dX11_pourFromTape_0g.2.2.2.2.2.2.2.1
theorem dX11_pourFromTape_14 : decode cX11_pourFromTape 14 = .ok (.iconst 0, 1) := dX11_pourFromTape_0g.2.2.2.2.2.2.2.2.1
theorem dX11_pourFromTape_15 : decode cX11_pourFromTape 15 = .ok (.ireturn, 1) := dX11_pourFromTape_0g.2.2.2.2.2.2.2.2.2
theorem dX11_pourFromTape_16g : (decode cX11_pourFromTape 16 = .ok (.aload_n 0, 1)) ∧ (decode cX11_pourFromTape 17 = .ok (.getfield 20, 3)) ∧ (decode cX11_pourFromTape 20 = .ok (.iload_n 1, 1)) ∧ (decode cX11_pourFromTape 21 = .ok (.iaload, 1)) ∧ (decode cX11_pourFromTape 22 = .ok (.istore_n 2, 1)) ∧ (decode cX11_pourFromTape 23 = .ok (.aload_n 0, 1)) ∧ (decode cX11_pourFromTape 24 = .ok (.getfield 20, 3)) ∧ (decode cX11_pourFromTape 27 = .ok (.iload_n 1, 1)) ∧ (decode cX11_pourFromTape 28 = .ok (.iconst 1, 1)) ∧ (decode cX11_pourFromTape 29 = .ok (.iadd, 1)) := by decide +kernel
theorem dX11_pourFromTape_16 : decode cX11_pourFromTape 16 = .ok (.aload_n 0, 1) := dX11_pourFromTape_16g.1
theorem dX11_pourFromTape_17 : decode cX11_pourFromTape 17 = .ok (.getfield 20, 3) := dX11_pourFromTape_16g.2.1
theorem dX11_pourFromTape_20 : decode cX11_pourFromTape 20 = .ok (.iload_n 1, 1) := dX11_pourFromTape_16g.2.2.1
theorem dX11_pourFromTape_21 : decode cX11_pourFromTape 21 = .ok (.iaload, 1) := dX11_pourFromTape_16g.2.2.2.1
theorem dX11_pourFromTape_22 : decode cX11_pourFromTape 22 = .ok (.istore_n 2, 1) := dX11_pourFromTape_16g.2.2.2.2.1
theorem dX11_pourFromTape_23 : decode cX11_pourFromTape 23 = .ok (.aload_n 0, 1) := dX11_pourFromTape_16g.2.2.2.2.2.1
theorem dX11_pourFromTape_24 : decode cX11_pourFromTape 24 = .ok (.getfield 20, 3) := dX11_pourFromTape_16g.2.2.2.2.2.2.1
theorem dX11_pourFromTape_27 : decode cX11_pourFromTape 27 = .ok (.iload_n 1, 1) := dX11_pourFromTape_16g.2.2.2.2.2.2.2.1
theorem dX11_pourFromTape_28 : decode cX11_pourFromTape 28 = .ok (.iconst 1, 1) := dX11_pourFromTape_16g.2.2.2.2.2.2.2.2.1
theorem dX11_pourFromTape_29 : decode cX11_pourFromTape 29 = .ok (.iadd, 1) := dX11_pourFromTape_16g.2.2.2.2.2.2.2.2.2
theorem dX11_pourFromTape_30g : (decode cX11_pourFromTape 30 = .ok (.iaload, 1)) ∧ (decode cX11_pourFromTape 31 = .ok (.istore_n 3, 1)) ∧ (decode cX11_pourFromTape 32 = .ok (.aload_n 0, 1)) ∧ (decode cX11_pourFromTape 33 = .ok (.getfield 20, 3)) ∧ (decode cX11_pourFromTape 36 = .ok (.iload_n 1, 1)) ∧ (decode cX11_pourFromTape 37 = .ok (.iconst 2, 1)) ∧ (decode cX11_pourFromTape 38 = .ok (.iadd, 1)) ∧ (decode cX11_pourFromTape 39 = .ok (.iaload, 1)) ∧ (decode cX11_pourFromTape 40 = .ok (.istore 4, 2)) ∧ (decode cX11_pourFromTape 42 = .ok (.aload_n 0, 1)) := by decide +kernel
theorem dX11_pourFromTape_30 : decode cX11_pourFromTape 30 = .ok (.iaload, 1) := dX11_pourFromTape_30g.1
theorem dX11_pourFromTape_31 : decode cX11_pourFromTape 31 = .ok (.istore_n 3, 1) := dX11_pourFromTape_30g.2.1
theorem dX11_pourFromTape_32 : decode cX11_pourFromTape 32 = .ok (.aload_n 0, 1) := dX11_pourFromTape_30g.2.2.1
theorem dX11_pourFromTape_33 : decode cX11_pourFromTape 33 = .ok (.getfield 20, 3) := dX11_pourFromTape_30g.2.2.2.1
theorem dX11_pourFromTape_36 : decode cX11_pourFromTape 36 = .ok (.iload_n 1, 1) := dX11_pourFromTape_30g.2.2.2.2.1
theorem dX11_pourFromTape_37 : decode cX11_pourFromTape 37 = .ok (.iconst 2, 1) := dX11_pourFromTape_30g.2.2.2.2.2.1
theorem dX11_pourFromTape_38 : decode cX11_pourFromTape 38 = .ok (.iadd, 1) := dX11_pourFromTape_30g.2.2.2.2.2.2.1
theorem dX11_pourFromTape_39 : decode cX11_pourFromTape 39 = .ok (.iaload, 1) := dX11_pourFromTape_30g.2.2.2.2.2.2.2.1
theorem dX11_pourFromTape_40 : decode cX11_pourFromTape 40 = .ok (.istore 4, 2) := dX11_pourFromTape_30g.2.2.2.2.2.2.2.2.1
theorem dX11_pourFromTape_42 : decode cX11_pourFromTape 42 = .ok (.aload_n 0, 1) := dX11_pourFromTape_30g.2.2.2.2.2.2.2.2.2
theorem dX11_pourFromTape_43g : (decode cX11_pourFromTape 43 = .ok (.getfield 20, 3)) ∧ (decode cX11_pourFromTape 46 = .ok (.iload_n 1, 1)) ∧ (decode cX11_pourFromTape 47 = .ok (.iconst 3, 1)) ∧ (decode cX11_pourFromTape 48 = .ok (.iadd, 1)) ∧ (decode cX11_pourFromTape 49 = .ok (.iaload, 1)) ∧ (decode cX11_pourFromTape 50 = .ok (.istore 5, 2)) ∧ (decode cX11_pourFromTape 52 = .ok (.iload_n 2, 1)) ∧ (decode cX11_pourFromTape 53 = .ok (.iload_n 3, 1)) ∧ (decode cX11_pourFromTape 54 = .ok (.iload 4, 2)) ∧ (decode cX11_pourFromTape 56 = .ok (.iload 5, 2)) := by decide +kernel
theorem dX11_pourFromTape_43 : decode cX11_pourFromTape 43 = .ok (.getfield 20, 3) := dX11_pourFromTape_43g.1
theorem dX11_pourFromTape_46 : decode cX11_pourFromTape 46 = .ok (.iload_n 1, 1) := dX11_pourFromTape_43g.2.1
theorem dX11_pourFromTape_47 : decode cX11_pourFromTape 47 = .ok (.iconst 3, 1) := dX11_pourFromTape_43g.2.2.1
theorem dX11_pourFromTape_48 : decode cX11_pourFromTape 48 = .ok (.iadd, 1) := dX11_pourFromTape_43g.2.2.2.1
theorem dX11_pourFromTape_49 : decode cX11_pourFromTape 49 = .ok (.iaload, 1) := dX11_pourFromTape_43g.2.2.2.2.1
theorem dX11_pourFromTape_50 : decode cX11_pourFromTape 50 = .ok (.istore 5, 2) := dX11_pourFromTape_43g.2.2.2.2.2.1
theorem dX11_pourFromTape_52 : decode cX11_pourFromTape 52 = .ok (.iload_n 2, 1) := dX11_pourFromTape_43g.2.2.2.2.2.2.1
theorem dX11_pourFromTape_53 : decode cX11_pourFromTape 53 = .ok (.iload_n 3, 1) := dX11_pourFromTape_43g.2.2.2.2.2.2.2.1
theorem dX11_pourFromTape_54 : decode cX11_pourFromTape 54 = .ok (.iload 4, 2) := dX11_pourFromTape_43g.2.2.2.2.2.2.2.2.1
theorem dX11_pourFromTape_56 : decode cX11_pourFromTape 56 = .ok (.iload 5, 2) := dX11_pourFromTape_43g.2.2.2.2.2.2.2.2.2
theorem dX11_pourFromTape_58g : (decode cX11_pourFromTape 58 = .ok (.invokestatic 262, 3)) ∧ (decode cX11_pourFromTape 61 = .ok (.ifCond .eq 15, 3)) ∧ (decode cX11_pourFromTape 64 = .ok (.aload_n 0, 1)) ∧ (decode cX11_pourFromTape 65 = .ok (.getfield 42, 3)) ∧ (decode cX11_pourFromTape 68 = .ok (.iload_n 2, 1)) ∧ (decode cX11_pourFromTape 69 = .ok (.iload_n 3, 1)) ∧ (decode cX11_pourFromTape 70 = .ok (.invokevirtual 220, 3)) ∧ (decode cX11_pourFromTape 73 = .ok (.ifCond .eq 5, 3)) ∧ (decode cX11_pourFromTape 76 = .ok (.iconst 0, 1)) ∧ (decode cX11_pourFromTape 77 = .ok (.ireturn, 1)) := by decide +kernel
theorem dX11_pourFromTape_58 : decode cX11_pourFromTape 58 = .ok (.invokestatic 262, 3) := dX11_pourFromTape_58g.1
theorem dX11_pourFromTape_61 : decode cX11_pourFromTape 61 = .ok (.ifCond .eq 15, 3) := dX11_pourFromTape_58g.2.1
theorem dX11_pourFromTape_64 : decode cX11_pourFromTape 64 = .ok (.aload_n 0, 1) := dX11_pourFromTape_58g.2.2.1
theorem dX11_pourFromTape_65 : decode cX11_pourFromTape 65 = .ok (.getfield 42, 3) := dX11_pourFromTape_58g.2.2.2.1
theorem dX11_pourFromTape_68 : decode cX11_pourFromTape 68 = .ok (.iload_n 2, 1) := dX11_pourFromTape_58g.2.2.2.2.1
theorem dX11_pourFromTape_69 : decode cX11_pourFromTape 69 = .ok (.iload_n 3, 1) := dX11_pourFromTape_58g.2.2.2.2.2.1
theorem dX11_pourFromTape_70 : decode cX11_pourFromTape 70 = .ok (.invokevirtual 220, 3) := dX11_pourFromTape_58g.2.2.2.2.2.2.1
theorem dX11_pourFromTape_73 : decode cX11_pourFromTape 73 = .ok (.ifCond .eq 5, 3) := dX11_pourFromTape_58g.2.2.2.2.2.2.2.1
theorem dX11_pourFromTape_76 : decode cX11_pourFromTape 76 = .ok (.iconst 0, 1) := dX11_pourFromTape_58g.2.2.2.2.2.2.2.2.1
theorem dX11_pourFromTape_77 : decode cX11_pourFromTape 77 = .ok (.ireturn, 1) := dX11_pourFromTape_58g.2.2.2.2.2.2.2.2.2
theorem dX11_pourFromTape_78g : (decode cX11_pourFromTape 78 = .ok (.aload_n 0, 1)) ∧ (decode cX11_pourFromTape 79 = .ok (.getfield 12, 3)) ∧ (decode cX11_pourFromTape 82 = .ok (.getfield 266, 3)) ∧ (decode cX11_pourFromTape 85 = .ok (.iload_n 2, 1)) ∧ (decode cX11_pourFromTape 86 = .ok (.iload_n 3, 1)) ∧ (decode cX11_pourFromTape 87 = .ok (.iload 4, 2)) ∧ (decode cX11_pourFromTape 89 = .ok (.iload 5, 2)) ∧ (decode cX11_pourFromTape 91 = .ok (.invokevirtual 155, 3)) ∧ (decode cX11_pourFromTape 94 = .ok (.iconst (-1), 1)) ∧ (decode cX11_pourFromTape 95 = .ok (.if_icmp .eq 7, 3)) := by decide +kernel
theorem dX11_pourFromTape_78 : decode cX11_pourFromTape 78 = .ok (.aload_n 0, 1) := dX11_pourFromTape_78g.1
theorem dX11_pourFromTape_79 : decode cX11_pourFromTape 79 = .ok (.getfield 12, 3) := dX11_pourFromTape_78g.2.1
theorem dX11_pourFromTape_82 : decode cX11_pourFromTape 82 = .ok (.getfield 266, 3) := dX11_pourFromTape_78g.2.2.1
theorem dX11_pourFromTape_85 : decode cX11_pourFromTape 85 = .ok (.iload_n 2, 1) := dX11_pourFromTape_78g.2.2.2.1
theorem dX11_pourFromTape_86 : decode cX11_pourFromTape 86 = .ok (.iload_n 3, 1) := dX11_pourFromTape_78g.2.2.2.2.1
theorem dX11_pourFromTape_87 : decode cX11_pourFromTape 87 = .ok (.iload 4, 2) := dX11_pourFromTape_78g.2.2.2.2.2.1
theorem dX11_pourFromTape_89 : decode cX11_pourFromTape 89 = .ok (.iload 5, 2) := dX11_pourFromTape_78g.2.2.2.2.2.2.1
theorem dX11_pourFromTape_91 : decode cX11_pourFromTape 91 = .ok (.invokevirtual 155, 3) := dX11_pourFromTape_78g.2.2.2.2.2.2.2.1
theorem dX11_pourFromTape_94 : decode cX11_pourFromTape 94 = .ok (.iconst (-1), 1) := dX11_pourFromTape_78g.2.2.2.2.2.2.2.2.1
theorem dX11_pourFromTape_95 : decode cX11_pourFromTape 95 = .ok (.if_icmp .eq 7, 3) := dX11_pourFromTape_78g.2.2.2.2.2.2.2.2.2
theorem dX11_pourFromTape_98g : (decode cX11_pourFromTape 98 = .ok (.iconst 1, 1)) ∧ (decode cX11_pourFromTape 99 = .ok (.goto 4, 3)) ∧ (decode cX11_pourFromTape 102 = .ok (.iconst 0, 1)) ∧ (decode cX11_pourFromTape 103 = .ok (.ireturn, 1)) := by decide +kernel
theorem dX11_pourFromTape_98 : decode cX11_pourFromTape 98 = .ok (.iconst 1, 1) := dX11_pourFromTape_98g.1
theorem dX11_pourFromTape_99 : decode cX11_pourFromTape 99 = .ok (.goto 4, 3) := dX11_pourFromTape_98g.2.1
theorem dX11_pourFromTape_102 : decode cX11_pourFromTape 102 = .ok (.iconst 0, 1) := dX11_pourFromTape_98g.2.2.1
theorem dX11_pourFromTape_103 : decode cX11_pourFromTape 103 = .ok (.ireturn, 1) := dX11_pourFromTape_98g.2.2.2
set_option maxHeartbeats 4000000 in
set_option maxRecDepth 100000 in
theorem c_X11_pourFromTape (l : Launch) (E : Nat → Nat) (D : va_G) (G : th_G) (h0 n : Nat) (hG0 : G h0 = some (15, n)) (x1 : Int32) (hx1 : (0 : Int) ≤ x1.toInt ∧ x1.toInt ≤ 400) : Met l yX11_pourFromTape (tb (.code yX11_pourFromTape cX11_pourFromTape 6 (some .boolean))) (rm 6) (va_Pc [.ref h0, .int x1] (th_P E D G)) (QI E D G (fun r => 0 ≤ (r : Int32).toInt ∧ (r : Int32).toInt ≤ 1)) 0 0 (th_A G) := by
  refine Met.ofW (cc := cX11_pourFromTape) (maxL := 6) (ret := (some .boolean)) (by decide) rfl ?_
  intro p e s m args below meth c s₁ B hml hv
  obtain ⟨hav, hI, hN, hK⟩ := hv
  have hx := B.exec
  have hb := B.bytes
  have hr := B.returns
  have hts := atoms_spec (ws := tb (.code yX11_pourFromTape cX11_pourFromTape 6 (some .boolean))) B.pre
  have hown : s.vm.findClass RX11 = some m.cls := findClass_of_methodNamed B.named
  have hlocks := B.notSynchronized
  have hS : va_S (th_A G) s.heap s.heap [] := va_S.rf
  have hl := lv_entry ([.ref h0, .int x1]) (n := 6) (Nat.le_of_ble_eq_true rfl)
  rw [show entryFrame m args 6 = entryFrame m ([.ref h0, .int x1] : List Value).toArray 6 from by rw [hav], lg_entry_eq]
  generalize (lg_sl ([.ref h0, .int x1]) ++ List.replicate (6 - (lg_sl ([.ref h0, .int x1])).length) Slot.unset).toArray = ls at hl ⊢
  have hl : lv_has ls 6 [(0, .ref h0), (1, .int x1)] := hl
  generalize hR : (headSpec (tb (.code yX11_pourFromTape cX11_pourFromTape 6 (some .boolean))) (rm 6)).room = R
  have hR := hR.symm
  generalize hQ : MQ below (QI E D G (fun r => 0 ≤ (r : Int32).toInt ∧ (r : Int32).toInt ≤ 1)) args s 0 0 (th_A G) = QF
  have hQ := hQ.symm
  have J_76 : ∀ (H : Heap) (locs : List Loc) (ls : Array Slot) (v1125 : Int32) (v1126 : Int32) (v1127 : Int32) (v1128 : Int32), lv_has ls 6 [(5, .int v1125), (4, .int v1126), (3, .int v1127), (2, .int v1128), (0, .ref h0), (1, .int x1)] → ((0 : Int) ≤ v1125.toInt ∧ v1125.toInt ≤ 255) → ((0 : Int) ≤ v1126.toInt ∧ v1126.toInt ≤ 255) → ((0 : Int) ≤ v1127.toInt ∧ v1127.toInt ≤ 255) → ((0 : Int) ≤ v1128.toInt ∧ v1128.toInt ≤ 255) → ((0 : Int) ≤ x1.toInt ∧ x1.toInt ≤ 400) → th_I (okC E) D G [] H → va_S (th_A G) s.heap H locs → W p l e R s m args below meth c H locs 0 0 QF (F0 m 76 ls []) := by
    intro H locs ls v1125 v1126 v1127 v1128 hl k1129 k1130 k1131 k1132 k1133 hI hS
    refine lv_iconst (v := 0) hx hb dX11_pourFromTape_76 (by decide) ?_
    have hpost : 0 ≤ (0 : Int32).toInt ∧ (0 : Int32).toInt ≤ 1 := by first | decide | omega
    rw [hQ]
    exact W.zret (v := 0) hx hb hr (by decide) (fun t ht hW => ⟨⟨0, (), rfl, hpost, by rw [ht]; exact hI, hN.warm hW, va_K.moved hW.alike hK⟩, hS.F ht⟩) hS.2.2 dX11_pourFromTape_77
  have J_14 : ∀ (H : Heap) (locs : List Loc) (ls : Array Slot) , lv_has ls 6 [(0, .ref h0), (1, .int x1)] → ((0 : Int) ≤ x1.toInt ∧ x1.toInt ≤ 400) → th_I (okC E) D G [] H → va_S (th_A G) s.heap H locs → W p l e R s m args below meth c H locs 0 0 QF (F0 m 14 ls []) := by
    intro H locs ls  hl k1134 hI hS
    refine lv_iconst (v := 0) hx hb dX11_pourFromTape_14 (by decide) ?_
    have hpost : 0 ≤ (0 : Int32).toInt ∧ (0 : Int32).toInt ≤ 1 := by first | decide | omega
    rw [hQ]
    exact W.zret (v := 0) hx hb hr (by decide) (fun t ht hW => ⟨⟨0, (), rfl, hpost, by rw [ht]; exact hI, hN.warm hW, va_K.moved hW.alike hK⟩, hS.F ht⟩) hS.2.2 dX11_pourFromTape_15
  refine lv_iload_n hx hb dX11_pourFromTape_0 rfl (lv_at hl 1 rfl) ?_
  refine lv_if_lt (tgt := 14) hx hb dX11_pourFromTape_1 (by decide) (fun c1135 => ?_) (fun c1135 => ?_)
  · skip
    have k1136 := iv_lt (X := x1.toInt) (Y := (0)) rfl (by decide) c1135
    exfalso; omega
  · skip
    have k1137 := iv_nlt (X := x1.toInt) (Y := (0)) rfl (by decide) c1135
    refine lv_iload_n hx hb dX11_pourFromTape_4 rfl (lv_at hl 1 rfl) ?_
    refine lv_iconst (v := 4) hx hb dX11_pourFromTape_5 (by decide) ?_
    refine lv_iadd hx hb dX11_pourFromTape_6 ?_
    refine lv_topi (fun v1138 e1139 => ?_)
    have tv1138 : v1138.toInt = x1.toInt + (4) := iv_add rfl (by decide) e1139 (by omega) (by omega)
    refine lv_aload_n hx hb dX11_pourFromTape_7 rfl (lv_at hl 0 rfl) ?_
    obtain ⟨a1140, a1143, a1145, a1147, a1149, a1151, a1153, a1155, a1157, a1159, a1161, w1163, w1166, w1167, w1168, w1169, hO, hq1141, hq1142, hq1144, hq1146, hq1148, hq1150, hq1152, hq1154, hq1156, hq1158, hq1160, hq1162, ⟨k1164, k1165⟩, k1170⟩ := op_15 hI hG0 List.not_mem_nil
    have hI := th_I.weak (a := h0) hI
    refine th_get hx hb hts inT11 hown hK hO rfl 12 (by decide) (hts _ (tb_c wd_357)) rfl rfl dX11_pourFromTape_8 ?_
    refine lv_icmp_le (tgt := 16) hx hb dX11_pourFromTape_11 (by decide) (fun c1171 => ?_) (fun c1171 => ?_)
    · skip
      have k1172 := iv_le (X := v1138.toInt) (Y := w1163.toInt) rfl rfl c1171
      refine lv_aload_n hx hb dX11_pourFromTape_16 rfl (lv_at hl 0 rfl) ?_
      refine th_get hx hb hts inT11 hown hK hO rfl 2 (by decide) (hts _ (tb_c wd_347)) rfl rfl dX11_pourFromTape_17 ?_
      refine lv_iload_n hx hb dX11_pourFromTape_20 rfl (lv_at hl 1 rfl) ?_
      obtain ⟨_, hA1173, hc1174⟩ := op_16 hI hq1144 (th_ne hG0 hq1144 (show (15 : Nat) ≠ 16 by decide))
      refine th_iald hx hb hK hA1173 0 rfl (iv_in (X := x1.toInt) rfl (by omega) (by omega)) dX11_pourFromTape_21 (fun v1175 e1176 => ?_)
      have k1177 := s16_get hc1174 e1176 (X := x1.toInt) rfl (by omega) (by omega)
      refine lv_istore_n (lv' := [(2, .int v1175), (0, .ref h0), (1, .int x1)]) hx hb dX11_pourFromTape_22 rfl hl (by decide) rfl (fun ls hl => ?_)
      refine lv_aload_n hx hb dX11_pourFromTape_23 rfl (lv_at hl 1 rfl) ?_
      refine th_get hx hb hts inT11 hown hK hO rfl 2 (by decide) (hts _ (tb_c wd_347)) rfl rfl dX11_pourFromTape_24 ?_
      refine lv_iload_n hx hb dX11_pourFromTape_27 rfl (lv_at hl 2 rfl) ?_
      refine lv_iconst (v := 1) hx hb dX11_pourFromTape_28 (by decide) ?_
      refine lv_iadd hx hb dX11_pourFromTape_29 ?_
      refine lv_topi (fun v1178 e1179 => ?_)
      have tv1178 : v1178.toInt = x1.toInt + (1) := iv_add rfl (by decide) e1179 (by omega) (by omega)
      obtain ⟨_, hA1180, hc1181⟩ := op_16 hI hq1144 (th_ne hG0 hq1144 (show (15 : Nat) ≠ 16 by decide))
      refine th_iald hx hb hK hA1180 0 rfl (iv_in (X := v1178.toInt) rfl (by omega) (by omega)) dX11_pourFromTape_30 (fun v1182 e1183 => ?_)
      have k1184 := s16_get hc1181 e1183 (X := v1178.toInt) rfl (by omega) (by omega)
      refine lv_istore_n (lv' := [(3, .int v1182), (2, .int v1175), (0, .ref h0), (1, .int x1)]) hx hb dX11_pourFromTape_31 rfl hl (by decide) rfl (fun ls hl => ?_)
      refine lv_aload_n hx hb dX11_pourFromTape_32 rfl (lv_at hl 2 rfl) ?_
      refine th_get hx hb hts inT11 hown hK hO rfl 2 (by decide) (hts _ (tb_c wd_347)) rfl rfl dX11_pourFromTape_33 ?_
      refine lv_iload_n hx hb dX11_pourFromTape_36 rfl (lv_at hl 3 rfl) ?_
      refine lv_iconst (v := 2) hx hb dX11_pourFromTape_37 (by decide) ?_
      refine lv_iadd hx hb dX11_pourFromTape_38 ?_
      refine lv_topi (fun v1185 e1186 => ?_)
      have tv1185 : v1185.toInt = x1.toInt + (2) := iv_add rfl (by decide) e1186 (by omega) (by omega)
      obtain ⟨_, hA1187, hc1188⟩ := op_16 hI hq1144 (th_ne hG0 hq1144 (show (15 : Nat) ≠ 16 by decide))
      refine th_iald hx hb hK hA1187 0 rfl (iv_in (X := v1185.toInt) rfl (by omega) (by omega)) dX11_pourFromTape_39 (fun v1189 e1190 => ?_)
      have k1191 := s16_get hc1188 e1190 (X := v1185.toInt) rfl (by omega) (by omega)
      refine lv_istore (lv' := [(4, .int v1189), (3, .int v1182), (2, .int v1175), (0, .ref h0), (1, .int x1)]) hx hb dX11_pourFromTape_40 hl (by decide) rfl (fun ls hl => ?_)
      refine lv_aload_n hx hb dX11_pourFromTape_42 rfl (lv_at hl 3 rfl) ?_
      refine th_get hx hb hts inT11 hown hK hO rfl 2 (by decide) (hts _ (tb_c wd_347)) rfl rfl dX11_pourFromTape_43 ?_
      refine lv_iload_n hx hb dX11_pourFromTape_46 rfl (lv_at hl 4 rfl) ?_
      refine lv_iconst (v := 3) hx hb dX11_pourFromTape_47 (by decide) ?_
      refine lv_iadd hx hb dX11_pourFromTape_48 ?_
      refine lv_topi (fun v1192 e1193 => ?_)
      have tv1192 : v1192.toInt = x1.toInt + (3) := iv_add rfl (by decide) e1193 (by omega) (by omega)
      obtain ⟨_, hA1194, hc1195⟩ := op_16 hI hq1144 (th_ne hG0 hq1144 (show (15 : Nat) ≠ 16 by decide))
      refine th_iald hx hb hK hA1194 0 rfl (iv_in (X := v1192.toInt) rfl (by omega) (by omega)) dX11_pourFromTape_49 (fun v1196 e1197 => ?_)
      have k1198 := s16_get hc1195 e1197 (X := v1192.toInt) rfl (by omega) (by omega)
      refine lv_istore (lv' := [(5, .int v1196), (4, .int v1189), (3, .int v1182), (2, .int v1175), (0, .ref h0), (1, .int x1)]) hx hb dX11_pourFromTape_50 hl (by decide) rfl (fun ls hl => ?_)
      refine lv_iload_n hx hb dX11_pourFromTape_52 rfl (lv_at hl 3 rfl) ?_
      refine lv_iload_n hx hb dX11_pourFromTape_53 rfl (lv_at hl 2 rfl) ?_
      refine lv_iload hx hb dX11_pourFromTape_54 (lv_at hl 1 rfl) ?_
      refine lv_iload hx hb dX11_pourFromTape_56 (lv_at hl 0 rfl) ?_
      refine th_cSs (As := [.int v1175, .int v1182, .int v1189, .int v1196]) (rest := []) (n := 4) (d := 1) ⟨hx, hb, hml, hown, hts⟩ (c_X11_isPour l s.heap v1175 v1182 v1189 v1196) wd_617 wd_618 wd_1 wd_619 (by decide +kernel) ⟨by rw [hR]; exact Nat.le_of_ble_eq_true rfl, by rw [hR]; exact Nat.le_of_ble_eq_true rfl⟩ hN hS rfl hl.1 rfl (Nat.le_of_ble_eq_true rfl) dX11_pourFromTape_58 ⟨Nat.zero_le _, Nat.zero_le _⟩ (fun r1199 locs hp hS => ?_)
      rcases hp with ⟨rfl, hp⟩ | ⟨rfl, hp⟩
      · skip
        try simp only [rg, not_and, Int.not_le] at hp
        have hp1200 := hp
        refine lv_if_eq (tgt := 76) hx hb dX11_pourFromTape_61 (by decide) (fun c => absurd c (by decide)) (fun _ => ?_)
        refine lv_aload_n hx hb dX11_pourFromTape_64 rfl (lv_at hl 4 rfl) ?_
        refine th_get hx hb hts inT11 hown hK hO rfl 6 (by decide) (hts _ (tb_c wd_351)) rfl rfl dX11_pourFromTape_65 ?_
        refine lv_iload_n hx hb dX11_pourFromTape_68 rfl (lv_at hl 3 rfl) ?_
        refine lv_iload_n hx hb dX11_pourFromTape_69 rfl (lv_at hl 2 rfl) ?_
        have hI := th_I.close hI hG0 hO (ok_15 hq1141 hq1142 hq1144 hq1146 hq1148 hq1150 hq1152 hq1154 hq1156 hq1158 hq1160 hq1162 ⟨by omega, by omega⟩ k1170)
        refine th_cVi (As := [.int v1175, .int v1182]) (rest := []) (n := 2) (d := 5) ⟨hx, hb, hml, hown, hts⟩ (c_X7_isBarred l E D G a1151 hq1152 v1175 v1182) wd_623 wd_624 wd_625 wd_6 wd_626 (by decide +kernel) ⟨by rw [hR]; exact Nat.le_of_ble_eq_true rfl, by rw [hR]; exact Nat.le_of_ble_eq_true rfl⟩ hI hN hK hS (rc_9 hI hq1152 List.not_mem_nil) rfl rfl hl.1 rfl (Nat.le_of_ble_eq_true rfl) dX11_pourFromTape_70 ⟨Nat.zero_le _, Nat.zero_le _⟩ (fun r1201 H locs hp hI hS => ?_)
        have hp1202 := hp
        refine lv_if_eq (tgt := 78) hx hb dX11_pourFromTape_73 (by decide) (fun c1203 => ?_) (fun c1203 => ?_)
        · skip
          have k1204 := iv_eq (X := r1201.toInt) (Y := (0)) rfl (by decide) c1203
          refine lv_aload_n hx hb dX11_pourFromTape_78 rfl (lv_at hl 4 rfl) ?_
          obtain ⟨a1205, a1208, a1210, a1212, a1214, a1216, a1218, a1220, a1222, a1224, a1226, w1228, w1231, w1232, w1233, w1234, hO, hq1206, hq1207, hq1209, hq1211, hq1213, hq1215, hq1217, hq1219, hq1221, hq1223, hq1225, hq1227, ⟨k1229, k1230⟩, k1235⟩ := op_15 hI hG0 List.not_mem_nil
          have hI := th_I.weak (a := h0) hI
          refine th_get hx hb hts inT11 hown hK hO rfl 0 (by decide) (hts _ (tb_c wd_345)) rfl rfl dX11_pourFromTape_79 ?_
          have hI := th_I.close hI hG0 hO (ok_15 hq1206 hq1207 hq1209 hq1211 hq1213 hq1215 hq1217 hq1219 hq1221 hq1223 hq1225 hq1227 ⟨by omega, by omega⟩ k1235)
          obtain ⟨a1236, a1238, a1240, a1242, a1244, a1246, a1248, a1250, a1252, a1254, w1256, w1259, w1260, w1261, hO, hq1237, hq1239, hq1241, hq1243, hq1245, hq1247, hq1249, hq1251, hq1253, hq1255, ⟨k1257, k1258⟩, k1262⟩ := op_6 hI hq1206 List.not_mem_nil
          have hI := th_I.weak (a := a1205) hI
          refine th_getN hx hb hts inT6 hown hK hN hO rfl 5 (by decide) wn_71 rfl rfl dX11_pourFromTape_82 ?_
          refine lv_iload_n hx hb dX11_pourFromTape_85 rfl (lv_at hl 3 rfl) ?_
          refine lv_iload_n hx hb dX11_pourFromTape_86 rfl (lv_at hl 2 rfl) ?_
          refine lv_iload hx hb dX11_pourFromTape_87 (lv_at hl 1 rfl) ?_
          refine lv_iload hx hb dX11_pourFromTape_89 (lv_at hl 0 rfl) ?_
          have hI := th_I.close hI hq1206 hO (ok_6 hq1237 hq1239 hq1241 hq1243 hq1245 hq1247 hq1249 hq1251 hq1253 hq1255 ⟨by omega, by omega⟩ k1262)
          refine th_cVi (As := [.int v1175, .int v1182, .int v1189, .int v1196]) (rest := []) (n := 4) (d := 1) ⟨hx, hb, hml, hown, hts⟩ (c_X4_put l E D G a1246 (16) hq1247 v1175 v1182 v1189 v1196) wd_485 wd_486 wd_487 wd_3 wd_488 (by decide +kernel) ⟨by rw [hR]; exact Nat.le_of_ble_eq_true rfl, by rw [hR]; exact Nat.le_of_ble_eq_true rfl⟩ hI hN hK hS (rc_4 hI hq1247 List.not_mem_nil) rfl rfl hl.1 rfl (Nat.le_of_ble_eq_true rfl) dX11_pourFromTape_91 ⟨Nat.zero_le _, Nat.zero_le _⟩ (fun r1263 H locs hp hI hS => ?_)
          refine lv_iconst (v := (-1)) hx hb dX11_pourFromTape_94 (by decide) ?_
          have k1264 := iv_lo r1263
          have k1265 := iv_hi r1263
          refine lv_icmp_eq (tgt := 102) hx hb dX11_pourFromTape_95 (by decide) (fun c1266 => ?_) (fun c1266 => ?_)
          · skip
            have k1267 := iv_eq (X := r1263.toInt) (Y := (-1)) rfl (by decide) c1266
            refine lv_iconst (v := 0) hx hb dX11_pourFromTape_102 (by decide) ?_
            have hpost : 0 ≤ (0 : Int32).toInt ∧ (0 : Int32).toInt ≤ 1 := by first | decide | omega
            rw [hQ]
            exact W.zret (v := 0) hx hb hr (by decide) (fun t ht hW => ⟨⟨0, (), rfl, hpost, by rw [ht]; exact hI, hN.warm hW, va_K.moved hW.alike hK⟩, hS.F ht⟩) hS.2.2 dX11_pourFromTape_103
          · skip
            have k1268 := iv_ne (X := r1263.toInt) (Y := (-1)) rfl (by decide) c1266
            refine lv_iconst (v := 1) hx hb dX11_pourFromTape_98 (by decide) ?_
            refine lv_goto (tgt := 103) hx hb dX11_pourFromTape_99 (by decide) ?_
            have hpost : 0 ≤ (1 : Int32).toInt ∧ (1 : Int32).toInt ≤ 1 := by first | decide | omega
            rw [hQ]
            exact W.zret (v := 1) hx hb hr (by decide) (fun t ht hW => ⟨⟨1, (), rfl, hpost, by rw [ht]; exact hI, hN.warm hW, va_K.moved hW.alike hK⟩, hS.F ht⟩) hS.2.2 dX11_pourFromTape_103
        · skip
          have k1269 := iv_ne (X := r1201.toInt) (Y := (0)) rfl (by decide) c1203
          exact J_76 H locs ls v1196 v1189 v1182 v1175 (lv_sub hl [0, 1, 2, 3, 4, 5] rfl) ⟨by omega, by omega⟩ ⟨by omega, by omega⟩ ⟨by omega, by omega⟩ ⟨by omega, by omega⟩ ⟨by omega, by omega⟩ hI hS
      · skip
        try simp only [rg, not_and, Int.not_le] at hp
        have hp1270 := hp
        refine lv_if_eq (tgt := 76) hx hb dX11_pourFromTape_61 (by decide) (fun _ => ?_) (fun c => absurd c (by decide))
        have hI := th_I.close hI hG0 hO (ok_15 hq1141 hq1142 hq1144 hq1146 hq1148 hq1150 hq1152 hq1154 hq1156 hq1158 hq1160 hq1162 ⟨by omega, by omega⟩ k1170)
        exact J_76 s.heap locs ls v1196 v1189 v1182 v1175 (lv_sub hl [0, 1, 2, 3, 4, 5] rfl) ⟨by omega, by omega⟩ ⟨by omega, by omega⟩ ⟨by omega, by omega⟩ ⟨by omega, by omega⟩ ⟨by omega, by omega⟩ hI hS
    · skip
      have k1271 := iv_nle (X := v1138.toInt) (Y := w1163.toInt) rfl rfl c1171
      have hI := th_I.close hI hG0 hO (ok_15 hq1141 hq1142 hq1144 hq1146 hq1148 hq1150 hq1152 hq1154 hq1156 hq1158 hq1160 hq1162 ⟨by omega, by omega⟩ k1170)
      exact J_14 s.heap [] ls  (lv_sub hl [0, 1] rfl) ⟨by omega, by omega⟩ hI hS
theorem dX11_row_0g : (decode cX11_row 0 = .ok (.aload_n 0, 1)) ∧ (decode cX11_row 1 = .ok (.getfield 89, 3)) ∧ (decode cX11_row 4 = .ok (.ifCond .ne 10, 3)) ∧ (decode cX11_row 7 = .ok (.aload_n 0, 1)) ∧ (decode cX11_row 8 = .ok (.bipush (-6), 2)) ∧ (decode cX11_row 10 = .ok (.invokevirtual 113, 3)) ∧ (decode cX11_row 13 = .ok (.ireturn, 1)) ∧ (decode cX11_row 14 = .ok (.iconst 0, 1)) ∧ (decode cX11_row 15 = .ok (.istore_n 1, 1)) ∧ (decode cX11_row 16 = .ok (.iconst 0, 1)) := by decide +kernel
theorem dX11_row_0 : decode cX11_row 0 = .ok (.aload_n 0, 1) := dX11_row_0g.1
theorem dX11_row_1 : decode cX11_row 1 = .ok (.getfield 89, 3) := dX11_row_0g.2.1
theorem dX11_row_4 : decode cX11_row 4 = .ok (.ifCond .ne 10, 3) := dX11_row_0g.2.2.1
theorem dX11_row_7 : decode cX11_row 7 = .ok (.aload_n 0, 1) := dX11_row_0g.2.2.2.1
theorem dX11_row_8 : decode cX11_row 8 = .ok (.bipush (-6), 2) := dX11_row_0g.2.2.2.2.1
theorem dX11_row_10 : decode cX11_row 10 = .ok (.invokevirtual 113, 3) := dX11_row_0g.2.2.2.2.2.1
theorem dX11_row_13 : decode cX11_row 13 = .ok (.ireturn, 1) := dX11_row_0g.2.2.2.2.2.2.1
theorem dX11_row_14 : decode cX11_row 14 = .ok (.iconst 0, 1) := dX11_row_0g.2.2.2.2.2.2.2.1
theorem dX11_row_15 : decode cX11_row 15 = .ok (.istore_n 1, 1) := dX11_row_0g.2.2.2.2.2.2.2.2.1
theorem dX11_row_16 : decode cX11_row 16 = .ok (.iconst 0, 1) := dX11_row_0g.2.2.2.2.2.2.2.2.2
theorem dX11_row_17g : (decode cX11_row 17 = .ok (.istore_n 2, 1)) ∧ (decode cX11_row 18 = .ok (.iconst 0, 1)) ∧ (decode cX11_row 19 = .ok (.istore_n 3, 1)) ∧ (decode cX11_row 20 = .ok (.iload_n 3, 1)) ∧ (decode cX11_row 21 = .ok (.aload_n 0, 1)) ∧ (decode cX11_row 22 = .ok (.getfield 89, 3)) ∧ (decode cX11_row 25 = .ok (.if_icmp .ge 26, 3)) ∧ (decode cX11_row 28 = .ok (.aload_n 0, 1)) ∧ (decode cX11_row 29 = .ok (.iload_n 3, 1)) ∧ (decode cX11_row 30 = .ok (.invokevirtual 188, 3)) := by decide +kernel
theorem dX11_row_17 : decode cX11_row 17 = .ok (.istore_n 2, 1) := dX11_row_17g.1
theorem dX11_row_18 : decode cX11_row 18 = .ok (.iconst 0, 1) := dX11_row_17g.2.1
theorem dX11_row_19 : decode cX11_row 19 = .ok (.istore_n 3, 1) := dX11_row_17g.2.2.1
theorem dX11_row_20 : decode cX11_row 20 = .ok (.iload_n 3, 1) := dX11_row_17g.2.2.2.1
theorem dX11_row_21 : decode cX11_row 21 = .ok (.aload_n 0, 1) := dX11_row_17g.2.2.2.2.1
theorem dX11_row_22 : decode cX11_row 22 = .ok (.getfield 89, 3) := dX11_row_17g.2.2.2.2.2.1
theorem dX11_row_25 : decode cX11_row 25 = .ok (.if_icmp .ge 26, 3) := dX11_row_17g.2.2.2.2.2.2.1
theorem dX11_row_28 : decode cX11_row 28 = .ok (.aload_n 0, 1) := dX11_row_17g.2.2.2.2.2.2.2.1
theorem dX11_row_29 : decode cX11_row 29 = .ok (.iload_n 3, 1) := dX11_row_17g.2.2.2.2.2.2.2.2.1
theorem dX11_row_30 : decode cX11_row 30 = .ok (.invokevirtual 188, 3) := dX11_row_17g.2.2.2.2.2.2.2.2.2
theorem dX11_row_33g : (decode cX11_row 33 = .ok (.ifCond .eq 9, 3)) ∧ (decode cX11_row 36 = .ok (.iinc 1 1, 3)) ∧ (decode cX11_row 39 = .ok (.goto 6, 3)) ∧ (decode cX11_row 42 = .ok (.iinc 2 1, 3)) ∧ (decode cX11_row 45 = .ok (.iinc 3 4, 3)) ∧ (decode cX11_row 48 = .ok (.goto (-28), 3)) ∧ (decode cX11_row 51 = .ok (.aload_n 0, 1)) ∧ (decode cX11_row 52 = .ok (.iconst 0, 1)) ∧ (decode cX11_row 53 = .ok (.putfield 89, 3)) ∧ (decode cX11_row 56 = .ok (.aload_n 0, 1)) := by decide +kernel
theorem dX11_row_33 : decode cX11_row 33 = .ok (.ifCond .eq 9, 3) := dX11_row_33g.1
theorem dX11_row_36 : decode cX11_row 36 = .ok (.iinc 1 1, 3) := dX11_row_33g.2.1
theorem dX11_row_39 : decode cX11_row 39 = .ok (.goto 6, 3) := dX11_row_33g.2.2.1
theorem dX11_row_42 : decode cX11_row 42 = .ok (.iinc 2 1, 3) := dX11_row_33g.2.2.2.1
theorem dX11_row_45 : decode cX11_row 45 = .ok (.iinc 3 4, 3) := dX11_row_33g.2.2.2.2.1
theorem dX11_row_48 : decode cX11_row 48 = .ok (.goto (-28), 3) := dX11_row_33g.2.2.2.2.2.1
theorem dX11_row_51 : decode cX11_row 51 = .ok (.aload_n 0, 1) := dX11_row_33g.2.2.2.2.2.2.1
theorem dX11_row_52 : decode cX11_row 52 = .ok (.iconst 0, 1) := dX11_row_33g.2.2.2.2.2.2.2.1
theorem dX11_row_53 : decode cX11_row 53 = .ok (.putfield 89, 3) := dX11_row_33g.2.2.2.2.2.2.2.2.1
theorem dX11_row_56 : decode cX11_row 56 = .ok (.aload_n 0, 1) := dX11_row_33g.2.2.2.2.2.2.2.2.2
theorem dX11_row_57g : (decode cX11_row 57 = .ok (.iload_n 2, 1)) ∧ (decode cX11_row 58 = .ok (.putfield 96, 3)) ∧ (decode cX11_row 61 = .ok (.aload_n 0, 1)) ∧ (decode cX11_row 62 = .ok (.invokevirtual 191, 3)) ∧ (decode cX11_row 65 = .ok (.aload_n 0, 1)) ∧ (decode cX11_row 66 = .ok (.iload_n 1, 1)) ∧ (decode cX11_row 67 = .ok (.invokevirtual 127, 3)) ∧ (decode cX11_row 70 = .ok (.ireturn, 1)) := by decide +kernel
theorem dX11_row_57 : decode cX11_row 57 = .ok (.iload_n 2, 1) := dX11_row_57g.1
theorem dX11_row_58 : decode cX11_row 58 = .ok (.putfield 96, 3) := dX11_row_57g.2.1
theorem dX11_row_61 : decode cX11_row 61 = .ok (.aload_n 0, 1) := dX11_row_57g.2.2.1
theorem dX11_row_62 : decode cX11_row 62 = .ok (.invokevirtual 191, 3) := dX11_row_57g.2.2.2.1
theorem dX11_row_65 : decode cX11_row 65 = .ok (.aload_n 0, 1) := dX11_row_57g.2.2.2.2.1
theorem dX11_row_66 : decode cX11_row 66 = .ok (.iload_n 1, 1) := dX11_row_57g.2.2.2.2.2.1
theorem dX11_row_67 : decode cX11_row 67 = .ok (.invokevirtual 127, 3) := dX11_row_57g.2.2.2.2.2.2.1
theorem dX11_row_70 : decode cX11_row 70 = .ok (.ireturn, 1) := dX11_row_57g.2.2.2.2.2.2.2
set_option maxHeartbeats 4000000 in
set_option maxRecDepth 100000 in
theorem c_X11_row (l : Launch) (E : Nat → Nat) (D : va_G) (G : th_G) (h0 n : Nat) (hG0 : G h0 = some (15, n)) : Met l yX11_row (tb (.code yX11_row cX11_row 4 (some .int))) (rm 7) (va_Pc [.ref h0] (th_P E D G)) (QI (eu E (1001 + 512 * h0) (0)) D G (fun r => True)) 0 0 (th_A G) := by
  refine Met.ofW (cc := cX11_row) (maxL := 4) (ret := (some .int)) (by decide) rfl ?_
  intro p e s m args below meth c s₁ B hml hv
  obtain ⟨hav, hI, hN, hK⟩ := hv
  have hx := B.exec
  have hb := B.bytes
  have hr := B.returns
  have hts := atoms_spec (ws := tb (.code yX11_row cX11_row 4 (some .int))) B.pre
  have hown : s.vm.findClass RX11 = some m.cls := findClass_of_methodNamed B.named
  have hlocks := B.notSynchronized
  have hS : va_S (th_A G) s.heap s.heap [] := va_S.rf
  have hl := lv_entry ([.ref h0]) (n := 4) (Nat.le_of_ble_eq_true rfl)
  rw [show entryFrame m args 4 = entryFrame m ([.ref h0] : List Value).toArray 4 from by rw [hav], lg_entry_eq]
  generalize (lg_sl ([.ref h0]) ++ List.replicate (4 - (lg_sl ([.ref h0])).length) Slot.unset).toArray = ls at hl ⊢
  have hl : lv_has ls 4 [(0, .ref h0)] := hl
  generalize hR : (headSpec (tb (.code yX11_row cX11_row 4 (some .int))) (rm 7)).room = R
  have hR := hR.symm
  generalize hQ : MQ below (QI (eu E (1001 + 512 * h0) (0)) D G (fun r => True)) args s 0 0 (th_A G) = QF
  have hQ := hQ.symm
  have J_20 : ∀ (nn : Nat) (H : Heap) (locs : List Loc) (ls : Array Slot) (v4258 : Int32) (v4259 : Int32) (v4260 : Int32), (Int.toNat (403 - v4258.toInt) = nn) → lv_has ls 4 [(3, .int v4258), (2, .int v4259), (1, .int v4260), (0, .ref h0)] → ((0 : Int) ≤ v4258.toInt ∧ v4258.toInt ≤ 403) → th_I (okC E) D G [] H → va_S (th_A G) s.heap H locs → W p l e R s m args below meth c H locs 0 0 QF (F0 m 20 ls []) := by
    intro nn
    induction nn using Nat.strongRecOn with
    | ind nn ih_20 =>
      intro H locs ls v4258 v4259 v4260 hm hl k4261 hI hS
      refine lv_iload_n hx hb dX11_row_20 rfl (lv_at hl 0 rfl) ?_
      refine lv_aload_n hx hb dX11_row_21 rfl (lv_at hl 3 rfl) ?_
      obtain ⟨a4262, a4265, a4267, a4269, a4271, a4273, a4275, a4277, a4279, a4281, a4283, w4285, w4288, w4289, w4290, w4291, hO, hq4263, hq4264, hq4266, hq4268, hq4270, hq4272, hq4274, hq4276, hq4278, hq4280, hq4282, hq4284, ⟨k4286, k4287⟩, k4292⟩ := op_15 hI hG0 List.not_mem_nil
      have hI := th_I.weak (a := h0) hI
      have k4293 : w4285.toInt = ((E (1001 + 512 * h0) : Nat) : Int) := k4292.2.1
      have k4294 : w4288.toInt = ((E (1002 + 512 * h0) : Nat) : Int) - 1 := k4292.2.2.1
      refine th_get hx hb hts inT11 hown hK hO rfl 12 (by decide) (hts _ (tb_c wd_357)) rfl rfl dX11_row_22 ?_
      refine lv_icmp_ge (tgt := 51) hx hb dX11_row_25 (by decide) (fun c4295 => ?_) (fun c4295 => ?_)
      · skip
        have k4296 := iv_le (X := w4285.toInt) (Y := v4258.toInt) rfl rfl c4295
        refine lv_aload_n hx hb dX11_row_51 rfl (lv_at hl 3 rfl) ?_
        refine lv_iconst (v := 0) hx hb dX11_row_52 (by decide) ?_
        refine th_put (ty := .int) hx hb hts inT11 tyX11 tyX11_ok nmX11 hown hK hO hS ⟨_, hG0⟩ rfl 12 (by decide) (hts _ (tb_c wd_357)) rfl rfl (by decide +kernel) rfl rfl (Nat.le_of_ble_eq_true rfl) dX11_row_53 (fun H locs hO oq hS => ?_)
        have hI := th_I.moved hI oq
        have k4297 : (0 : Int32).toInt = 0 := by decide
        have hO : va_at D vwCl (h0, .inr (11, [.ref a4262, .ref n, .ref a4265, .ref a4267, .ref a4269, .ref a4271, .ref a4273, .ref a4275, .ref a4277, .ref a4279, .ref a4281, .ref a4283, .int 0, .int w4288, .int w4289, .int w4290, .int w4291])) H := hO
        obtain ⟨Eu4298, hEu4298⟩ : ∃ x : Nat → Nat, x = eu E (1001 + 512 * h0) ((0 : Int32).toInt.toNat) := ⟨_, rfl⟩
        have hI : th_I (okC Eu4298) D G [] H := by rw [hEu4298]; exact ea_close hI hG0 hO ⟨by omega, by omega⟩ (ok_15 hq4263 hq4264 hq4266 hq4268 hq4270 hq4272 hq4274 hq4276 hq4278 hq4280 hq4282 hq4284 ⟨by omega, by omega⟩ ⟨by rw [eu_ne (by omega)]; exact k4292.1, by show (0 : Int32).toInt = ((eu E (1001 + 512 * h0) ((0 : Int32).toInt.toNat) (1001 + 512 * h0) : Nat) : Int); rw [eu_at]; omega, by show _ = ((eu E (1001 + 512 * h0) ((0 : Int32).toInt.toNat) (1002 + 512 * h0) : Nat) : Int) - 1; rw [eu_ne (by omega)]; exact k4292.2.2.1, by rw [eu_ne (by omega)]; exact k4292.2.2.2.1, by rw [eu_ne (by omega)]; exact k4292.2.2.2.2⟩)
        have hK : va_K D vwCl (th_tys Eu4298) s := by rw [hEu4298, tys_eu (by omega)]; exact hK
        have zEu4298 : Eu4298 (1001 + 512 * h0) = ((0 : Int32).toInt.toNat) := by rw [hEu4298]; exact eu_at
        have k4299 : Eu4298 (1002 + 512 * h0) = E (1002 + 512 * h0) := by rw [hEu4298, eu_ne (by omega)]
        refine lv_aload_n hx hb dX11_row_56 rfl (lv_at hl 3 rfl) ?_
        refine lv_iload_n hx hb dX11_row_57 rfl (lv_at hl 1 rfl) ?_
        obtain ⟨a4300, a4303, a4305, a4307, a4309, a4311, a4313, a4315, a4317, a4319, a4321, w4323, w4326, w4327, w4328, w4329, hO, hq4301, hq4302, hq4304, hq4306, hq4308, hq4310, hq4312, hq4314, hq4316, hq4318, hq4320, hq4322, ⟨k4324, k4325⟩, k4330⟩ := op_15 hI hG0 List.not_mem_nil
        have hI := th_I.weak (a := h0) hI
        have k4331 : w4323.toInt = ((Eu4298 (1001 + 512 * h0) : Nat) : Int) := k4330.2.1
        have k4332 : w4326.toInt = ((Eu4298 (1002 + 512 * h0) : Nat) : Int) - 1 := k4330.2.2.1
        refine th_put (ty := .int) hx hb hts inT11 tyX11 tyX11_ok nmX11 hown hK hO hS ⟨_, hG0⟩ rfl 14 (by decide) (hts _ (tb_c wd_359)) rfl rfl (by decide +kernel) rfl rfl (Nat.le_of_ble_eq_true rfl) dX11_row_58 (fun H locs hO oq hS => ?_)
        have hI := th_I.moved hI oq
        have hO : va_at D vwCl (h0, .inr (11, [.ref a4300, .ref n, .ref a4303, .ref a4305, .ref a4307, .ref a4309, .ref a4311, .ref a4313, .ref a4315, .ref a4317, .ref a4319, .ref a4321, .int w4323, .int w4326, .int v4259, .int w4328, .int w4329])) H := hO
        refine lv_aload_n hx hb dX11_row_61 rfl (lv_at hl 3 rfl) ?_
        have hI := th_I.close hI hG0 hO (ok_15 hq4301 hq4302 hq4304 hq4306 hq4308 hq4310 hq4312 hq4314 hq4316 hq4318 hq4320 hq4322 ⟨by omega, by omega⟩ k4330)
        refine th_cVv (As := []) (rest := []) (n := 0) (d := 1) ⟨hx, hb, hml, hown, hts⟩ (c_X11_turnLists l Eu4298 D G h0 (n) hG0 ) wd_431 wd_433 wp_2 wd_1 wd_434 (by decide +kernel) ⟨by rw [hR]; exact Nat.le_of_ble_eq_true rfl, by rw [hR]; exact Nat.le_of_ble_eq_true rfl⟩ hI hN hK hS (rc_15 hI hG0 List.not_mem_nil) rfl rfl hl.1 rfl (Nat.le_of_ble_eq_true rfl) dX11_row_62 ⟨Nat.zero_le _, Nat.zero_le _⟩ (fun H locs hI hS => ?_)
        refine lv_aload_n hx hb dX11_row_65 rfl (lv_at hl 3 rfl) ?_
        refine lv_iload_n hx hb dX11_row_66 rfl (lv_at hl 2 rfl) ?_
        refine th_cVi (As := [.int v4260]) (rest := []) (n := 1) (d := 0) ⟨hx, hb, hml, hown, hts⟩ (c_X11_accept l Eu4298 D G h0 (n) hG0 v4260) wd_447 wd_449 wp_3 wd_1 wd_450 (by decide +kernel) ⟨by rw [hR]; exact Nat.le_of_ble_eq_true rfl, by rw [hR]; exact Nat.le_of_ble_eq_true rfl⟩ hI hN hK hS (rc_15 hI hG0 List.not_mem_nil) rfl rfl hl.1 rfl (Nat.le_of_ble_eq_true rfl) dX11_row_67 ⟨Nat.zero_le _, Nat.zero_le _⟩ (fun r4334 H locs hp hI hS => ?_)
        have hp := hp.symm
        subst hp
        have hEt : eu E (1001 + 512 * h0) (0) = Eu4298 := (congrArg (fun z => eu E (1001 + 512 * h0) z) (show 0 = _ from by first | rfl | decide)).trans hEu4298.symm
        rw [← hEt] at hI hK
        have hpost : True := trivial
        rw [hQ]
        exact W.iret (v := v4260) hx hb hr (fun t ht hW => ⟨⟨v4260, (), rfl, hpost, by rw [ht]; exact hI, hN.warm hW, va_K.moved hW.alike hK⟩, hS.F ht⟩) hS.2.2 dX11_row_70
      · skip
        have k4335 := iv_nle (X := w4285.toInt) (Y := v4258.toInt) rfl rfl c4295
        refine lv_aload_n hx hb dX11_row_28 rfl (lv_at hl 3 rfl) ?_
        refine lv_iload_n hx hb dX11_row_29 rfl (lv_at hl 0 rfl) ?_
        have hI := th_I.close hI hG0 hO (ok_15 hq4263 hq4264 hq4266 hq4268 hq4270 hq4272 hq4274 hq4276 hq4278 hq4280 hq4282 hq4284 ⟨by omega, by omega⟩ k4292)
        refine th_cVi (As := [.int v4258]) (rest := []) (n := 1) (d := 6) ⟨hx, hb, hml, hown, hts⟩ (c_X11_pourFromTape l E D G h0 (n) hG0 v4258 ⟨by omega, by omega⟩) wd_613 wd_615 wp_9 wd_1 wd_616 (by decide +kernel) ⟨by rw [hR]; exact Nat.le_of_ble_eq_true rfl, by rw [hR]; exact Nat.le_of_ble_eq_true rfl⟩ hI hN hK hS (rc_15 hI hG0 List.not_mem_nil) rfl rfl hl.1 rfl (Nat.le_of_ble_eq_true rfl) dX11_row_30 ⟨Nat.zero_le _, Nat.zero_le _⟩ (fun r4336 H locs hp hI hS => ?_)
        have hp4337 := hp
        refine lv_if_eq (tgt := 42) hx hb dX11_row_33 (by decide) (fun c4338 => ?_) (fun c4338 => ?_)
        · skip
          have k4339 := iv_eq (X := r4336.toInt) (Y := (0)) rfl (by decide) c4338
          obtain ⟨v4340, e4341⟩ : ∃ y : Int32, y = v4259 + (1) := ⟨_, rfl⟩
          have k4342 := iv_lo v4259
          have k4343 := iv_hi v4259
          refine lv_iinc (v := v4340) (lv' := [(2, .int v4340), (3, .int v4258), (1, .int v4260), (0, .ref h0)]) hx hb dX11_row_42 hl (k := 1) rfl (by rw [e4341]; rfl) (by decide) rfl (fun ls hl => ?_)
          obtain ⟨v4344, e4345⟩ : ∃ y : Int32, y = v4258 + (4) := ⟨_, rfl⟩
          have tv4344 : v4344.toInt = v4258.toInt + (4) := iv_add rfl (by decide) e4345 (by omega) (by omega)
          refine lv_iinc (v := v4344) (lv' := [(3, .int v4344), (2, .int v4340), (1, .int v4260), (0, .ref h0)]) hx hb dX11_row_45 hl (k := 1) rfl (by rw [e4345]; rfl) (by decide) rfl (fun ls hl => ?_)
          refine lv_goto (tgt := 20) hx hb dX11_row_48 (by decide) ?_
          exact ih_20 _ (by omega) H locs ls v4344 v4340 v4260 rfl (lv_sub hl [0, 1, 2, 3] rfl) ⟨by omega, by omega⟩ hI hS
        · skip
          have k4346 := iv_ne (X := r4336.toInt) (Y := (0)) rfl (by decide) c4338
          obtain ⟨v4347, e4348⟩ : ∃ y : Int32, y = v4260 + (1) := ⟨_, rfl⟩
          have k4349 := iv_lo v4260
          have k4350 := iv_hi v4260
          refine lv_iinc (v := v4347) (lv' := [(1, .int v4347), (3, .int v4258), (2, .int v4259), (0, .ref h0)]) hx hb dX11_row_36 hl (k := 2) rfl (by rw [e4348]; rfl) (by decide) rfl (fun ls hl => ?_)
          refine lv_goto (tgt := 45) hx hb dX11_row_39 (by decide) ?_
          obtain ⟨v4351, e4352⟩ : ∃ y : Int32, y = v4258 + (4) := ⟨_, rfl⟩
          have tv4351 : v4351.toInt = v4258.toInt + (4) := iv_add rfl (by decide) e4352 (by omega) (by omega)
          refine lv_iinc (v := v4351) (lv' := [(3, .int v4351), (1, .int v4347), (2, .int v4259), (0, .ref h0)]) hx hb dX11_row_45 hl (k := 1) rfl (by rw [e4352]; rfl) (by decide) rfl (fun ls hl => ?_)
          refine lv_goto (tgt := 20) hx hb dX11_row_48 (by decide) ?_
          exact ih_20 _ (by omega) H locs ls v4351 v4259 v4347 rfl (lv_sub hl [0, 2, 1, 3] rfl) ⟨by omega, by omega⟩ hI hS
  refine lv_aload_n hx hb dX11_row_0 rfl (lv_at hl 0 rfl) ?_
  obtain ⟨a4353, a4356, a4358, a4360, a4362, a4364, a4366, a4368, a4370, a4372, a4374, w4376, w4379, w4380, w4381, w4382, hO, hq4354, hq4355, hq4357, hq4359, hq4361, hq4363, hq4365, hq4367, hq4369, hq4371, hq4373, hq4375, ⟨k4377, k4378⟩, k4383⟩ := op_15 hI hG0 List.not_mem_nil
  have hI := th_I.weak (a := h0) hI
  have k4384 : w4376.toInt = ((E (1001 + 512 * h0) : Nat) : Int) := k4383.2.1
  have k4385 : w4379.toInt = ((E (1002 + 512 * h0) : Nat) : Int) - 1 := k4383.2.2.1
  refine th_get hx hb hts inT11 hown hK hO rfl 12 (by decide) (hts _ (tb_c wd_357)) rfl rfl dX11_row_1 ?_
  refine lv_if_ne (tgt := 14) hx hb dX11_row_4 (by decide) (fun c4386 => ?_) (fun c4386 => ?_)
  · skip
    have k4387 := iv_ne (X := w4376.toInt) (Y := (0)) rfl (by decide) c4386
    refine lv_iconst (v := 0) hx hb dX11_row_14 (by decide) ?_
    refine lv_istore_n (lv' := [(1, .int 0), (0, .ref h0)]) hx hb dX11_row_15 rfl hl (by decide) rfl (fun ls hl => ?_)
    refine lv_iconst (v := 0) hx hb dX11_row_16 (by decide) ?_
    refine lv_istore_n (lv' := [(2, .int 0), (1, .int 0), (0, .ref h0)]) hx hb dX11_row_17 rfl hl (by decide) rfl (fun ls hl => ?_)
    refine lv_iconst (v := 0) hx hb dX11_row_18 (by decide) ?_
    refine lv_istore_n (lv' := [(3, .int 0), (2, .int 0), (1, .int 0), (0, .ref h0)]) hx hb dX11_row_19 rfl hl (by decide) rfl (fun ls hl => ?_)
    have hI := th_I.close hI hG0 hO (ok_15 hq4354 hq4355 hq4357 hq4359 hq4361 hq4363 hq4365 hq4367 hq4369 hq4371 hq4373 hq4375 ⟨by omega, by omega⟩ k4383)
    have zl : (0 : Int32).toInt = 0 := by decide
    exact J_20 _ s.heap [] ls 0 0 0 rfl (lv_sub hl [0, 1, 2, 3] rfl) ⟨by decide, by decide⟩ hI hS
  · skip
    have k4388 := iv_eq (X := w4376.toInt) (Y := (0)) rfl (by decide) c4386
    refine lv_aload_n hx hb dX11_row_7 rfl (lv_at hl 0 rfl) ?_
    refine lv_bipush (v := (-6)) hx hb dX11_row_8 (by decide) ?_
    have hI := th_I.close hI hG0 hO (ok_15 hq4354 hq4355 hq4357 hq4359 hq4361 hq4363 hq4365 hq4367 hq4369 hq4371 hq4373 hq4375 ⟨by omega, by omega⟩ k4383)
    refine th_cVi (As := [.int (-6)]) (rest := []) (n := 1) (d := 0) ⟨hx, hb, hml, hown, hts⟩ (c_X11_refuse l E D G h0 (n) hG0 (-6)) wd_407 wd_409 wp_0 wd_1 wd_410 (by decide +kernel) ⟨by rw [hR]; exact Nat.le_of_ble_eq_true rfl, by rw [hR]; exact Nat.le_of_ble_eq_true rfl⟩ hI hN hK hS (rc_15 hI hG0 List.not_mem_nil) rfl rfl hl.1 rfl (Nat.le_of_ble_eq_true rfl) dX11_row_10 ⟨Nat.zero_le _, Nat.zero_le _⟩ (fun r4389 H locs hp hI hS => ?_)
    have hp := hp.symm
    subst hp
    have hEt : eu E (1001 + 512 * h0) (0) = E := eu_id (by omega)
    have hI : th_I (okC (eu E (1001 + 512 * h0) (0))) D G [] H := by rw [hEt]; exact hI
    have hK : va_K D vwCl (th_tys (eu E (1001 + 512 * h0) (0))) s := by rw [hEt]; exact hK
    have hpost : True := trivial
    rw [hQ]
    exact W.iret (v := (-6)) hx hb hr (fun t ht hW => ⟨⟨(-6), (), rfl, hpost, by rw [ht]; exact hI, hN.warm hW, va_K.moved hW.alike hK⟩, hS.F ht⟩) hS.2.2 dX11_row_13
theorem dX11_suspects_0g : (decode cX11_suspects 0 = .ok (.iload_n 1, 1)) ∧ (decode cX11_suspects 1 = .ok (.invokestatic 269, 3)) ∧ (decode cX11_suspects 4 = .ok (.ifCond .eq 8, 3)) ∧ (decode cX11_suspects 7 = .ok (.iload_n 2, 1)) ∧ (decode cX11_suspects 8 = .ok (.iconst (-1), 1)) ∧ (decode cX11_suspects 9 = .ok (.if_icmp .ge 5, 3)) ∧ (decode cX11_suspects 12 = .ok (.iconst (-1), 1)) ∧ (decode cX11_suspects 13 = .ok (.ireturn, 1)) ∧ (decode cX11_suspects 14 = .ok (.iload_n 2, 1)) ∧ (decode cX11_suspects 15 = .ok (.iconst (-1), 1)) := by decide +kernel
theorem dX11_suspects_0 : decode cX11_suspects 0 = .ok (.iload_n 1, 1) := dX11_suspects_0g.1
theorem dX11_suspects_1 : decode cX11_suspects 1 = .ok (.invokestatic 269, 3) := dX11_suspects_0g.2.1
theorem dX11_suspects_4 : decode cX11_suspects 4 = .ok (.ifCond .eq 8, 3) := dX11_suspects_0g.2.2.1
theorem dX11_suspects_7 : decode cX11_suspects 7 = .ok (.iload_n 2, 1) := dX11_suspects_0g.2.2.2.1
theorem dX11_suspects_8 : decode cX11_suspects 8 = .ok (.iconst (-1), 1) := dX11_suspects_0g.2.2.2.2.1
theorem dX11_suspects_9 : decode cX11_suspects 9 = .ok (.if_icmp .ge 5, 3) := dX11_suspects_0g.2.2.2.2.2.1
theorem dX11_suspects_12 : decode cX11_suspects 12 = .ok (.iconst (-1), 1) := dX11_suspects_0g.2.2.2.2.2.2.1
theorem dX11_suspects_13 : decode cX11_suspects 13 = .ok (.ireturn, 1) := dX11_suspects_0g.2.2.2.2.2.2.2.1
theorem dX11_suspects_14 : decode cX11_suspects 14 = .ok (.iload_n 2, 1) := dX11_suspects_0g.2.2.2.2.2.2.2.2.1
theorem dX11_suspects_15 : decode cX11_suspects 15 = .ok (.iconst (-1), 1) := dX11_suspects_0g.2.2.2.2.2.2.2.2.2
theorem dX11_suspects_16g : (decode cX11_suspects 16 = .ok (.if_icmp .ne 14, 3)) ∧ (decode cX11_suspects 19 = .ok (.aload_n 0, 1)) ∧ (decode cX11_suspects 20 = .ok (.getfield 69, 3)) ∧ (decode cX11_suspects 23 = .ok (.iload_n 1, 1)) ∧ (decode cX11_suspects 24 = .ok (.invokevirtual 298, 3)) ∧ (decode cX11_suspects 27 = .ok (.goto 12, 3)) ∧ (decode cX11_suspects 30 = .ok (.aload_n 0, 1)) ∧ (decode cX11_suspects 31 = .ok (.getfield 69, 3)) ∧ (decode cX11_suspects 34 = .ok (.iload_n 1, 1)) ∧ (decode cX11_suspects 35 = .ok (.iload_n 2, 1)) := by decide +kernel
theorem dX11_suspects_16 : decode cX11_suspects 16 = .ok (.if_icmp .ne 14, 3) := dX11_suspects_16g.1
theorem dX11_suspects_19 : decode cX11_suspects 19 = .ok (.aload_n 0, 1) := dX11_suspects_16g.2.1
theorem dX11_suspects_20 : decode cX11_suspects 20 = .ok (.getfield 69, 3) := dX11_suspects_16g.2.2.1
theorem dX11_suspects_23 : decode cX11_suspects 23 = .ok (.iload_n 1, 1) := dX11_suspects_16g.2.2.2.1
theorem dX11_suspects_24 : decode cX11_suspects 24 = .ok (.invokevirtual 298, 3) := dX11_suspects_16g.2.2.2.2.1
theorem dX11_suspects_27 : decode cX11_suspects 27 = .ok (.goto 12, 3) := dX11_suspects_16g.2.2.2.2.2.1
theorem dX11_suspects_30 : decode cX11_suspects 30 = .ok (.aload_n 0, 1) := dX11_suspects_16g.2.2.2.2.2.2.1
theorem dX11_suspects_31 : decode cX11_suspects 31 = .ok (.getfield 69, 3) := dX11_suspects_16g.2.2.2.2.2.2.2.1
theorem dX11_suspects_34 : decode cX11_suspects 34 = .ok (.iload_n 1, 1) := dX11_suspects_16g.2.2.2.2.2.2.2.2.1
theorem dX11_suspects_35 : decode cX11_suspects 35 = .ok (.iload_n 2, 1) := dX11_suspects_16g.2.2.2.2.2.2.2.2.2
theorem dX11_suspects_36g : (decode cX11_suspects 36 = .ok (.invokevirtual 301, 3)) ∧ (decode cX11_suspects 39 = .ok (.ireturn, 1)) := by decide +kernel
theorem dX11_suspects_36 : decode cX11_suspects 36 = .ok (.invokevirtual 301, 3) := dX11_suspects_36g.1
theorem dX11_suspects_39 : decode cX11_suspects 39 = .ok (.ireturn, 1) := dX11_suspects_36g.2
set_option maxHeartbeats 4000000 in
set_option maxRecDepth 100000 in
theorem c_X11_suspects (l : Launch) (E : Nat → Nat) (D : va_G) (G : th_G) (h0 n : Nat) (hG0 : G h0 = some (15, n)) (x1 x2 : Int32) : Met l yX11_suspects (tb (.code yX11_suspects cX11_suspects 3 (some .int))) (rm 8) (va_Pc [.ref h0, .int x1, .int x2] (th_P E D G)) (QI E D G (fun r => True)) 0 0 (th_A G) := by
  refine Met.ofW (cc := cX11_suspects) (maxL := 3) (ret := (some .int)) (by decide) rfl ?_
  intro p e s m args below meth c s₁ B hml hv
  obtain ⟨hav, hI, hN, hK⟩ := hv
  have hx := B.exec
  have hb := B.bytes
  have hr := B.returns
  have hts := atoms_spec (ws := tb (.code yX11_suspects cX11_suspects 3 (some .int))) B.pre
  have hown : s.vm.findClass RX11 = some m.cls := findClass_of_methodNamed B.named
  have hlocks := B.notSynchronized
  have hS : va_S (th_A G) s.heap s.heap [] := va_S.rf
  have hl := lv_entry ([.ref h0, .int x1, .int x2]) (n := 3) (Nat.le_of_ble_eq_true rfl)
  rw [show entryFrame m args 3 = entryFrame m ([.ref h0, .int x1, .int x2] : List Value).toArray 3 from by rw [hav], lg_entry_eq]
  generalize (lg_sl ([.ref h0, .int x1, .int x2]) ++ List.replicate (3 - (lg_sl ([.ref h0, .int x1, .int x2])).length) Slot.unset).toArray = ls at hl ⊢
  have hl : lv_has ls 3 [(0, .ref h0), (1, .int x1), (2, .int x2)] := hl
  generalize hR : (headSpec (tb (.code yX11_suspects cX11_suspects 3 (some .int))) (rm 8)).room = R
  have hR := hR.symm
  generalize hQ : MQ below (QI E D G (fun r => True)) args s 0 0 (th_A G) = QF
  have hQ := hQ.symm
  have J_12 : ∀ (H : Heap) (locs : List Loc) (ls : Array Slot) , lv_has ls 3 [(0, .ref h0), (1, .int x1), (2, .int x2)] → th_I (okC E) D G [] H → va_S (th_A G) s.heap H locs → W p l e R s m args below meth c H locs 0 0 QF (F0 m 12 ls []) := by
    intro H locs ls  hl  hI hS
    refine lv_iconst (v := (-1)) hx hb dX11_suspects_12 (by decide) ?_
    have hpost : True := trivial
    rw [hQ]
    exact W.iret (v := (-1)) hx hb hr (fun t ht hW => ⟨⟨(-1), (), rfl, hpost, by rw [ht]; exact hI, hN.warm hW, va_K.moved hW.alike hK⟩, hS.F ht⟩) hS.2.2 dX11_suspects_13
  refine lv_iload_n hx hb dX11_suspects_0 rfl (lv_at hl 1 rfl) ?_
  refine th_cSs (As := [.int x1]) (rest := []) (n := 1) (d := 0) ⟨hx, hb, hml, hown, hts⟩ (c_X11_isColour l s.heap x1) wd_620 wd_621 wd_1 wd_622 (by decide +kernel) ⟨by rw [hR]; exact Nat.le_of_ble_eq_true rfl, by rw [hR]; exact Nat.le_of_ble_eq_true rfl⟩ hN hS rfl hl.1 rfl (Nat.le_of_ble_eq_true rfl) dX11_suspects_1 ⟨Nat.zero_le _, Nat.zero_le _⟩ (fun r601 locs hp hS => ?_)
  rcases hp with ⟨rfl, hp⟩ | ⟨rfl, hp⟩
  · skip
    try simp only [rg, not_and, Int.not_le] at hp
    have hp602 := hp
    refine lv_if_eq (tgt := 12) hx hb dX11_suspects_4 (by decide) (fun c => absurd c (by decide)) (fun _ => ?_)
    refine lv_iload_n hx hb dX11_suspects_7 rfl (lv_at hl 2 rfl) ?_
    refine lv_iconst (v := (-1)) hx hb dX11_suspects_8 (by decide) ?_
    have k603 := iv_lo x2
    have k604 := iv_hi x2
    refine lv_icmp_ge (tgt := 14) hx hb dX11_suspects_9 (by decide) (fun c605 => ?_) (fun c605 => ?_)
    · skip
      have k606 := iv_le (X := (-1)) (Y := x2.toInt) (by decide) rfl c605
      refine lv_iload_n hx hb dX11_suspects_14 rfl (lv_at hl 2 rfl) ?_
      refine lv_iconst (v := (-1)) hx hb dX11_suspects_15 (by decide) ?_
      refine lv_icmp_ne (tgt := 30) hx hb dX11_suspects_16 (by decide) (fun c607 => ?_) (fun c607 => ?_)
      · skip
        have k608 := iv_ne (X := x2.toInt) (Y := (-1)) rfl (by decide) c607
        refine lv_aload_n hx hb dX11_suspects_30 rfl (lv_at hl 0 rfl) ?_
        obtain ⟨a609, a612, a614, a616, a618, a620, a622, a624, a626, a628, a630, w632, w635, w636, w637, w638, hO, hq610, hq611, hq613, hq615, hq617, hq619, hq621, hq623, hq625, hq627, hq629, hq631, ⟨k633, k634⟩, k639⟩ := op_15 hI hG0 List.not_mem_nil
        have hI := th_I.weak (a := h0) hI
        refine th_get hx hb hts inT11 hown hK hO rfl 9 (by decide) (hts _ (tb_c wd_354)) rfl rfl dX11_suspects_31 ?_
        refine lv_iload_n hx hb dX11_suspects_34 rfl (lv_at hl 1 rfl) ?_
        refine lv_iload_n hx hb dX11_suspects_35 rfl (lv_at hl 2 rfl) ?_
        have hI := th_I.close hI hG0 hO (ok_15 hq610 hq611 hq613 hq615 hq617 hq619 hq621 hq623 hq625 hq627 hq629 hq631 ⟨by omega, by omega⟩ k639)
        refine th_cVi (As := [.int x1, .int x2]) (rest := []) (n := 2) (d := 7) ⟨hx, hb, hml, hown, hts⟩ (c_X5_findAlone l E D G a626 hq627 x1 x2) wd_1016 wd_1017 wd_1018 wd_10 wd_1019 (by decide +kernel) ⟨by rw [hR]; exact Nat.le_of_ble_eq_true rfl, by rw [hR]; exact Nat.le_of_ble_eq_true rfl⟩ hI hN hK hS (rc_12 hI hq627 List.not_mem_nil) rfl rfl hl.1 rfl (Nat.le_of_ble_eq_true rfl) dX11_suspects_36 ⟨Nat.zero_le _, Nat.zero_le _⟩ (fun r640 H locs hp hI hS => ?_)
        have hpost : True := trivial
        rw [hQ]
        exact W.iret (v := r640) hx hb hr (fun t ht hW => ⟨⟨r640, (), rfl, hpost, by rw [ht]; exact hI, hN.warm hW, va_K.moved hW.alike hK⟩, hS.F ht⟩) hS.2.2 dX11_suspects_39
      · skip
        have k641 := iv_eq (X := x2.toInt) (Y := (-1)) rfl (by decide) c607
        refine lv_aload_n hx hb dX11_suspects_19 rfl (lv_at hl 0 rfl) ?_
        obtain ⟨a642, a645, a647, a649, a651, a653, a655, a657, a659, a661, a663, w665, w668, w669, w670, w671, hO, hq643, hq644, hq646, hq648, hq650, hq652, hq654, hq656, hq658, hq660, hq662, hq664, ⟨k666, k667⟩, k672⟩ := op_15 hI hG0 List.not_mem_nil
        have hI := th_I.weak (a := h0) hI
        refine th_get hx hb hts inT11 hown hK hO rfl 9 (by decide) (hts _ (tb_c wd_354)) rfl rfl dX11_suspects_20 ?_
        refine lv_iload_n hx hb dX11_suspects_23 rfl (lv_at hl 1 rfl) ?_
        have hI := th_I.close hI hG0 hO (ok_15 hq643 hq644 hq646 hq648 hq650 hq652 hq654 hq656 hq658 hq660 hq662 hq664 ⟨by omega, by omega⟩ k672)
        refine th_cVi (As := [.int x1]) (rest := []) (n := 1) (d := 7) ⟨hx, hb, hml, hown, hts⟩ (c_X5_countAlone l E D G a659 hq660 x1) wd_995 wd_996 wd_997 wd_10 wd_998 (by decide +kernel) ⟨by rw [hR]; exact Nat.le_of_ble_eq_true rfl, by rw [hR]; exact Nat.le_of_ble_eq_true rfl⟩ hI hN hK hS (rc_12 hI hq660 List.not_mem_nil) rfl rfl hl.1 rfl (Nat.le_of_ble_eq_true rfl) dX11_suspects_24 ⟨Nat.zero_le _, Nat.zero_le _⟩ (fun r673 H locs hp hI hS => ?_)
        refine lv_goto (tgt := 39) hx hb dX11_suspects_27 (by decide) ?_
        have hpost : True := trivial
        rw [hQ]
        exact W.iret (v := r673) hx hb hr (fun t ht hW => ⟨⟨r673, (), rfl, hpost, by rw [ht]; exact hI, hN.warm hW, va_K.moved hW.alike hK⟩, hS.F ht⟩) hS.2.2 dX11_suspects_39
    · skip
      have k674 := iv_nle (X := (-1)) (Y := x2.toInt) (by decide) rfl c605
      exact J_12 s.heap locs ls  (lv_sub hl [0, 1, 2] rfl)  hI hS
  · skip
    try simp only [rg, not_and, Int.not_le] at hp
    have hp675 := hp
    refine lv_if_eq (tgt := 12) hx hb dX11_suspects_4 (by decide) (fun _ => ?_) (fun c => absurd c (by decide))
    exact J_12 s.heap locs ls  (lv_sub hl [0, 1, 2] rfl)  hI hS
theorem dX11_job_0g : (decode cX11_job 0 = .ok (.iload_n 1, 1)) ∧ (decode cX11_job 1 = .ok (.invokestatic 106, 3)) ∧ (decode cX11_job 4 = .ok (.ifCond .eq 21, 3)) ∧ (decode cX11_job 7 = .ok (.iload_n 2, 1)) ∧ (decode cX11_job 8 = .ok (.iconst 1, 1)) ∧ (decode cX11_job 9 = .ok (.if_icmp .lt 16, 3)) ∧ (decode cX11_job 12 = .ok (.iload_n 2, 1)) ∧ (decode cX11_job 13 = .ok (.bipush 6, 2)) ∧ (decode cX11_job 15 = .ok (.if_icmp .gt 10, 3)) ∧ (decode cX11_job 18 = .ok (.iload_n 3, 1)) := by decide +kernel
theorem dX11_job_0 : decode cX11_job 0 = .ok (.iload_n 1, 1) := dX11_job_0g.1
theorem dX11_job_1 : decode cX11_job 1 = .ok (.invokestatic 106, 3) := dX11_job_0g.2.1
theorem dX11_job_4 : decode cX11_job 4 = .ok (.ifCond .eq 21, 3) := dX11_job_0g.2.2.1
theorem dX11_job_7 : decode cX11_job 7 = .ok (.iload_n 2, 1) := dX11_job_0g.2.2.2.1
theorem dX11_job_8 : decode cX11_job 8 = .ok (.iconst 1, 1) := dX11_job_0g.2.2.2.2.1
theorem dX11_job_9 : decode cX11_job 9 = .ok (.if_icmp .lt 16, 3) := dX11_job_0g.2.2.2.2.2.1
theorem dX11_job_12 : decode cX11_job 12 = .ok (.iload_n 2, 1) := dX11_job_0g.2.2.2.2.2.2.1
theorem dX11_job_13 : decode cX11_job 13 = .ok (.bipush 6, 2) := dX11_job_0g.2.2.2.2.2.2.2.1
theorem dX11_job_15 : decode cX11_job 15 = .ok (.if_icmp .gt 10, 3) := dX11_job_0g.2.2.2.2.2.2.2.2.1
theorem dX11_job_18 : decode cX11_job 18 = .ok (.iload_n 3, 1) := dX11_job_0g.2.2.2.2.2.2.2.2.2
theorem dX11_job_19g : (decode cX11_job 19 = .ok (.invokestatic 211, 3)) ∧ (decode cX11_job 22 = .ok (.ifCond .ne 9, 3)) ∧ (decode cX11_job 25 = .ok (.aload_n 0, 1)) ∧ (decode cX11_job 26 = .ok (.iconst (-1), 1)) ∧ (decode cX11_job 27 = .ok (.invokevirtual 113, 3)) ∧ (decode cX11_job 30 = .ok (.ireturn, 1)) ∧ (decode cX11_job 31 = .ok (.aload_n 0, 1)) ∧ (decode cX11_job 32 = .ok (.getfield 12, 3)) ∧ (decode cX11_job 35 = .ok (.getfield 307, 3)) ∧ (decode cX11_job 38 = .ok (.invokevirtual 149, 3)) := by decide +kernel
theorem dX11_job_19 : decode cX11_job 19 = .ok (.invokestatic 211, 3) := dX11_job_19g.1
theorem dX11_job_22 : decode cX11_job 22 = .ok (.ifCond .ne 9, 3) := dX11_job_19g.2.1
theorem dX11_job_25 : decode cX11_job 25 = .ok (.aload_n 0, 1) := dX11_job_19g.2.2.1
theorem dX11_job_26 : decode cX11_job 26 = .ok (.iconst (-1), 1) := dX11_job_19g.2.2.2.1
theorem dX11_job_27 : decode cX11_job 27 = .ok (.invokevirtual 113, 3) := dX11_job_19g.2.2.2.2.1
theorem dX11_job_30 : decode cX11_job 30 = .ok (.ireturn, 1) := dX11_job_19g.2.2.2.2.2.1
theorem dX11_job_31 : decode cX11_job 31 = .ok (.aload_n 0, 1) := dX11_job_19g.2.2.2.2.2.2.1
theorem dX11_job_32 : decode cX11_job 32 = .ok (.getfield 12, 3) := dX11_job_19g.2.2.2.2.2.2.2.1
theorem dX11_job_35 : decode cX11_job 35 = .ok (.getfield 307, 3) := dX11_job_19g.2.2.2.2.2.2.2.2.1
theorem dX11_job_38 : decode cX11_job 38 = .ok (.invokevirtual 149, 3) := dX11_job_19g.2.2.2.2.2.2.2.2.2
theorem dX11_job_41g : (decode cX11_job 41 = .ok (.ifCond .eq 10, 3)) ∧ (decode cX11_job 44 = .ok (.aload_n 0, 1)) ∧ (decode cX11_job 45 = .ok (.bipush (-5), 2)) ∧ (decode cX11_job 47 = .ok (.invokevirtual 113, 3)) ∧ (decode cX11_job 50 = .ok (.ireturn, 1)) ∧ (decode cX11_job 51 = .ok (.aload_n 0, 1)) ∧ (decode cX11_job 52 = .ok (.getfield 12, 3)) ∧ (decode cX11_job 55 = .ok (.getfield 307, 3)) ∧ (decode cX11_job 58 = .ok (.iload_n 1, 1)) ∧ (decode cX11_job 59 = .ok (.iload_n 2, 1)) := by decide +kernel
theorem dX11_job_41 : decode cX11_job 41 = .ok (.ifCond .eq 10, 3) := dX11_job_41g.1
theorem dX11_job_44 : decode cX11_job 44 = .ok (.aload_n 0, 1) := dX11_job_41g.2.1
theorem dX11_job_45 : decode cX11_job 45 = .ok (.bipush (-5), 2) := dX11_job_41g.2.2.1
theorem dX11_job_47 : decode cX11_job 47 = .ok (.invokevirtual 113, 3) := dX11_job_41g.2.2.2.1
theorem dX11_job_50 : decode cX11_job 50 = .ok (.ireturn, 1) := dX11_job_41g.2.2.2.2.1
theorem dX11_job_51 : decode cX11_job 51 = .ok (.aload_n 0, 1) := dX11_job_41g.2.2.2.2.2.1
theorem dX11_job_52 : decode cX11_job 52 = .ok (.getfield 12, 3) := dX11_job_41g.2.2.2.2.2.2.1
theorem dX11_job_55 : decode cX11_job 55 = .ok (.getfield 307, 3) := dX11_job_41g.2.2.2.2.2.2.2.1
theorem dX11_job_58 : decode cX11_job 58 = .ok (.iload_n 1, 1) := dX11_job_41g.2.2.2.2.2.2.2.2.1
theorem dX11_job_59 : decode cX11_job 59 = .ok (.iload_n 2, 1) := dX11_job_41g.2.2.2.2.2.2.2.2.2
theorem dX11_job_60g : (decode cX11_job 60 = .ok (.iload_n 3, 1)) ∧ (decode cX11_job 61 = .ok (.iconst 0, 1)) ∧ (decode cX11_job 62 = .ok (.invokevirtual 155, 3)) ∧ (decode cX11_job 65 = .ok (.pop, 1)) ∧ (decode cX11_job 66 = .ok (.aload_n 0, 1)) ∧ (decode cX11_job 67 = .ok (.invokevirtual 191, 3)) ∧ (decode cX11_job 70 = .ok (.aload_n 0, 1)) ∧ (decode cX11_job 71 = .ok (.aload_n 0, 1)) ∧ (decode cX11_job 72 = .ok (.getfield 12, 3)) ∧ (decode cX11_job 75 = .ok (.getfield 307, 3)) := by decide +kernel
theorem dX11_job_60 : decode cX11_job 60 = .ok (.iload_n 3, 1) := dX11_job_60g.1
theorem dX11_job_61 : decode cX11_job 61 = .ok (.iconst 0, 1) := dX11_job_60g.2.1
theorem dX11_job_62 : decode cX11_job 62 = .ok (.invokevirtual 155, 3) := dX11_job_60g.2.2.1
theorem dX11_job_65 : decode cX11_job 65 = .ok (.pop, 1) := dX11_job_60g.2.2.2.1
theorem dX11_job_66 : decode cX11_job 66 = .ok (.aload_n 0, 1) := dX11_job_60g.2.2.2.2.1
theorem dX11_job_67 : decode cX11_job 67 = .ok (.invokevirtual 191, 3) := dX11_job_60g.2.2.2.2.2.1
theorem dX11_job_70 : decode cX11_job 70 = .ok (.aload_n 0, 1) := dX11_job_60g.2.2.2.2.2.2.1
theorem dX11_job_71 : decode cX11_job 71 = .ok (.aload_n 0, 1) := dX11_job_60g.2.2.2.2.2.2.2.1
theorem dX11_job_72 : decode cX11_job 72 = .ok (.getfield 12, 3) := dX11_job_60g.2.2.2.2.2.2.2.2.1
theorem dX11_job_75 : decode cX11_job 75 = .ok (.getfield 307, 3) := dX11_job_60g.2.2.2.2.2.2.2.2.2
theorem dX11_job_78g : (decode cX11_job 78 = .ok (.invokevirtual 166, 3)) ∧ (decode cX11_job 81 = .ok (.invokevirtual 127, 3)) ∧ (decode cX11_job 84 = .ok (.ireturn, 1)) := by decide +kernel
theorem dX11_job_78 : decode cX11_job 78 = .ok (.invokevirtual 166, 3) := dX11_job_78g.1
theorem dX11_job_81 : decode cX11_job 81 = .ok (.invokevirtual 127, 3) := dX11_job_78g.2.1
theorem dX11_job_84 : decode cX11_job 84 = .ok (.ireturn, 1) := dX11_job_78g.2.2
set_option maxHeartbeats 4000000 in
set_option maxRecDepth 100000 in
theorem c_X11_job (l : Launch) (E : Nat → Nat) (D : va_G) (G : th_G) (h0 n : Nat) (hG0 : G h0 = some (15, n)) (x1 x2 x3 : Int32) : Met l yX11_job (tb (.code yX11_job cX11_job 4 (some .int))) (rm 2) (va_Pc [.ref h0, .int x1, .int x2, .int x3] (th_P E D G)) (QI E D G (fun r => True)) 0 0 (th_A G) := by
  refine Met.ofW (cc := cX11_job) (maxL := 4) (ret := (some .int)) (by decide) rfl ?_
  intro p e s m args below meth c s₁ B hml hv
  obtain ⟨hav, hI, hN, hK⟩ := hv
  have hx := B.exec
  have hb := B.bytes
  have hr := B.returns
  have hts := atoms_spec (ws := tb (.code yX11_job cX11_job 4 (some .int))) B.pre
  have hown : s.vm.findClass RX11 = some m.cls := findClass_of_methodNamed B.named
  have hlocks := B.notSynchronized
  have hS : va_S (th_A G) s.heap s.heap [] := va_S.rf
  have hl := lv_entry ([.ref h0, .int x1, .int x2, .int x3]) (n := 4) (Nat.le_of_ble_eq_true rfl)
  rw [show entryFrame m args 4 = entryFrame m ([.ref h0, .int x1, .int x2, .int x3] : List Value).toArray 4 from by rw [hav], lg_entry_eq]
  generalize (lg_sl ([.ref h0, .int x1, .int x2, .int x3]) ++ List.replicate (4 - (lg_sl ([.ref h0, .int x1, .int x2, .int x3])).length) Slot.unset).toArray = ls at hl ⊢
  have hl : lv_has ls 4 [(0, .ref h0), (1, .int x1), (2, .int x2), (3, .int x3)] := hl
  generalize hR : (headSpec (tb (.code yX11_job cX11_job 4 (some .int))) (rm 2)).room = R
  have hR := hR.symm
  generalize hQ : MQ below (QI E D G (fun r => True)) args s 0 0 (th_A G) = QF
  have hQ := hQ.symm
  have J_25 : ∀ (H : Heap) (locs : List Loc) (ls : Array Slot) , lv_has ls 4 [(0, .ref h0), (1, .int x1), (2, .int x2), (3, .int x3)] → th_I (okC E) D G [] H → va_S (th_A G) s.heap H locs → W p l e R s m args below meth c H locs 0 0 QF (F0 m 25 ls []) := by
    intro H locs ls  hl  hI hS
    refine lv_aload_n hx hb dX11_job_25 rfl (lv_at hl 0 rfl) ?_
    refine lv_iconst (v := (-1)) hx hb dX11_job_26 (by decide) ?_
    refine th_cVi (As := [.int (-1)]) (rest := []) (n := 1) (d := 0) ⟨hx, hb, hml, hown, hts⟩ (c_X11_refuse l E D G h0 (n) hG0 (-1)) wd_407 wd_409 wp_0 wd_1 wd_410 (by decide +kernel) ⟨by rw [hR]; exact Nat.le_of_ble_eq_true rfl, by rw [hR]; exact Nat.le_of_ble_eq_true rfl⟩ hI hN hK hS (rc_15 hI hG0 List.not_mem_nil) rfl rfl hl.1 rfl (Nat.le_of_ble_eq_true rfl) dX11_job_27 ⟨Nat.zero_le _, Nat.zero_le _⟩ (fun r1688 H locs hp hI hS => ?_)
    have hp := hp.symm
    subst hp
    have hpost : True := trivial
    rw [hQ]
    exact W.iret (v := (-1)) hx hb hr (fun t ht hW => ⟨⟨(-1), (), rfl, hpost, by rw [ht]; exact hI, hN.warm hW, va_K.moved hW.alike hK⟩, hS.F ht⟩) hS.2.2 dX11_job_30
  refine lv_iload_n hx hb dX11_job_0 rfl (lv_at hl 1 rfl) ?_
  refine th_cSs (As := [.int x1]) (rest := []) (n := 1) (d := 0) ⟨hx, hb, hml, hown, hts⟩ (c_X11_isCell l s.heap x1) wd_401 wd_402 wd_1 wd_403 (by decide +kernel) ⟨by rw [hR]; exact Nat.le_of_ble_eq_true rfl, by rw [hR]; exact Nat.le_of_ble_eq_true rfl⟩ hN hS rfl hl.1 rfl (Nat.le_of_ble_eq_true rfl) dX11_job_1 ⟨Nat.zero_le _, Nat.zero_le _⟩ (fun r1689 locs hp hS => ?_)
  rcases hp with ⟨rfl, hp⟩ | ⟨rfl, hp⟩
  · skip
    try simp only [rg, not_and, Int.not_le] at hp
    have hp1690 := hp
    refine lv_if_eq (tgt := 25) hx hb dX11_job_4 (by decide) (fun c => absurd c (by decide)) (fun _ => ?_)
    refine lv_iload_n hx hb dX11_job_7 rfl (lv_at hl 2 rfl) ?_
    refine lv_iconst (v := 1) hx hb dX11_job_8 (by decide) ?_
    have k1691 := iv_lo x2
    have k1692 := iv_hi x2
    refine lv_icmp_lt (tgt := 25) hx hb dX11_job_9 (by decide) (fun c1693 => ?_) (fun c1693 => ?_)
    · skip
      have k1694 := iv_lt (X := x2.toInt) (Y := (1)) rfl (by decide) c1693
      exact J_25 s.heap locs ls  (lv_sub hl [0, 1, 2, 3] rfl)  hI hS
    · skip
      have k1695 := iv_nlt (X := x2.toInt) (Y := (1)) rfl (by decide) c1693
      refine lv_iload_n hx hb dX11_job_12 rfl (lv_at hl 2 rfl) ?_
      refine lv_bipush (v := 6) hx hb dX11_job_13 (by decide) ?_
      refine lv_icmp_gt (tgt := 25) hx hb dX11_job_15 (by decide) (fun c1696 => ?_) (fun c1696 => ?_)
      · skip
        have k1697 := iv_lt (X := (6)) (Y := x2.toInt) (by decide) rfl c1696
        exact J_25 s.heap locs ls  (lv_sub hl [0, 1, 2, 3] rfl)  hI hS
      · skip
        have k1698 := iv_nlt (X := (6)) (Y := x2.toInt) (by decide) rfl c1696
        refine lv_iload_n hx hb dX11_job_18 rfl (lv_at hl 3 rfl) ?_
        refine th_cSs (As := [.int x3]) (rest := []) (n := 1) (d := 0) ⟨hx, hb, hml, hown, hts⟩ (c_X11_isHour l s.heap x3) wd_466 wd_467 wd_1 wd_468 (by decide +kernel) ⟨by rw [hR]; exact Nat.le_of_ble_eq_true rfl, by rw [hR]; exact Nat.le_of_ble_eq_true rfl⟩ hN hS rfl hl.1 rfl (Nat.le_of_ble_eq_true rfl) dX11_job_19 ⟨Nat.zero_le _, Nat.zero_le _⟩ (fun r1699 locs hp hS => ?_)
        rcases hp with ⟨rfl, hp⟩ | ⟨rfl, hp⟩
        · skip
          try simp only [rg, not_and, Int.not_le] at hp
          have hp1700 := hp
          refine lv_if_ne (tgt := 31) hx hb dX11_job_22 (by decide) (fun _ => ?_) (fun c => absurd c (by decide))
          refine lv_aload_n hx hb dX11_job_31 rfl (lv_at hl 0 rfl) ?_
          obtain ⟨a1701, a1704, a1706, a1708, a1710, a1712, a1714, a1716, a1718, a1720, a1722, w1724, w1727, w1728, w1729, w1730, hO, hq1702, hq1703, hq1705, hq1707, hq1709, hq1711, hq1713, hq1715, hq1717, hq1719, hq1721, hq1723, ⟨k1725, k1726⟩, k1731⟩ := op_15 hI hG0 List.not_mem_nil
          have hI := th_I.weak (a := h0) hI
          refine th_get hx hb hts inT11 hown hK hO rfl 0 (by decide) (hts _ (tb_c wd_345)) rfl rfl dX11_job_32 ?_
          have hI := th_I.close hI hG0 hO (ok_15 hq1702 hq1703 hq1705 hq1707 hq1709 hq1711 hq1713 hq1715 hq1717 hq1719 hq1721 hq1723 ⟨by omega, by omega⟩ k1731)
          obtain ⟨a1732, a1734, a1736, a1738, a1740, a1742, a1744, a1746, a1748, a1750, w1752, w1755, w1756, w1757, hO, hq1733, hq1735, hq1737, hq1739, hq1741, hq1743, hq1745, hq1747, hq1749, hq1751, ⟨k1753, k1754⟩, k1758⟩ := op_6 hI hq1702 List.not_mem_nil
          have hI := th_I.weak (a := a1701) hI
          refine th_getN hx hb hts inT6 hown hK hN hO rfl 7 (by decide) wn_77 rfl rfl dX11_job_35 ?_
          have hI := th_I.close hI hq1702 hO (ok_6 hq1733 hq1735 hq1737 hq1739 hq1741 hq1743 hq1745 hq1747 hq1749 hq1751 ⟨by omega, by omega⟩ k1758)
          obtain ⟨a1760, w1762, hO, hq1761, ⟨k1763, k1764⟩, k1765⟩ := op_4 hI hq1747 List.not_mem_nil
          have hI := th_I.weak (a := a1746) hI
          have k1766 : (nI 6).toInt = ((6 : Nat) : Int) := nI_toInt (by omega)
          refine th_cVs (As := []) (rest := []) (n := 0) (d := 0) ⟨hx, hb, hml, hown, hts⟩ (c_X4_isFull l E D s.heap a1746 6 a1760 w1762 hO (by omega) (by omega) (by omega)) wd_481 wd_482 wd_483 wd_3 wd_484 (by decide +kernel) ⟨by rw [hR]; exact Nat.le_of_ble_eq_true rfl, by rw [hR]; exact Nat.le_of_ble_eq_true rfl⟩ hN hK hS ⟨_, hO⟩ rfl rfl hl.1 rfl (Nat.le_of_ble_eq_true rfl) dX11_job_38 ⟨Nat.zero_le _, Nat.zero_le _⟩ (fun r1759 locs hp hS => ?_)
          rcases hp with ⟨rfl, hp⟩ | ⟨rfl, hp⟩
          · skip
            try simp only [rg, not_and, Int.not_le] at hp
            have hp1767 := hp
            refine lv_if_eq (tgt := 51) hx hb dX11_job_41 (by decide) (fun c => absurd c (by decide)) (fun _ => ?_)
            refine lv_aload_n hx hb dX11_job_44 rfl (lv_at hl 0 rfl) ?_
            refine lv_bipush (v := (-5)) hx hb dX11_job_45 (by decide) ?_
            have hI := th_I.close hI hq1747 hO (ok_4 hq1761 ⟨by omega, by omega⟩ (by omega))
            refine th_cVi (As := [.int (-5)]) (rest := []) (n := 1) (d := 0) ⟨hx, hb, hml, hown, hts⟩ (c_X11_refuse l E D G h0 (n) hG0 (-5)) wd_407 wd_409 wp_0 wd_1 wd_410 (by decide +kernel) ⟨by rw [hR]; exact Nat.le_of_ble_eq_true rfl, by rw [hR]; exact Nat.le_of_ble_eq_true rfl⟩ hI hN hK hS (rc_15 hI hG0 List.not_mem_nil) rfl rfl hl.1 rfl (Nat.le_of_ble_eq_true rfl) dX11_job_47 ⟨Nat.zero_le _, Nat.zero_le _⟩ (fun r1768 H locs hp hI hS => ?_)
            have hp := hp.symm
            subst hp
            have hpost : True := trivial
            rw [hQ]
            exact W.iret (v := (-5)) hx hb hr (fun t ht hW => ⟨⟨(-5), (), rfl, hpost, by rw [ht]; exact hI, hN.warm hW, va_K.moved hW.alike hK⟩, hS.F ht⟩) hS.2.2 dX11_job_50
          · skip
            have hp1769 := hp
            refine lv_if_eq (tgt := 51) hx hb dX11_job_41 (by decide) (fun _ => ?_) (fun c => absurd c (by decide))
            refine lv_aload_n hx hb dX11_job_51 rfl (lv_at hl 0 rfl) ?_
            have hI := th_I.close hI hq1747 hO (ok_4 hq1761 ⟨by omega, by omega⟩ (by omega))
            obtain ⟨a1770, a1773, a1775, a1777, a1779, a1781, a1783, a1785, a1787, a1789, a1791, w1793, w1796, w1797, w1798, w1799, hO, hq1771, hq1772, hq1774, hq1776, hq1778, hq1780, hq1782, hq1784, hq1786, hq1788, hq1790, hq1792, ⟨k1794, k1795⟩, k1800⟩ := op_15 hI hG0 List.not_mem_nil
            have hI := th_I.weak (a := h0) hI
            refine th_get hx hb hts inT11 hown hK hO rfl 0 (by decide) (hts _ (tb_c wd_345)) rfl rfl dX11_job_52 ?_
            have hI := th_I.close hI hG0 hO (ok_15 hq1771 hq1772 hq1774 hq1776 hq1778 hq1780 hq1782 hq1784 hq1786 hq1788 hq1790 hq1792 ⟨by omega, by omega⟩ k1800)
            obtain ⟨a1801, a1803, a1805, a1807, a1809, a1811, a1813, a1815, a1817, a1819, w1821, w1824, w1825, w1826, hO, hq1802, hq1804, hq1806, hq1808, hq1810, hq1812, hq1814, hq1816, hq1818, hq1820, ⟨k1822, k1823⟩, k1827⟩ := op_6 hI hq1771 List.not_mem_nil
            have hI := th_I.weak (a := a1770) hI
            refine th_getN hx hb hts inT6 hown hK hN hO rfl 7 (by decide) wn_77 rfl rfl dX11_job_55 ?_
            refine lv_iload_n hx hb dX11_job_58 rfl (lv_at hl 1 rfl) ?_
            refine lv_iload_n hx hb dX11_job_59 rfl (lv_at hl 2 rfl) ?_
            refine lv_iload_n hx hb dX11_job_60 rfl (lv_at hl 3 rfl) ?_
            refine lv_iconst (v := 0) hx hb dX11_job_61 (by decide) ?_
            have hI := th_I.close hI hq1771 hO (ok_6 hq1802 hq1804 hq1806 hq1808 hq1810 hq1812 hq1814 hq1816 hq1818 hq1820 ⟨by omega, by omega⟩ k1827)
            refine th_cVi (As := [.int x1, .int x2, .int x3, .int 0]) (rest := []) (n := 4) (d := 1) ⟨hx, hb, hml, hown, hts⟩ (c_X4_put l E D G a1815 (6) hq1816 x1 x2 x3 0) wd_485 wd_486 wd_487 wd_3 wd_488 (by decide +kernel) ⟨by rw [hR]; exact Nat.le_of_ble_eq_true rfl, by rw [hR]; exact Nat.le_of_ble_eq_true rfl⟩ hI hN hK hS (rc_4 hI hq1816 List.not_mem_nil) rfl rfl hl.1 rfl (Nat.le_of_ble_eq_true rfl) dX11_job_62 ⟨Nat.zero_le _, Nat.zero_le _⟩ (fun r1828 H locs hp hI hS => ?_)
            refine lv_pop hx hb dX11_job_65 rfl ?_
            refine lv_aload_n hx hb dX11_job_66 rfl (lv_at hl 0 rfl) ?_
            refine th_cVv (As := []) (rest := []) (n := 0) (d := 1) ⟨hx, hb, hml, hown, hts⟩ (c_X11_turnLists l E D G h0 (n) hG0 ) wd_431 wd_433 wp_2 wd_1 wd_434 (by decide +kernel) ⟨by rw [hR]; exact Nat.le_of_ble_eq_true rfl, by rw [hR]; exact Nat.le_of_ble_eq_true rfl⟩ hI hN hK hS (rc_15 hI hG0 List.not_mem_nil) rfl rfl hl.1 rfl (Nat.le_of_ble_eq_true rfl) dX11_job_67 ⟨Nat.zero_le _, Nat.zero_le _⟩ (fun H locs hI hS => ?_)
            refine lv_aload_n hx hb dX11_job_70 rfl (lv_at hl 0 rfl) ?_
            refine lv_aload_n hx hb dX11_job_71 rfl (lv_at hl 0 rfl) ?_
            obtain ⟨a1830, a1833, a1835, a1837, a1839, a1841, a1843, a1845, a1847, a1849, a1851, w1853, w1856, w1857, w1858, w1859, hO, hq1831, hq1832, hq1834, hq1836, hq1838, hq1840, hq1842, hq1844, hq1846, hq1848, hq1850, hq1852, ⟨k1854, k1855⟩, k1860⟩ := op_15 hI hG0 List.not_mem_nil
            have hI := th_I.weak (a := h0) hI
            refine th_get hx hb hts inT11 hown hK hO rfl 0 (by decide) (hts _ (tb_c wd_345)) rfl rfl dX11_job_72 ?_
            have hI := th_I.close hI hG0 hO (ok_15 hq1831 hq1832 hq1834 hq1836 hq1838 hq1840 hq1842 hq1844 hq1846 hq1848 hq1850 hq1852 ⟨by omega, by omega⟩ k1860)
            obtain ⟨a1861, a1863, a1865, a1867, a1869, a1871, a1873, a1875, a1877, a1879, w1881, w1884, w1885, w1886, hO, hq1862, hq1864, hq1866, hq1868, hq1870, hq1872, hq1874, hq1876, hq1878, hq1880, ⟨k1882, k1883⟩, k1887⟩ := op_6 hI hq1831 List.not_mem_nil
            have hI := th_I.weak (a := a1830) hI
            refine th_getN hx hb hts inT6 hown hK hN hO rfl 7 (by decide) wn_77 rfl rfl dX11_job_75 ?_
            have hI := th_I.close hI hq1831 hO (ok_6 hq1862 hq1864 hq1866 hq1868 hq1870 hq1872 hq1874 hq1876 hq1878 hq1880 ⟨by omega, by omega⟩ k1887)
            obtain ⟨a1889, w1891, hO, hq1890, ⟨k1892, k1893⟩, k1894⟩ := op_4 hI hq1876 List.not_mem_nil
            have hI := th_I.weak (a := a1875) hI
            have k1895 : (nI 6).toInt = ((6 : Nat) : Int) := nI_toInt (by omega)
            refine th_cVs (As := []) (rest := [.ref h0]) (n := 0) (d := 0) ⟨hx, hb, hml, hown, hts⟩ (c_X4_size l E D H a1875 6 a1889 w1891 hO (by omega) (by omega) (by omega)) wd_506 wd_507 wd_508 wd_3 wd_509 (by decide +kernel) ⟨by rw [hR]; exact Nat.le_of_ble_eq_true rfl, by rw [hR]; exact Nat.le_of_ble_eq_true rfl⟩ hN hK hS ⟨_, hO⟩ rfl rfl hl.1 rfl (Nat.le_of_ble_eq_true rfl) dX11_job_78 ⟨Nat.zero_le _, Nat.zero_le _⟩ (fun r1888 locs hp hS => ?_)
            have hp := hp.symm
            subst hp
            have hI := th_I.close hI hq1876 hO (ok_4 hq1890 ⟨by omega, by omega⟩ (by omega))
            refine th_cVi (As := [.int w1891]) (rest := []) (n := 1) (d := 0) ⟨hx, hb, hml, hown, hts⟩ (c_X11_accept l E D G h0 (n) hG0 w1891) wd_447 wd_449 wp_3 wd_1 wd_450 (by decide +kernel) ⟨by rw [hR]; exact Nat.le_of_ble_eq_true rfl, by rw [hR]; exact Nat.le_of_ble_eq_true rfl⟩ hI hN hK hS (rc_15 hI hG0 List.not_mem_nil) rfl rfl hl.1 rfl (Nat.le_of_ble_eq_true rfl) dX11_job_81 ⟨Nat.zero_le _, Nat.zero_le _⟩ (fun r1896 H locs hp hI hS => ?_)
            have hp := hp.symm
            subst hp
            have hpost : True := trivial
            rw [hQ]
            exact W.iret (v := w1891) hx hb hr (fun t ht hW => ⟨⟨w1891, (), rfl, hpost, by rw [ht]; exact hI, hN.warm hW, va_K.moved hW.alike hK⟩, hS.F ht⟩) hS.2.2 dX11_job_84
        · skip
          try simp only [rg, not_and, Int.not_le] at hp
          have hp1897 := hp
          refine lv_if_ne (tgt := 31) hx hb dX11_job_22 (by decide) (fun c => absurd c (by decide)) (fun _ => ?_)
          exact J_25 s.heap locs ls  (lv_sub hl [0, 1, 2, 3] rfl)  hI hS
  · skip
    try simp only [rg, not_and, Int.not_le] at hp
    have hp1898 := hp
    refine lv_if_eq (tgt := 25) hx hb dX11_job_4 (by decide) (fun _ => ?_) (fun c => absurd c (by decide))
    exact J_25 s.heap locs ls  (lv_sub hl [0, 1, 2, 3] rfl)  hI hS
theorem dX11_hang_0g : (decode cX11_hang 0 = .ok (.aload_n 0, 1)) ∧ (decode cX11_hang 1 = .ok (.invokevirtual 191, 3)) ∧ (decode cX11_hang 4 = .ok (.aload_n 0, 1)) ∧ (decode cX11_hang 5 = .ok (.getfield 12, 3)) ∧ (decode cX11_hang 8 = .ok (.getfield 307, 3)) ∧ (decode cX11_hang 11 = .ok (.invokevirtual 295, 3)) ∧ (decode cX11_hang 14 = .ok (.ireturn, 1)) := by decide +kernel
theorem dX11_hang_0 : decode cX11_hang 0 = .ok (.aload_n 0, 1) := dX11_hang_0g.1
theorem dX11_hang_1 : decode cX11_hang 1 = .ok (.invokevirtual 191, 3) := dX11_hang_0g.2.1
theorem dX11_hang_4 : decode cX11_hang 4 = .ok (.aload_n 0, 1) := dX11_hang_0g.2.2.1
theorem dX11_hang_5 : decode cX11_hang 5 = .ok (.getfield 12, 3) := dX11_hang_0g.2.2.2.1
theorem dX11_hang_8 : decode cX11_hang 8 = .ok (.getfield 307, 3) := dX11_hang_0g.2.2.2.2.1
theorem dX11_hang_11 : decode cX11_hang 11 = .ok (.invokevirtual 295, 3) := dX11_hang_0g.2.2.2.2.2.1
theorem dX11_hang_14 : decode cX11_hang 14 = .ok (.ireturn, 1) := dX11_hang_0g.2.2.2.2.2.2
set_option maxHeartbeats 4000000 in
set_option maxRecDepth 100000 in
theorem c_X11_hang (l : Launch) (E : Nat → Nat) (D : va_G) (G : th_G) (h0 n : Nat) (hG0 : G h0 = some (15, n)) : Met l yX11_hang (tb (.code yX11_hang cX11_hang 1 (some .int))) (rm 2) (va_Pc [.ref h0] (th_P E D G)) (QI E D G (fun r => True)) 0 0 (th_A G) := by
  refine Met.ofW (cc := cX11_hang) (maxL := 1) (ret := (some .int)) (by decide) rfl ?_
  intro p e s m args below meth c s₁ B hml hv
  obtain ⟨hav, hI, hN, hK⟩ := hv
  have hx := B.exec
  have hb := B.bytes
  have hr := B.returns
  have hts := atoms_spec (ws := tb (.code yX11_hang cX11_hang 1 (some .int))) B.pre
  have hown : s.vm.findClass RX11 = some m.cls := findClass_of_methodNamed B.named
  have hlocks := B.notSynchronized
  have hS : va_S (th_A G) s.heap s.heap [] := va_S.rf
  have hl := lv_entry ([.ref h0]) (n := 1) (Nat.le_of_ble_eq_true rfl)
  rw [show entryFrame m args 1 = entryFrame m ([.ref h0] : List Value).toArray 1 from by rw [hav], lg_entry_eq]
  generalize (lg_sl ([.ref h0]) ++ List.replicate (1 - (lg_sl ([.ref h0])).length) Slot.unset).toArray = ls at hl ⊢
  have hl : lv_has ls 1 [(0, .ref h0)] := hl
  generalize hR : (headSpec (tb (.code yX11_hang cX11_hang 1 (some .int))) (rm 2)).room = R
  have hR := hR.symm
  generalize hQ : MQ below (QI E D G (fun r => True)) args s 0 0 (th_A G) = QF
  have hQ := hQ.symm
  refine lv_aload_n hx hb dX11_hang_0 rfl (lv_at hl 0 rfl) ?_
  refine th_cVv (As := []) (rest := []) (n := 0) (d := 1) ⟨hx, hb, hml, hown, hts⟩ (c_X11_turnLists l E D G h0 (n) hG0 ) wd_431 wd_433 wp_2 wd_1 wd_434 (by decide +kernel) ⟨by rw [hR]; exact Nat.le_of_ble_eq_true rfl, by rw [hR]; exact Nat.le_of_ble_eq_true rfl⟩ hI hN hK hS (rc_15 hI hG0 List.not_mem_nil) rfl rfl hl.1 rfl (Nat.le_of_ble_eq_true rfl) dX11_hang_1 ⟨Nat.zero_le _, Nat.zero_le _⟩ (fun H locs hI hS => ?_)
  refine lv_aload_n hx hb dX11_hang_4 rfl (lv_at hl 0 rfl) ?_
  obtain ⟨a2, a5, a7, a9, a11, a13, a15, a17, a19, a21, a23, w25, w28, w29, w30, w31, hO, hq3, hq4, hq6, hq8, hq10, hq12, hq14, hq16, hq18, hq20, hq22, hq24, ⟨k26, k27⟩, k32⟩ := op_15 hI hG0 List.not_mem_nil
  have hI := th_I.weak (a := h0) hI
  refine th_get hx hb hts inT11 hown hK hO rfl 0 (by decide) (hts _ (tb_c wd_345)) rfl rfl dX11_hang_5 ?_
  have hI := th_I.close hI hG0 hO (ok_15 hq3 hq4 hq6 hq8 hq10 hq12 hq14 hq16 hq18 hq20 hq22 hq24 ⟨by omega, by omega⟩ k32)
  obtain ⟨a33, a35, a37, a39, a41, a43, a45, a47, a49, a51, w53, w56, w57, w58, hO, hq34, hq36, hq38, hq40, hq42, hq44, hq46, hq48, hq50, hq52, ⟨k54, k55⟩, k59⟩ := op_6 hI hq3 List.not_mem_nil
  have hI := th_I.weak (a := a2) hI
  refine th_getN hx hb hts inT6 hown hK hN hO rfl 7 (by decide) wn_77 rfl rfl dX11_hang_8 ?_
  have hI := th_I.close hI hq3 hO (ok_6 hq34 hq36 hq38 hq40 hq42 hq44 hq46 hq48 hq50 hq52 ⟨by omega, by omega⟩ k59)
  refine th_cVi (As := []) (rest := []) (n := 0) (d := 0) ⟨hx, hb, hml, hown, hts⟩ (c_X4_clear l E D G a47 (6) hq48 ) wd_983 wd_984 wd_985 wd_3 wd_986 (by decide +kernel) ⟨by rw [hR]; exact Nat.le_of_ble_eq_true rfl, by rw [hR]; exact Nat.le_of_ble_eq_true rfl⟩ hI hN hK hS (rc_4 hI hq48 List.not_mem_nil) rfl rfl hl.1 rfl (Nat.le_of_ble_eq_true rfl) dX11_hang_11 ⟨Nat.zero_le _, Nat.zero_le _⟩ (fun r60 H locs hp hI hS => ?_)
  have hpost : True := trivial
  rw [hQ]
  exact W.iret (v := r60) hx hb hr (fun t ht hW => ⟨⟨r60, (), rfl, hpost, by rw [ht]; exact hI, hN.warm hW, va_K.moved hW.alike hK⟩, hS.F ht⟩) hS.2.2 dX11_hang_14
theorem dX11_lovers_0g : (decode cX11_lovers 0 = .ok (.iload_n 1, 1)) ∧ (decode cX11_lovers 1 = .ok (.invokestatic 106, 3)) ∧ (decode cX11_lovers 4 = .ok (.ifCond .eq 25, 3)) ∧ (decode cX11_lovers 7 = .ok (.iload_n 2, 1)) ∧ (decode cX11_lovers 8 = .ok (.invokestatic 106, 3)) ∧ (decode cX11_lovers 11 = .ok (.ifCond .eq 18, 3)) ∧ (decode cX11_lovers 14 = .ok (.iload_n 3, 1)) ∧ (decode cX11_lovers 15 = .ok (.invokestatic 226, 3)) ∧ (decode cX11_lovers 18 = .ok (.ifCond .eq 11, 3)) ∧ (decode cX11_lovers 21 = .ok (.iload 4, 2)) := by decide +kernel
theorem dX11_lovers_0 : decode cX11_lovers 0 = .ok (.iload_n 1, 1) := dX11_lovers_0g.1
theorem dX11_lovers_1 : decode cX11_lovers 1 = .ok (.invokestatic 106, 3) := dX11_lovers_0g.2.1
theorem dX11_lovers_4 : decode cX11_lovers 4 = .ok (.ifCond .eq 25, 3) := dX11_lovers_0g.2.2.1
theorem dX11_lovers_7 : decode cX11_lovers 7 = .ok (.iload_n 2, 1) := dX11_lovers_0g.2.2.2.1
theorem dX11_lovers_8 : decode cX11_lovers 8 = .ok (.invokestatic 106, 3) := dX11_lovers_0g.2.2.2.2.1
theorem dX11_lovers_11 : decode cX11_lovers 11 = .ok (.ifCond .eq 18, 3) := dX11_lovers_0g.2.2.2.2.2.1
theorem dX11_lovers_14 : decode cX11_lovers 14 = .ok (.iload_n 3, 1) := dX11_lovers_0g.2.2.2.2.2.2.1
theorem dX11_lovers_15 : decode cX11_lovers 15 = .ok (.invokestatic 226, 3) := dX11_lovers_0g.2.2.2.2.2.2.2.1
theorem dX11_lovers_18 : decode cX11_lovers 18 = .ok (.ifCond .eq 11, 3) := dX11_lovers_0g.2.2.2.2.2.2.2.2.1
theorem dX11_lovers_21 : decode cX11_lovers 21 = .ok (.iload 4, 2) := dX11_lovers_0g.2.2.2.2.2.2.2.2.2
theorem dX11_lovers_23g : (decode cX11_lovers 23 = .ok (.invokestatic 138, 3)) ∧ (decode cX11_lovers 26 = .ok (.ifCond .ne 5, 3)) ∧ (decode cX11_lovers 29 = .ok (.iconst (-1), 1)) ∧ (decode cX11_lovers 30 = .ok (.ireturn, 1)) ∧ (decode cX11_lovers 31 = .ok (.iload_n 1, 1)) ∧ (decode cX11_lovers 32 = .ok (.iload_n 2, 1)) ∧ (decode cX11_lovers 33 = .ok (.if_icmp .ne 7, 3)) ∧ (decode cX11_lovers 36 = .ok (.iload_n 3, 1)) ∧ (decode cX11_lovers 37 = .ok (.goto 15, 3)) ∧ (decode cX11_lovers 40 = .ok (.aload_n 0, 1)) := by decide +kernel
theorem dX11_lovers_23 : decode cX11_lovers 23 = .ok (.invokestatic 138, 3) := dX11_lovers_23g.1
theorem dX11_lovers_26 : decode cX11_lovers 26 = .ok (.ifCond .ne 5, 3) := dX11_lovers_23g.2.1
theorem dX11_lovers_29 : decode cX11_lovers 29 = .ok (.iconst (-1), 1) := dX11_lovers_23g.2.2.1
theorem dX11_lovers_30 : decode cX11_lovers 30 = .ok (.ireturn, 1) := dX11_lovers_23g.2.2.2.1
theorem dX11_lovers_31 : decode cX11_lovers 31 = .ok (.iload_n 1, 1) := dX11_lovers_23g.2.2.2.2.1
theorem dX11_lovers_32 : decode cX11_lovers 32 = .ok (.iload_n 2, 1) := dX11_lovers_23g.2.2.2.2.2.1
theorem dX11_lovers_33 : decode cX11_lovers 33 = .ok (.if_icmp .ne 7, 3) := dX11_lovers_23g.2.2.2.2.2.2.1
theorem dX11_lovers_36 : decode cX11_lovers 36 = .ok (.iload_n 3, 1) := dX11_lovers_23g.2.2.2.2.2.2.2.1
theorem dX11_lovers_37 : decode cX11_lovers 37 = .ok (.goto 15, 3) := dX11_lovers_23g.2.2.2.2.2.2.2.2.1
theorem dX11_lovers_40 : decode cX11_lovers 40 = .ok (.aload_n 0, 1) := dX11_lovers_23g.2.2.2.2.2.2.2.2.2
theorem dX11_lovers_41g : (decode cX11_lovers 41 = .ok (.getfield 78, 3)) ∧ (decode cX11_lovers 44 = .ok (.iload_n 1, 1)) ∧ (decode cX11_lovers 45 = .ok (.iload_n 2, 1)) ∧ (decode cX11_lovers 46 = .ok (.iload_n 3, 1)) ∧ (decode cX11_lovers 47 = .ok (.iload 4, 2)) ∧ (decode cX11_lovers 49 = .ok (.invokevirtual 313, 3)) ∧ (decode cX11_lovers 52 = .ok (.ireturn, 1)) := by decide +kernel
theorem dX11_lovers_41 : decode cX11_lovers 41 = .ok (.getfield 78, 3) := dX11_lovers_41g.1
theorem dX11_lovers_44 : decode cX11_lovers 44 = .ok (.iload_n 1, 1) := dX11_lovers_41g.2.1
theorem dX11_lovers_45 : decode cX11_lovers 45 = .ok (.iload_n 2, 1) := dX11_lovers_41g.2.2.1
theorem dX11_lovers_46 : decode cX11_lovers 46 = .ok (.iload_n 3, 1) := dX11_lovers_41g.2.2.2.1
theorem dX11_lovers_47 : decode cX11_lovers 47 = .ok (.iload 4, 2) := dX11_lovers_41g.2.2.2.2.1
theorem dX11_lovers_49 : decode cX11_lovers 49 = .ok (.invokevirtual 313, 3) := dX11_lovers_41g.2.2.2.2.2.1
theorem dX11_lovers_52 : decode cX11_lovers 52 = .ok (.ireturn, 1) := dX11_lovers_41g.2.2.2.2.2.2
set_option maxHeartbeats 4000000 in
set_option maxRecDepth 100000 in
theorem c_X11_lovers (l : Launch) (E : Nat → Nat) (D : va_G) (G : th_G) (h0 n : Nat) (hG0 : G h0 = some (15, n)) (x1 x2 x3 x4 : Int32) : Met l yX11_lovers (tb (.code yX11_lovers cX11_lovers 5 (some .int))) (rm 8) (va_Pc [.ref h0, .int x1, .int x2, .int x3, .int x4] (th_P E D G)) (QI E D G (fun r => True)) 0 0 (th_A G) := by
  refine Met.ofW (cc := cX11_lovers) (maxL := 5) (ret := (some .int)) (by decide) rfl ?_
  intro p e s m args below meth c s₁ B hml hv
  obtain ⟨hav, hI, hN, hK⟩ := hv
  have hx := B.exec
  have hb := B.bytes
  have hr := B.returns
  have hts := atoms_spec (ws := tb (.code yX11_lovers cX11_lovers 5 (some .int))) B.pre
  have hown : s.vm.findClass RX11 = some m.cls := findClass_of_methodNamed B.named
  have hlocks := B.notSynchronized
  have hS : va_S (th_A G) s.heap s.heap [] := va_S.rf
  have hl := lv_entry ([.ref h0, .int x1, .int x2, .int x3, .int x4]) (n := 5) (Nat.le_of_ble_eq_true rfl)
  rw [show entryFrame m args 5 = entryFrame m ([.ref h0, .int x1, .int x2, .int x3, .int x4] : List Value).toArray 5 from by rw [hav], lg_entry_eq]
  generalize (lg_sl ([.ref h0, .int x1, .int x2, .int x3, .int x4]) ++ List.replicate (5 - (lg_sl ([.ref h0, .int x1, .int x2, .int x3, .int x4])).length) Slot.unset).toArray = ls at hl ⊢
  have hl : lv_has ls 5 [(0, .ref h0), (1, .int x1), (2, .int x2), (3, .int x3), (4, .int x4)] := hl
  generalize hR : (headSpec (tb (.code yX11_lovers cX11_lovers 5 (some .int))) (rm 8)).room = R
  have hR := hR.symm
  generalize hQ : MQ below (QI E D G (fun r => True)) args s 0 0 (th_A G) = QF
  have hQ := hQ.symm
  have J_29 : ∀ (H : Heap) (locs : List Loc) (ls : Array Slot) , lv_has ls 5 [(0, .ref h0), (1, .int x1), (2, .int x2), (3, .int x3), (4, .int x4)] → th_I (okC E) D G [] H → va_S (th_A G) s.heap H locs → W p l e R s m args below meth c H locs 0 0 QF (F0 m 29 ls []) := by
    intro H locs ls  hl  hI hS
    refine lv_iconst (v := (-1)) hx hb dX11_lovers_29 (by decide) ?_
    have hpost : True := trivial
    rw [hQ]
    exact W.iret (v := (-1)) hx hb hr (fun t ht hW => ⟨⟨(-1), (), rfl, hpost, by rw [ht]; exact hI, hN.warm hW, va_K.moved hW.alike hK⟩, hS.F ht⟩) hS.2.2 dX11_lovers_30
  refine lv_iload_n hx hb dX11_lovers_0 rfl (lv_at hl 1 rfl) ?_
  refine th_cSs (As := [.int x1]) (rest := []) (n := 1) (d := 0) ⟨hx, hb, hml, hown, hts⟩ (c_X11_isCell l s.heap x1) wd_401 wd_402 wd_1 wd_403 (by decide +kernel) ⟨by rw [hR]; exact Nat.le_of_ble_eq_true rfl, by rw [hR]; exact Nat.le_of_ble_eq_true rfl⟩ hN hS rfl hl.1 rfl (Nat.le_of_ble_eq_true rfl) dX11_lovers_1 ⟨Nat.zero_le _, Nat.zero_le _⟩ (fun r377 locs hp hS => ?_)
  rcases hp with ⟨rfl, hp⟩ | ⟨rfl, hp⟩
  · skip
    try simp only [rg, not_and, Int.not_le] at hp
    have hp378 := hp
    refine lv_if_eq (tgt := 29) hx hb dX11_lovers_4 (by decide) (fun c => absurd c (by decide)) (fun _ => ?_)
    refine lv_iload_n hx hb dX11_lovers_7 rfl (lv_at hl 2 rfl) ?_
    refine th_cSs (As := [.int x2]) (rest := []) (n := 1) (d := 0) ⟨hx, hb, hml, hown, hts⟩ (c_X11_isCell l s.heap x2) wd_401 wd_402 wd_1 wd_403 (by decide +kernel) ⟨by rw [hR]; exact Nat.le_of_ble_eq_true rfl, by rw [hR]; exact Nat.le_of_ble_eq_true rfl⟩ hN hS rfl hl.1 rfl (Nat.le_of_ble_eq_true rfl) dX11_lovers_8 ⟨Nat.zero_le _, Nat.zero_le _⟩ (fun r379 locs hp hS => ?_)
    rcases hp with ⟨rfl, hp⟩ | ⟨rfl, hp⟩
    · skip
      try simp only [rg, not_and, Int.not_le] at hp
      have hp380 := hp
      refine lv_if_eq (tgt := 29) hx hb dX11_lovers_11 (by decide) (fun c => absurd c (by decide)) (fun _ => ?_)
      refine lv_iload_n hx hb dX11_lovers_14 rfl (lv_at hl 3 rfl) ?_
      refine th_cSs (As := [.int x3]) (rest := []) (n := 1) (d := 0) ⟨hx, hb, hml, hown, hts⟩ (c_X11_isMoment l s.heap x3) wd_826 wd_827 wd_1 wd_828 (by decide +kernel) ⟨by rw [hR]; exact Nat.le_of_ble_eq_true rfl, by rw [hR]; exact Nat.le_of_ble_eq_true rfl⟩ hN hS rfl hl.1 rfl (Nat.le_of_ble_eq_true rfl) dX11_lovers_15 ⟨Nat.zero_le _, Nat.zero_le _⟩ (fun r381 locs hp hS => ?_)
      rcases hp with ⟨rfl, hp⟩ | ⟨rfl, hp⟩
      · skip
        try simp only [rg, not_and, Int.not_le] at hp
        have hp382 := hp
        refine lv_if_eq (tgt := 29) hx hb dX11_lovers_18 (by decide) (fun c => absurd c (by decide)) (fun _ => ?_)
        refine lv_iload hx hb dX11_lovers_21 (lv_at hl 4 rfl) ?_
        refine th_cSs (As := [.int x4]) (rest := []) (n := 1) (d := 0) ⟨hx, hb, hml, hown, hts⟩ (c_X11_isFlag l s.heap x4) wd_469 wd_470 wd_1 wd_471 (by decide +kernel) ⟨by rw [hR]; exact Nat.le_of_ble_eq_true rfl, by rw [hR]; exact Nat.le_of_ble_eq_true rfl⟩ hN hS rfl hl.1 rfl (Nat.le_of_ble_eq_true rfl) dX11_lovers_23 ⟨Nat.zero_le _, Nat.zero_le _⟩ (fun r383 locs hp hS => ?_)
        rcases hp with ⟨rfl, hp⟩ | ⟨rfl, hp⟩
        · skip
          try simp only [rg, not_and, Int.not_le] at hp
          have hp384 := hp
          refine lv_if_ne (tgt := 31) hx hb dX11_lovers_26 (by decide) (fun _ => ?_) (fun c => absurd c (by decide))
          refine lv_iload_n hx hb dX11_lovers_31 rfl (lv_at hl 1 rfl) ?_
          refine lv_iload_n hx hb dX11_lovers_32 rfl (lv_at hl 2 rfl) ?_
          refine lv_icmp_ne (tgt := 40) hx hb dX11_lovers_33 (by decide) (fun c385 => ?_) (fun c385 => ?_)
          · skip
            have k386 := iv_ne (X := x1.toInt) (Y := x2.toInt) rfl rfl c385
            refine lv_aload_n hx hb dX11_lovers_40 rfl (lv_at hl 0 rfl) ?_
            obtain ⟨a387, a390, a392, a394, a396, a398, a400, a402, a404, a406, a408, w410, w413, w414, w415, w416, hO, hq388, hq389, hq391, hq393, hq395, hq397, hq399, hq401, hq403, hq405, hq407, hq409, ⟨k411, k412⟩, k417⟩ := op_15 hI hG0 List.not_mem_nil
            have hI := th_I.weak (a := h0) hI
            refine th_get hx hb hts inT11 hown hK hO rfl 10 (by decide) (hts _ (tb_c wd_355)) rfl rfl dX11_lovers_41 ?_
            refine lv_iload_n hx hb dX11_lovers_44 rfl (lv_at hl 1 rfl) ?_
            refine lv_iload_n hx hb dX11_lovers_45 rfl (lv_at hl 2 rfl) ?_
            refine lv_iload_n hx hb dX11_lovers_46 rfl (lv_at hl 3 rfl) ?_
            refine lv_iload hx hb dX11_lovers_47 (lv_at hl 4 rfl) ?_
            have hI := th_I.close hI hG0 hO (ok_15 hq388 hq389 hq391 hq393 hq395 hq397 hq399 hq401 hq403 hq405 hq407 hq409 ⟨by omega, by omega⟩ k417)
            refine th_cVi (As := [.int x1, .int x2, .int x3, .int x4]) (rest := []) (n := 4) (d := 7) ⟨hx, hb, hml, hown, hts⟩ (c_X8_answer l E D G a406 hq407 x1 x2 x3 x4 ⟨by omega, by omega⟩ ⟨by omega, by omega⟩) wd_1084 wd_1085 wd_1086 wd_11 wd_1087 (by decide +kernel) ⟨by rw [hR]; exact Nat.le_of_ble_eq_true rfl, by rw [hR]; exact Nat.le_of_ble_eq_true rfl⟩ hI hN hK hS (rc_13 hI hq407 List.not_mem_nil) rfl rfl hl.1 rfl (Nat.le_of_ble_eq_true rfl) dX11_lovers_49 ⟨Nat.zero_le _, Nat.zero_le _⟩ (fun r418 H locs hp hI hS => ?_)
            have hpost : True := trivial
            rw [hQ]
            exact W.iret (v := r418) hx hb hr (fun t ht hW => ⟨⟨r418, (), rfl, hpost, by rw [ht]; exact hI, hN.warm hW, va_K.moved hW.alike hK⟩, hS.F ht⟩) hS.2.2 dX11_lovers_52
          · skip
            have k419 := iv_eq (X := x1.toInt) (Y := x2.toInt) rfl rfl c385
            refine lv_iload_n hx hb dX11_lovers_36 rfl (lv_at hl 3 rfl) ?_
            refine lv_goto (tgt := 52) hx hb dX11_lovers_37 (by decide) ?_
            have hpost : True := trivial
            rw [hQ]
            exact W.iret (v := x3) hx hb hr (fun t ht hW => ⟨⟨x3, (), rfl, hpost, by rw [ht]; exact hI, hN.warm hW, va_K.moved hW.alike hK⟩, hS.F ht⟩) hS.2.2 dX11_lovers_52
        · skip
          try simp only [rg, not_and, Int.not_le] at hp
          have hp420 := hp
          refine lv_if_ne (tgt := 31) hx hb dX11_lovers_26 (by decide) (fun c => absurd c (by decide)) (fun _ => ?_)
          exact J_29 s.heap locs ls  (lv_sub hl [0, 1, 2, 3, 4] rfl)  hI hS
      · skip
        try simp only [rg, not_and, Int.not_le] at hp
        have hp421 := hp
        refine lv_if_eq (tgt := 29) hx hb dX11_lovers_18 (by decide) (fun _ => ?_) (fun c => absurd c (by decide))
        exact J_29 s.heap locs ls  (lv_sub hl [0, 1, 2, 3, 4] rfl)  hI hS
    · skip
      try simp only [rg, not_and, Int.not_le] at hp
      have hp422 := hp
      refine lv_if_eq (tgt := 29) hx hb dX11_lovers_11 (by decide) (fun _ => ?_) (fun c => absurd c (by decide))
      exact J_29 s.heap locs ls  (lv_sub hl [0, 1, 2, 3, 4] rfl)  hI hS
  · skip
    try simp only [rg, not_and, Int.not_le] at hp
    have hp423 := hp
    refine lv_if_eq (tgt := 29) hx hb dX11_lovers_4 (by decide) (fun _ => ?_) (fun c => absurd c (by decide))
    exact J_29 s.heap locs ls  (lv_sub hl [0, 1, 2, 3, 4] rfl)  hI hS
theorem dX11_duck_0g : (decode cX11_duck 0 = .ok (.iload_n 1, 1)) ∧ (decode cX11_duck 1 = .ok (.invokestatic 106, 3)) ∧ (decode cX11_duck 4 = .ok (.ifCond .eq 32, 3)) ∧ (decode cX11_duck 7 = .ok (.iload_n 2, 1)) ∧ (decode cX11_duck 8 = .ok (.ifCond .lt 28, 3)) ∧ (decode cX11_duck 11 = .ok (.iload_n 2, 1)) ∧ (decode cX11_duck 12 = .ok (.iconst 4, 1)) ∧ (decode cX11_duck 13 = .ok (.if_icmp .ge 23, 3)) ∧ (decode cX11_duck 16 = .ok (.iload_n 3, 1)) ∧ (decode cX11_duck 17 = .ok (.invokestatic 138, 3)) := by decide +kernel
theorem dX11_duck_0 : decode cX11_duck 0 = .ok (.iload_n 1, 1) := dX11_duck_0g.1
theorem dX11_duck_1 : decode cX11_duck 1 = .ok (.invokestatic 106, 3) := dX11_duck_0g.2.1
theorem dX11_duck_4 : decode cX11_duck 4 = .ok (.ifCond .eq 32, 3) := dX11_duck_0g.2.2.1
theorem dX11_duck_7 : decode cX11_duck 7 = .ok (.iload_n 2, 1) := dX11_duck_0g.2.2.2.1
theorem dX11_duck_8 : decode cX11_duck 8 = .ok (.ifCond .lt 28, 3) := dX11_duck_0g.2.2.2.2.1
theorem dX11_duck_11 : decode cX11_duck 11 = .ok (.iload_n 2, 1) := dX11_duck_0g.2.2.2.2.2.1
theorem dX11_duck_12 : decode cX11_duck 12 = .ok (.iconst 4, 1) := dX11_duck_0g.2.2.2.2.2.2.1
theorem dX11_duck_13 : decode cX11_duck 13 = .ok (.if_icmp .ge 23, 3) := dX11_duck_0g.2.2.2.2.2.2.2.1
theorem dX11_duck_16 : decode cX11_duck 16 = .ok (.iload_n 3, 1) := dX11_duck_0g.2.2.2.2.2.2.2.2.1
theorem dX11_duck_17 : decode cX11_duck 17 = .ok (.invokestatic 138, 3) := dX11_duck_0g.2.2.2.2.2.2.2.2.2
theorem dX11_duck_20g : (decode cX11_duck 20 = .ok (.ifCond .eq 16, 3)) ∧ (decode cX11_duck 23 = .ok (.aload_n 0, 1)) ∧ (decode cX11_duck 24 = .ok (.getfield 51, 3)) ∧ (decode cX11_duck 27 = .ok (.iload_n 1, 1)) ∧ (decode cX11_duck 28 = .ok (.iload_n 2, 1)) ∧ (decode cX11_duck 29 = .ok (.iload_n 3, 1)) ∧ (decode cX11_duck 30 = .ok (.invokevirtual 316, 3)) ∧ (decode cX11_duck 33 = .ok (.goto 4, 3)) ∧ (decode cX11_duck 36 = .ok (.iconst (-1), 1)) ∧ (decode cX11_duck 37 = .ok (.ireturn, 1)) := by decide +kernel
theorem dX11_duck_20 : decode cX11_duck 20 = .ok (.ifCond .eq 16, 3) := dX11_duck_20g.1
theorem dX11_duck_23 : decode cX11_duck 23 = .ok (.aload_n 0, 1) := dX11_duck_20g.2.1
theorem dX11_duck_24 : decode cX11_duck 24 = .ok (.getfield 51, 3) := dX11_duck_20g.2.2.1
theorem dX11_duck_27 : decode cX11_duck 27 = .ok (.iload_n 1, 1) := dX11_duck_20g.2.2.2.1
theorem dX11_duck_28 : decode cX11_duck 28 = .ok (.iload_n 2, 1) := dX11_duck_20g.2.2.2.2.1
theorem dX11_duck_29 : decode cX11_duck 29 = .ok (.iload_n 3, 1) := dX11_duck_20g.2.2.2.2.2.1
theorem dX11_duck_30 : decode cX11_duck 30 = .ok (.invokevirtual 316, 3) := dX11_duck_20g.2.2.2.2.2.2.1
theorem dX11_duck_33 : decode cX11_duck 33 = .ok (.goto 4, 3) := dX11_duck_20g.2.2.2.2.2.2.2.1
theorem dX11_duck_36 : decode cX11_duck 36 = .ok (.iconst (-1), 1) := dX11_duck_20g.2.2.2.2.2.2.2.2.1
theorem dX11_duck_37 : decode cX11_duck 37 = .ok (.ireturn, 1) := dX11_duck_20g.2.2.2.2.2.2.2.2.2
set_option maxHeartbeats 4000000 in
set_option maxRecDepth 100000 in
theorem c_X11_duck (l : Launch) (E : Nat → Nat) (D : va_G) (G : th_G) (h0 n : Nat) (hG0 : G h0 = some (15, n)) (x1 x2 x3 : Int32) : Met l yX11_duck (tb (.code yX11_duck cX11_duck 4 (some .int))) (rm 7) (va_Pc [.ref h0, .int x1, .int x2, .int x3] (th_P E D G)) (QI E D G (fun r => True)) 0 0 (th_A G) := by
  refine Met.ofW (cc := cX11_duck) (maxL := 4) (ret := (some .int)) (by decide) rfl ?_
  intro p e s m args below meth c s₁ B hml hv
  obtain ⟨hav, hI, hN, hK⟩ := hv
  have hx := B.exec
  have hb := B.bytes
  have hr := B.returns
  have hts := atoms_spec (ws := tb (.code yX11_duck cX11_duck 4 (some .int))) B.pre
  have hown : s.vm.findClass RX11 = some m.cls := findClass_of_methodNamed B.named
  have hlocks := B.notSynchronized
  have hS : va_S (th_A G) s.heap s.heap [] := va_S.rf
  have hl := lv_entry ([.ref h0, .int x1, .int x2, .int x3]) (n := 4) (Nat.le_of_ble_eq_true rfl)
  rw [show entryFrame m args 4 = entryFrame m ([.ref h0, .int x1, .int x2, .int x3] : List Value).toArray 4 from by rw [hav], lg_entry_eq]
  generalize (lg_sl ([.ref h0, .int x1, .int x2, .int x3]) ++ List.replicate (4 - (lg_sl ([.ref h0, .int x1, .int x2, .int x3])).length) Slot.unset).toArray = ls at hl ⊢
  have hl : lv_has ls 4 [(0, .ref h0), (1, .int x1), (2, .int x2), (3, .int x3)] := hl
  generalize hR : (headSpec (tb (.code yX11_duck cX11_duck 4 (some .int))) (rm 7)).room = R
  have hR := hR.symm
  generalize hQ : MQ below (QI E D G (fun r => True)) args s 0 0 (th_A G) = QF
  have hQ := hQ.symm
  refine lv_iload_n hx hb dX11_duck_0 rfl (lv_at hl 1 rfl) ?_
  refine th_cSs (As := [.int x1]) (rest := []) (n := 1) (d := 0) ⟨hx, hb, hml, hown, hts⟩ (c_X11_isCell l s.heap x1) wd_401 wd_402 wd_1 wd_403 (by decide +kernel) ⟨by rw [hR]; exact Nat.le_of_ble_eq_true rfl, by rw [hR]; exact Nat.le_of_ble_eq_true rfl⟩ hN hS rfl hl.1 rfl (Nat.le_of_ble_eq_true rfl) dX11_duck_1 ⟨Nat.zero_le _, Nat.zero_le _⟩ (fun r1 locs hp hS => ?_)
  rcases hp with ⟨rfl, hp⟩ | ⟨rfl, hp⟩
  · skip
    try simp only [rg, not_and, Int.not_le] at hp
    have hp2 := hp
    refine lv_if_eq (tgt := 36) hx hb dX11_duck_4 (by decide) (fun c => absurd c (by decide)) (fun _ => ?_)
    refine lv_iload_n hx hb dX11_duck_7 rfl (lv_at hl 2 rfl) ?_
    have k3 := iv_lo x2
    have k4 := iv_hi x2
    refine lv_if_lt (tgt := 36) hx hb dX11_duck_8 (by decide) (fun c5 => ?_) (fun c5 => ?_)
    · skip
      have k6 := iv_lt (X := x2.toInt) (Y := (0)) rfl (by decide) c5
      refine lv_iconst (v := (-1)) hx hb dX11_duck_36 (by decide) ?_
      have hpost : True := trivial
      rw [hQ]
      exact W.iret (v := (-1)) hx hb hr (fun t ht hW => ⟨⟨(-1), (), rfl, hpost, by rw [ht]; exact hI, hN.warm hW, va_K.moved hW.alike hK⟩, hS.F ht⟩) hS.2.2 dX11_duck_37
    · skip
      have k7 := iv_nlt (X := x2.toInt) (Y := (0)) rfl (by decide) c5
      refine lv_iload_n hx hb dX11_duck_11 rfl (lv_at hl 2 rfl) ?_
      refine lv_iconst (v := 4) hx hb dX11_duck_12 (by decide) ?_
      refine lv_icmp_ge (tgt := 36) hx hb dX11_duck_13 (by decide) (fun c8 => ?_) (fun c8 => ?_)
      · skip
        have k9 := iv_le (X := (4)) (Y := x2.toInt) (by decide) rfl c8
        refine lv_iconst (v := (-1)) hx hb dX11_duck_36 (by decide) ?_
        have hpost : True := trivial
        rw [hQ]
        exact W.iret (v := (-1)) hx hb hr (fun t ht hW => ⟨⟨(-1), (), rfl, hpost, by rw [ht]; exact hI, hN.warm hW, va_K.moved hW.alike hK⟩, hS.F ht⟩) hS.2.2 dX11_duck_37
      · skip
        have k10 := iv_nle (X := (4)) (Y := x2.toInt) (by decide) rfl c8
        refine lv_iload_n hx hb dX11_duck_16 rfl (lv_at hl 3 rfl) ?_
        refine th_cSs (As := [.int x3]) (rest := []) (n := 1) (d := 0) ⟨hx, hb, hml, hown, hts⟩ (c_X11_isFlag l s.heap x3) wd_469 wd_470 wd_1 wd_471 (by decide +kernel) ⟨by rw [hR]; exact Nat.le_of_ble_eq_true rfl, by rw [hR]; exact Nat.le_of_ble_eq_true rfl⟩ hN hS rfl hl.1 rfl (Nat.le_of_ble_eq_true rfl) dX11_duck_17 ⟨Nat.zero_le _, Nat.zero_le _⟩ (fun r11 locs hp hS => ?_)
        rcases hp with ⟨rfl, hp⟩ | ⟨rfl, hp⟩
        · skip
          try simp only [rg, not_and, Int.not_le] at hp
          have hp12 := hp
          refine lv_if_eq (tgt := 36) hx hb dX11_duck_20 (by decide) (fun c => absurd c (by decide)) (fun _ => ?_)
          refine lv_aload_n hx hb dX11_duck_23 rfl (lv_at hl 0 rfl) ?_
          obtain ⟨a13, a16, a18, a20, a22, a24, a26, a28, a30, a32, a34, w36, w39, w40, w41, w42, hO, hq14, hq15, hq17, hq19, hq21, hq23, hq25, hq27, hq29, hq31, hq33, hq35, ⟨k37, k38⟩, k43⟩ := op_15 hI hG0 List.not_mem_nil
          have hI := th_I.weak (a := h0) hI
          refine th_get hx hb hts inT11 hown hK hO rfl 7 (by decide) (hts _ (tb_c wd_352)) rfl rfl dX11_duck_24 ?_
          refine lv_iload_n hx hb dX11_duck_27 rfl (lv_at hl 1 rfl) ?_
          refine lv_iload_n hx hb dX11_duck_28 rfl (lv_at hl 2 rfl) ?_
          refine lv_iload_n hx hb dX11_duck_29 rfl (lv_at hl 3 rfl) ?_
          have hI := th_I.close hI hG0 hO (ok_15 hq14 hq15 hq17 hq19 hq21 hq23 hq25 hq27 hq29 hq31 hq33 hq35 ⟨by omega, by omega⟩ k43)
          refine th_cVi (As := [.int x1, .int x2, .int x3]) (rest := []) (n := 3) (d := 6) ⟨hx, hb, hml, hown, hts⟩ (c_X9_paddle l E D G a26 hq27 x1 x2 x3) wd_1098 wd_1099 wd_1100 wd_8 wd_1101 (by decide +kernel) ⟨by rw [hR]; exact Nat.le_of_ble_eq_true rfl, by rw [hR]; exact Nat.le_of_ble_eq_true rfl⟩ hI hN hK hS (rc_10 hI hq27 List.not_mem_nil) rfl rfl hl.1 rfl (Nat.le_of_ble_eq_true rfl) dX11_duck_30 ⟨Nat.zero_le _, Nat.zero_le _⟩ (fun r44 H locs hp hI hS => ?_)
          refine lv_goto (tgt := 37) hx hb dX11_duck_33 (by decide) ?_
          have hpost : True := trivial
          rw [hQ]
          exact W.iret (v := r44) hx hb hr (fun t ht hW => ⟨⟨r44, (), rfl, hpost, by rw [ht]; exact hI, hN.warm hW, va_K.moved hW.alike hK⟩, hS.F ht⟩) hS.2.2 dX11_duck_37
        · skip
          try simp only [rg, not_and, Int.not_le] at hp
          have hp45 := hp
          refine lv_if_eq (tgt := 36) hx hb dX11_duck_20 (by decide) (fun _ => ?_) (fun c => absurd c (by decide))
          refine lv_iconst (v := (-1)) hx hb dX11_duck_36 (by decide) ?_
          have hpost : True := trivial
          rw [hQ]
          exact W.iret (v := (-1)) hx hb hr (fun t ht hW => ⟨⟨(-1), (), rfl, hpost, by rw [ht]; exact hI, hN.warm hW, va_K.moved hW.alike hK⟩, hS.F ht⟩) hS.2.2 dX11_duck_37
  · skip
    try simp only [rg, not_and, Int.not_le] at hp
    have hp46 := hp
    refine lv_if_eq (tgt := 36) hx hb dX11_duck_4 (by decide) (fun _ => ?_) (fun c => absurd c (by decide))
    refine lv_iconst (v := (-1)) hx hb dX11_duck_36 (by decide) ?_
    have hpost : True := trivial
    rw [hQ]
    exact W.iret (v := (-1)) hx hb hr (fun t ht hW => ⟨⟨(-1), (), rfl, hpost, by rw [ht]; exact hI, hN.warm hW, va_K.moved hW.alike hK⟩, hS.F ht⟩) hS.2.2 dX11_duck_37
theorem dX11_matters_0g : (decode cX11_matters 0 = .ok (.iload_n 1, 1)) ∧ (decode cX11_matters 1 = .ok (.invokestatic 106, 3)) ∧ (decode cX11_matters 4 = .ok (.ifCond .eq 17, 3)) ∧ (decode cX11_matters 7 = .ok (.iload_n 2, 1)) ∧ (decode cX11_matters 8 = .ok (.iload_n 3, 1)) ∧ (decode cX11_matters 9 = .ok (.invokestatic 134, 3)) ∧ (decode cX11_matters 12 = .ok (.ifCond .eq 9, 3)) ∧ (decode cX11_matters 15 = .ok (.iload 4, 2)) ∧ (decode cX11_matters 17 = .ok (.iconst (-1), 1)) ∧ (decode cX11_matters 18 = .ok (.if_icmp .ge 5, 3)) := by decide +kernel
theorem dX11_matters_0 : decode cX11_matters 0 = .ok (.iload_n 1, 1) := dX11_matters_0g.1
theorem dX11_matters_1 : decode cX11_matters 1 = .ok (.invokestatic 106, 3) := dX11_matters_0g.2.1
theorem dX11_matters_4 : decode cX11_matters 4 = .ok (.ifCond .eq 17, 3) := dX11_matters_0g.2.2.1
theorem dX11_matters_7 : decode cX11_matters 7 = .ok (.iload_n 2, 1) := dX11_matters_0g.2.2.2.1
theorem dX11_matters_8 : decode cX11_matters 8 = .ok (.iload_n 3, 1) := dX11_matters_0g.2.2.2.2.1
theorem dX11_matters_9 : decode cX11_matters 9 = .ok (.invokestatic 134, 3) := dX11_matters_0g.2.2.2.2.2.1
theorem dX11_matters_12 : decode cX11_matters 12 = .ok (.ifCond .eq 9, 3) := dX11_matters_0g.2.2.2.2.2.2.1
theorem dX11_matters_15 : decode cX11_matters 15 = .ok (.iload 4, 2) := dX11_matters_0g.2.2.2.2.2.2.2.1
theorem dX11_matters_17 : decode cX11_matters 17 = .ok (.iconst (-1), 1) := dX11_matters_0g.2.2.2.2.2.2.2.2.1
theorem dX11_matters_18 : decode cX11_matters 18 = .ok (.if_icmp .ge 5, 3) := dX11_matters_0g.2.2.2.2.2.2.2.2.2
theorem dX11_matters_21g : (decode cX11_matters 21 = .ok (.iconst (-1), 1)) ∧ (decode cX11_matters 22 = .ok (.ireturn, 1)) ∧ (decode cX11_matters 23 = .ok (.aload_n 0, 1)) ∧ (decode cX11_matters 24 = .ok (.getfield 51, 3)) ∧ (decode cX11_matters 27 = .ok (.iload_n 1, 1)) ∧ (decode cX11_matters 28 = .ok (.iload_n 2, 1)) ∧ (decode cX11_matters 29 = .ok (.iload_n 3, 1)) ∧ (decode cX11_matters 30 = .ok (.iload 4, 2)) ∧ (decode cX11_matters 32 = .ok (.invokevirtual 319, 3)) ∧ (decode cX11_matters 35 = .ok (.ireturn, 1)) := by decide +kernel
theorem dX11_matters_21 : decode cX11_matters 21 = .ok (.iconst (-1), 1) := dX11_matters_21g.1
theorem dX11_matters_22 : decode cX11_matters 22 = .ok (.ireturn, 1) := dX11_matters_21g.2.1
theorem dX11_matters_23 : decode cX11_matters 23 = .ok (.aload_n 0, 1) := dX11_matters_21g.2.2.1
theorem dX11_matters_24 : decode cX11_matters 24 = .ok (.getfield 51, 3) := dX11_matters_21g.2.2.2.1
theorem dX11_matters_27 : decode cX11_matters 27 = .ok (.iload_n 1, 1) := dX11_matters_21g.2.2.2.2.1
theorem dX11_matters_28 : decode cX11_matters 28 = .ok (.iload_n 2, 1) := dX11_matters_21g.2.2.2.2.2.1
theorem dX11_matters_29 : decode cX11_matters 29 = .ok (.iload_n 3, 1) := dX11_matters_21g.2.2.2.2.2.2.1
theorem dX11_matters_30 : decode cX11_matters 30 = .ok (.iload 4, 2) := dX11_matters_21g.2.2.2.2.2.2.2.1
theorem dX11_matters_32 : decode cX11_matters 32 = .ok (.invokevirtual 319, 3) := dX11_matters_21g.2.2.2.2.2.2.2.2.1
theorem dX11_matters_35 : decode cX11_matters 35 = .ok (.ireturn, 1) := dX11_matters_21g.2.2.2.2.2.2.2.2.2
set_option maxHeartbeats 4000000 in
set_option maxRecDepth 100000 in
theorem c_X11_matters (l : Launch) (E : Nat → Nat) (D : va_G) (G : th_G) (h0 n : Nat) (hG0 : G h0 = some (15, n)) (x1 x2 x3 x4 : Int32) : Met l yX11_matters (tb (.code yX11_matters cX11_matters 5 (some .int))) (rm 7) (va_Pc [.ref h0, .int x1, .int x2, .int x3, .int x4] (th_P E D G)) (QI E D G (fun r => True)) 0 0 (th_A G) := by
  refine Met.ofW (cc := cX11_matters) (maxL := 5) (ret := (some .int)) (by decide) rfl ?_
  intro p e s m args below meth c s₁ B hml hv
  obtain ⟨hav, hI, hN, hK⟩ := hv
  have hx := B.exec
  have hb := B.bytes
  have hr := B.returns
  have hts := atoms_spec (ws := tb (.code yX11_matters cX11_matters 5 (some .int))) B.pre
  have hown : s.vm.findClass RX11 = some m.cls := findClass_of_methodNamed B.named
  have hlocks := B.notSynchronized
  have hS : va_S (th_A G) s.heap s.heap [] := va_S.rf
  have hl := lv_entry ([.ref h0, .int x1, .int x2, .int x3, .int x4]) (n := 5) (Nat.le_of_ble_eq_true rfl)
  rw [show entryFrame m args 5 = entryFrame m ([.ref h0, .int x1, .int x2, .int x3, .int x4] : List Value).toArray 5 from by rw [hav], lg_entry_eq]
  generalize (lg_sl ([.ref h0, .int x1, .int x2, .int x3, .int x4]) ++ List.replicate (5 - (lg_sl ([.ref h0, .int x1, .int x2, .int x3, .int x4])).length) Slot.unset).toArray = ls at hl ⊢
  have hl : lv_has ls 5 [(0, .ref h0), (1, .int x1), (2, .int x2), (3, .int x3), (4, .int x4)] := hl
  generalize hR : (headSpec (tb (.code yX11_matters cX11_matters 5 (some .int))) (rm 7)).room = R
  have hR := hR.symm
  generalize hQ : MQ below (QI E D G (fun r => True)) args s 0 0 (th_A G) = QF
  have hQ := hQ.symm
  have J_21 : ∀ (H : Heap) (locs : List Loc) (ls : Array Slot) , lv_has ls 5 [(0, .ref h0), (1, .int x1), (2, .int x2), (3, .int x3), (4, .int x4)] → th_I (okC E) D G [] H → va_S (th_A G) s.heap H locs → W p l e R s m args below meth c H locs 0 0 QF (F0 m 21 ls []) := by
    intro H locs ls  hl  hI hS
    refine lv_iconst (v := (-1)) hx hb dX11_matters_21 (by decide) ?_
    have hpost : True := trivial
    rw [hQ]
    exact W.iret (v := (-1)) hx hb hr (fun t ht hW => ⟨⟨(-1), (), rfl, hpost, by rw [ht]; exact hI, hN.warm hW, va_K.moved hW.alike hK⟩, hS.F ht⟩) hS.2.2 dX11_matters_22
  refine lv_iload_n hx hb dX11_matters_0 rfl (lv_at hl 1 rfl) ?_
  refine th_cSs (As := [.int x1]) (rest := []) (n := 1) (d := 0) ⟨hx, hb, hml, hown, hts⟩ (c_X11_isCell l s.heap x1) wd_401 wd_402 wd_1 wd_403 (by decide +kernel) ⟨by rw [hR]; exact Nat.le_of_ble_eq_true rfl, by rw [hR]; exact Nat.le_of_ble_eq_true rfl⟩ hN hS rfl hl.1 rfl (Nat.le_of_ble_eq_true rfl) dX11_matters_1 ⟨Nat.zero_le _, Nat.zero_le _⟩ (fun r345 locs hp hS => ?_)
  rcases hp with ⟨rfl, hp⟩ | ⟨rfl, hp⟩
  · skip
    try simp only [rg, not_and, Int.not_le] at hp
    have hp346 := hp
    refine lv_if_eq (tgt := 21) hx hb dX11_matters_4 (by decide) (fun c => absurd c (by decide)) (fun _ => ?_)
    refine lv_iload_n hx hb dX11_matters_7 rfl (lv_at hl 2 rfl) ?_
    refine lv_iload_n hx hb dX11_matters_8 rfl (lv_at hl 3 rfl) ?_
    refine th_cSs (As := [.int x2, .int x3]) (rest := []) (n := 2) (d := 1) ⟨hx, hb, hml, hown, hts⟩ (c_X11_isSpan l s.heap x2 x3) wd_463 wd_464 wd_1 wd_465 (by decide +kernel) ⟨by rw [hR]; exact Nat.le_of_ble_eq_true rfl, by rw [hR]; exact Nat.le_of_ble_eq_true rfl⟩ hN hS rfl hl.1 rfl (Nat.le_of_ble_eq_true rfl) dX11_matters_9 ⟨Nat.zero_le _, Nat.zero_le _⟩ (fun r347 locs hp hS => ?_)
    rcases hp with ⟨rfl, hp⟩ | ⟨rfl, hp⟩
    · skip
      try simp only [rg, not_and, Int.not_le] at hp
      have hp348 := hp
      refine lv_if_eq (tgt := 21) hx hb dX11_matters_12 (by decide) (fun c => absurd c (by decide)) (fun _ => ?_)
      refine lv_iload hx hb dX11_matters_15 (lv_at hl 4 rfl) ?_
      refine lv_iconst (v := (-1)) hx hb dX11_matters_17 (by decide) ?_
      have k349 := iv_lo x4
      have k350 := iv_hi x4
      refine lv_icmp_ge (tgt := 23) hx hb dX11_matters_18 (by decide) (fun c351 => ?_) (fun c351 => ?_)
      · skip
        have k352 := iv_le (X := (-1)) (Y := x4.toInt) (by decide) rfl c351
        refine lv_aload_n hx hb dX11_matters_23 rfl (lv_at hl 0 rfl) ?_
        obtain ⟨a353, a356, a358, a360, a362, a364, a366, a368, a370, a372, a374, w376, w379, w380, w381, w382, hO, hq354, hq355, hq357, hq359, hq361, hq363, hq365, hq367, hq369, hq371, hq373, hq375, ⟨k377, k378⟩, k383⟩ := op_15 hI hG0 List.not_mem_nil
        have hI := th_I.weak (a := h0) hI
        refine th_get hx hb hts inT11 hown hK hO rfl 7 (by decide) (hts _ (tb_c wd_352)) rfl rfl dX11_matters_24 ?_
        refine lv_iload_n hx hb dX11_matters_27 rfl (lv_at hl 1 rfl) ?_
        refine lv_iload_n hx hb dX11_matters_28 rfl (lv_at hl 2 rfl) ?_
        refine lv_iload_n hx hb dX11_matters_29 rfl (lv_at hl 3 rfl) ?_
        refine lv_iload hx hb dX11_matters_30 (lv_at hl 4 rfl) ?_
        have hI := th_I.close hI hG0 hO (ok_15 hq354 hq355 hq357 hq359 hq361 hq363 hq365 hq367 hq369 hq371 hq373 hq375 ⟨by omega, by omega⟩ k383)
        refine th_cVi (As := [.int x1, .int x2, .int x3, .int x4]) (rest := []) (n := 4) (d := 6) ⟨hx, hb, hml, hown, hts⟩ (c_X9_turningHours l E D G a366 hq367 x1 x2 x3 x4) wd_1109 wd_1110 wd_1111 wd_8 wd_1112 (by decide +kernel) ⟨by rw [hR]; exact Nat.le_of_ble_eq_true rfl, by rw [hR]; exact Nat.le_of_ble_eq_true rfl⟩ hI hN hK hS (rc_10 hI hq367 List.not_mem_nil) rfl rfl hl.1 rfl (Nat.le_of_ble_eq_true rfl) dX11_matters_32 ⟨Nat.zero_le _, Nat.zero_le _⟩ (fun r384 H locs hp hI hS => ?_)
        have hpost : True := trivial
        rw [hQ]
        exact W.iret (v := r384) hx hb hr (fun t ht hW => ⟨⟨r384, (), rfl, hpost, by rw [ht]; exact hI, hN.warm hW, va_K.moved hW.alike hK⟩, hS.F ht⟩) hS.2.2 dX11_matters_35
      · skip
        have k385 := iv_nle (X := (-1)) (Y := x4.toInt) (by decide) rfl c351
        exact J_21 s.heap locs ls  (lv_sub hl [0, 1, 2, 3, 4] rfl)  hI hS
    · skip
      try simp only [rg, not_and, Int.not_le] at hp
      have hp386 := hp
      refine lv_if_eq (tgt := 21) hx hb dX11_matters_12 (by decide) (fun _ => ?_) (fun c => absurd c (by decide))
      exact J_21 s.heap locs ls  (lv_sub hl [0, 1, 2, 3, 4] rfl)  hI hS
  · skip
    try simp only [rg, not_and, Int.not_le] at hp
    have hp387 := hp
    refine lv_if_eq (tgt := 21) hx hb dX11_matters_4 (by decide) (fun _ => ?_) (fun c => absurd c (by decide))
    exact J_21 s.heap locs ls  (lv_sub hl [0, 1, 2, 3, 4] rfl)  hI hS
theorem dX11_wish_0g : (decode cX11_wish 0 = .ok (.iload_n 1, 1)) ∧ (decode cX11_wish 1 = .ok (.invokestatic 106, 3)) ∧ (decode cX11_wish 4 = .ok (.ifCond .eq 19, 3)) ∧ (decode cX11_wish 7 = .ok (.iload_n 3, 1)) ∧ (decode cX11_wish 8 = .ok (.invokestatic 240, 3)) ∧ (decode cX11_wish 11 = .ok (.ifCond .eq 12, 3)) ∧ (decode cX11_wish 14 = .ok (.iload_n 2, 1)) ∧ (decode cX11_wish 15 = .ok (.iload 4, 2)) ∧ (decode cX11_wish 17 = .ok (.invokestatic 134, 3)) ∧ (decode cX11_wish 20 = .ok (.ifCond .ne 9, 3)) := by decide +kernel
theorem dX11_wish_0 : decode cX11_wish 0 = .ok (.iload_n 1, 1) := dX11_wish_0g.1
theorem dX11_wish_1 : decode cX11_wish 1 = .ok (.invokestatic 106, 3) := dX11_wish_0g.2.1
theorem dX11_wish_4 : decode cX11_wish 4 = .ok (.ifCond .eq 19, 3) := dX11_wish_0g.2.2.1
theorem dX11_wish_7 : decode cX11_wish 7 = .ok (.iload_n 3, 1) := dX11_wish_0g.2.2.2.1
theorem dX11_wish_8 : decode cX11_wish 8 = .ok (.invokestatic 240, 3) := dX11_wish_0g.2.2.2.2.1
theorem dX11_wish_11 : decode cX11_wish 11 = .ok (.ifCond .eq 12, 3) := dX11_wish_0g.2.2.2.2.2.1
theorem dX11_wish_14 : decode cX11_wish 14 = .ok (.iload_n 2, 1) := dX11_wish_0g.2.2.2.2.2.2.1
theorem dX11_wish_15 : decode cX11_wish 15 = .ok (.iload 4, 2) := dX11_wish_0g.2.2.2.2.2.2.2.1
theorem dX11_wish_17 : decode cX11_wish 17 = .ok (.invokestatic 134, 3) := dX11_wish_0g.2.2.2.2.2.2.2.2.1
theorem dX11_wish_20 : decode cX11_wish 20 = .ok (.ifCond .ne 9, 3) := dX11_wish_0g.2.2.2.2.2.2.2.2.2
theorem dX11_wish_23g : (decode cX11_wish 23 = .ok (.aload_n 0, 1)) ∧ (decode cX11_wish 24 = .ok (.iconst (-1), 1)) ∧ (decode cX11_wish 25 = .ok (.invokevirtual 113, 3)) ∧ (decode cX11_wish 28 = .ok (.ireturn, 1)) ∧ (decode cX11_wish 29 = .ok (.aload_n 0, 1)) ∧ (decode cX11_wish 30 = .ok (.getfield 12, 3)) ∧ (decode cX11_wish 33 = .ok (.getfield 322, 3)) ∧ (decode cX11_wish 36 = .ok (.invokevirtual 149, 3)) ∧ (decode cX11_wish 39 = .ok (.ifCond .eq 10, 3)) ∧ (decode cX11_wish 42 = .ok (.aload_n 0, 1)) := by decide +kernel
theorem dX11_wish_23 : decode cX11_wish 23 = .ok (.aload_n 0, 1) := dX11_wish_23g.1
theorem dX11_wish_24 : decode cX11_wish 24 = .ok (.iconst (-1), 1) := dX11_wish_23g.2.1
theorem dX11_wish_25 : decode cX11_wish 25 = .ok (.invokevirtual 113, 3) := dX11_wish_23g.2.2.1
theorem dX11_wish_28 : decode cX11_wish 28 = .ok (.ireturn, 1) := dX11_wish_23g.2.2.2.1
theorem dX11_wish_29 : decode cX11_wish 29 = .ok (.aload_n 0, 1) := dX11_wish_23g.2.2.2.2.1
theorem dX11_wish_30 : decode cX11_wish 30 = .ok (.getfield 12, 3) := dX11_wish_23g.2.2.2.2.2.1
theorem dX11_wish_33 : decode cX11_wish 33 = .ok (.getfield 322, 3) := dX11_wish_23g.2.2.2.2.2.2.1
theorem dX11_wish_36 : decode cX11_wish 36 = .ok (.invokevirtual 149, 3) := dX11_wish_23g.2.2.2.2.2.2.2.1
theorem dX11_wish_39 : decode cX11_wish 39 = .ok (.ifCond .eq 10, 3) := dX11_wish_23g.2.2.2.2.2.2.2.2.1
theorem dX11_wish_42 : decode cX11_wish 42 = .ok (.aload_n 0, 1) := dX11_wish_23g.2.2.2.2.2.2.2.2.2
theorem dX11_wish_43g : (decode cX11_wish 43 = .ok (.bipush (-5), 2)) ∧ (decode cX11_wish 45 = .ok (.invokevirtual 113, 3)) ∧ (decode cX11_wish 48 = .ok (.ireturn, 1)) ∧ (decode cX11_wish 49 = .ok (.aload_n 0, 1)) ∧ (decode cX11_wish 50 = .ok (.getfield 12, 3)) ∧ (decode cX11_wish 53 = .ok (.getfield 322, 3)) ∧ (decode cX11_wish 56 = .ok (.iload_n 1, 1)) ∧ (decode cX11_wish 57 = .ok (.iload_n 2, 1)) ∧ (decode cX11_wish 58 = .ok (.iload_n 3, 1)) ∧ (decode cX11_wish 59 = .ok (.iload 4, 2)) := by decide +kernel
theorem dX11_wish_43 : decode cX11_wish 43 = .ok (.bipush (-5), 2) := dX11_wish_43g.1
theorem dX11_wish_45 : decode cX11_wish 45 = .ok (.invokevirtual 113, 3) := dX11_wish_43g.2.1
theorem dX11_wish_48 : decode cX11_wish 48 = .ok (.ireturn, 1) := dX11_wish_43g.2.2.1
theorem dX11_wish_49 : decode cX11_wish 49 = .ok (.aload_n 0, 1) := dX11_wish_43g.2.2.2.1
theorem dX11_wish_50 : decode cX11_wish 50 = .ok (.getfield 12, 3) := dX11_wish_43g.2.2.2.2.1
theorem dX11_wish_53 : decode cX11_wish 53 = .ok (.getfield 322, 3) := dX11_wish_43g.2.2.2.2.2.1
theorem dX11_wish_56 : decode cX11_wish 56 = .ok (.iload_n 1, 1) := dX11_wish_43g.2.2.2.2.2.2.1
theorem dX11_wish_57 : decode cX11_wish 57 = .ok (.iload_n 2, 1) := dX11_wish_43g.2.2.2.2.2.2.2.1
theorem dX11_wish_58 : decode cX11_wish 58 = .ok (.iload_n 3, 1) := dX11_wish_43g.2.2.2.2.2.2.2.2.1
theorem dX11_wish_59 : decode cX11_wish 59 = .ok (.iload 4, 2) := dX11_wish_43g.2.2.2.2.2.2.2.2.2
theorem dX11_wish_61g : (decode cX11_wish 61 = .ok (.invokevirtual 155, 3)) ∧ (decode cX11_wish 64 = .ok (.pop, 1)) ∧ (decode cX11_wish 65 = .ok (.aload_n 0, 1)) ∧ (decode cX11_wish 66 = .ok (.invokevirtual 191, 3)) ∧ (decode cX11_wish 69 = .ok (.aload_n 0, 1)) ∧ (decode cX11_wish 70 = .ok (.aload_n 0, 1)) ∧ (decode cX11_wish 71 = .ok (.getfield 12, 3)) ∧ (decode cX11_wish 74 = .ok (.getfield 322, 3)) ∧ (decode cX11_wish 77 = .ok (.invokevirtual 166, 3)) ∧ (decode cX11_wish 80 = .ok (.invokevirtual 127, 3)) := by decide +kernel
theorem dX11_wish_61 : decode cX11_wish 61 = .ok (.invokevirtual 155, 3) := dX11_wish_61g.1
theorem dX11_wish_64 : decode cX11_wish 64 = .ok (.pop, 1) := dX11_wish_61g.2.1
theorem dX11_wish_65 : decode cX11_wish 65 = .ok (.aload_n 0, 1) := dX11_wish_61g.2.2.1
theorem dX11_wish_66 : decode cX11_wish 66 = .ok (.invokevirtual 191, 3) := dX11_wish_61g.2.2.2.1
theorem dX11_wish_69 : decode cX11_wish 69 = .ok (.aload_n 0, 1) := dX11_wish_61g.2.2.2.2.1
theorem dX11_wish_70 : decode cX11_wish 70 = .ok (.aload_n 0, 1) := dX11_wish_61g.2.2.2.2.2.1
theorem dX11_wish_71 : decode cX11_wish 71 = .ok (.getfield 12, 3) := dX11_wish_61g.2.2.2.2.2.2.1
theorem dX11_wish_74 : decode cX11_wish 74 = .ok (.getfield 322, 3) := dX11_wish_61g.2.2.2.2.2.2.2.1
theorem dX11_wish_77 : decode cX11_wish 77 = .ok (.invokevirtual 166, 3) := dX11_wish_61g.2.2.2.2.2.2.2.2.1
theorem dX11_wish_80 : decode cX11_wish 80 = .ok (.invokevirtual 127, 3) := dX11_wish_61g.2.2.2.2.2.2.2.2.2
theorem dX11_wish_83 : decode cX11_wish 83 = .ok (.ireturn, 1) := by decide +kernel
set_option maxHeartbeats 4000000 in
set_option maxRecDepth 100000 in
theorem c_X11_wish (l : Launch) (E : Nat → Nat) (D : va_G) (G : th_G) (h0 n : Nat) (hG0 : G h0 = some (15, n)) (x1 x2 x3 x4 : Int32) : Met l yX11_wish (tb (.code yX11_wish cX11_wish 5 (some .int))) (rm 2) (va_Pc [.ref h0, .int x1, .int x2, .int x3, .int x4] (th_P E D G)) (QI E D G (fun r => True)) 0 0 (th_A G) := by
  refine Met.ofW (cc := cX11_wish) (maxL := 5) (ret := (some .int)) (by decide) rfl ?_
  intro p e s m args below meth c s₁ B hml hv
  obtain ⟨hav, hI, hN, hK⟩ := hv
  have hx := B.exec
  have hb := B.bytes
  have hr := B.returns
  have hts := atoms_spec (ws := tb (.code yX11_wish cX11_wish 5 (some .int))) B.pre
  have hown : s.vm.findClass RX11 = some m.cls := findClass_of_methodNamed B.named
  have hlocks := B.notSynchronized
  have hS : va_S (th_A G) s.heap s.heap [] := va_S.rf
  have hl := lv_entry ([.ref h0, .int x1, .int x2, .int x3, .int x4]) (n := 5) (Nat.le_of_ble_eq_true rfl)
  rw [show entryFrame m args 5 = entryFrame m ([.ref h0, .int x1, .int x2, .int x3, .int x4] : List Value).toArray 5 from by rw [hav], lg_entry_eq]
  generalize (lg_sl ([.ref h0, .int x1, .int x2, .int x3, .int x4]) ++ List.replicate (5 - (lg_sl ([.ref h0, .int x1, .int x2, .int x3, .int x4])).length) Slot.unset).toArray = ls at hl ⊢
  have hl : lv_has ls 5 [(0, .ref h0), (1, .int x1), (2, .int x2), (3, .int x3), (4, .int x4)] := hl
  generalize hR : (headSpec (tb (.code yX11_wish cX11_wish 5 (some .int))) (rm 2)).room = R
  have hR := hR.symm
  generalize hQ : MQ below (QI E D G (fun r => True)) args s 0 0 (th_A G) = QF
  have hQ := hQ.symm
  have J_23 : ∀ (H : Heap) (locs : List Loc) (ls : Array Slot) , lv_has ls 5 [(0, .ref h0), (1, .int x1), (2, .int x2), (3, .int x3), (4, .int x4)] → th_I (okC E) D G [] H → va_S (th_A G) s.heap H locs → W p l e R s m args below meth c H locs 0 0 QF (F0 m 23 ls []) := by
    intro H locs ls  hl  hI hS
    refine lv_aload_n hx hb dX11_wish_23 rfl (lv_at hl 0 rfl) ?_
    refine lv_iconst (v := (-1)) hx hb dX11_wish_24 (by decide) ?_
    refine th_cVi (As := [.int (-1)]) (rest := []) (n := 1) (d := 0) ⟨hx, hb, hml, hown, hts⟩ (c_X11_refuse l E D G h0 (n) hG0 (-1)) wd_407 wd_409 wp_0 wd_1 wd_410 (by decide +kernel) ⟨by rw [hR]; exact Nat.le_of_ble_eq_true rfl, by rw [hR]; exact Nat.le_of_ble_eq_true rfl⟩ hI hN hK hS (rc_15 hI hG0 List.not_mem_nil) rfl rfl hl.1 rfl (Nat.le_of_ble_eq_true rfl) dX11_wish_25 ⟨Nat.zero_le _, Nat.zero_le _⟩ (fun r1648 H locs hp hI hS => ?_)
    have hp := hp.symm
    subst hp
    have hpost : True := trivial
    rw [hQ]
    exact W.iret (v := (-1)) hx hb hr (fun t ht hW => ⟨⟨(-1), (), rfl, hpost, by rw [ht]; exact hI, hN.warm hW, va_K.moved hW.alike hK⟩, hS.F ht⟩) hS.2.2 dX11_wish_28
  refine lv_iload_n hx hb dX11_wish_0 rfl (lv_at hl 1 rfl) ?_
  refine th_cSs (As := [.int x1]) (rest := []) (n := 1) (d := 0) ⟨hx, hb, hml, hown, hts⟩ (c_X11_isCell l s.heap x1) wd_401 wd_402 wd_1 wd_403 (by decide +kernel) ⟨by rw [hR]; exact Nat.le_of_ble_eq_true rfl, by rw [hR]; exact Nat.le_of_ble_eq_true rfl⟩ hN hS rfl hl.1 rfl (Nat.le_of_ble_eq_true rfl) dX11_wish_1 ⟨Nat.zero_le _, Nat.zero_le _⟩ (fun r1649 locs hp hS => ?_)
  rcases hp with ⟨rfl, hp⟩ | ⟨rfl, hp⟩
  · skip
    try simp only [rg, not_and, Int.not_le] at hp
    have hp1650 := hp
    refine lv_if_eq (tgt := 23) hx hb dX11_wish_4 (by decide) (fun c => absurd c (by decide)) (fun _ => ?_)
    refine lv_iload_n hx hb dX11_wish_7 rfl (lv_at hl 3 rfl) ?_
    refine th_cSs (As := [.int x3]) (rest := []) (n := 1) (d := 0) ⟨hx, hb, hml, hown, hts⟩ (c_X11_isPlace l s.heap x3) wd_847 wd_848 wd_1 wd_849 (by decide +kernel) ⟨by rw [hR]; exact Nat.le_of_ble_eq_true rfl, by rw [hR]; exact Nat.le_of_ble_eq_true rfl⟩ hN hS rfl hl.1 rfl (Nat.le_of_ble_eq_true rfl) dX11_wish_8 ⟨Nat.zero_le _, Nat.zero_le _⟩ (fun r1651 locs hp hS => ?_)
    rcases hp with ⟨rfl, hp⟩ | ⟨rfl, hp⟩
    · skip
      try simp only [rg, not_and, Int.not_le] at hp
      have hp1652 := hp
      refine lv_if_eq (tgt := 23) hx hb dX11_wish_11 (by decide) (fun c => absurd c (by decide)) (fun _ => ?_)
      refine lv_iload_n hx hb dX11_wish_14 rfl (lv_at hl 2 rfl) ?_
      refine lv_iload hx hb dX11_wish_15 (lv_at hl 4 rfl) ?_
      refine th_cSs (As := [.int x2, .int x4]) (rest := []) (n := 2) (d := 1) ⟨hx, hb, hml, hown, hts⟩ (c_X11_isSpan l s.heap x2 x4) wd_463 wd_464 wd_1 wd_465 (by decide +kernel) ⟨by rw [hR]; exact Nat.le_of_ble_eq_true rfl, by rw [hR]; exact Nat.le_of_ble_eq_true rfl⟩ hN hS rfl hl.1 rfl (Nat.le_of_ble_eq_true rfl) dX11_wish_17 ⟨Nat.zero_le _, Nat.zero_le _⟩ (fun r1653 locs hp hS => ?_)
      rcases hp with ⟨rfl, hp⟩ | ⟨rfl, hp⟩
      · skip
        try simp only [rg, not_and, Int.not_le] at hp
        have hp1654 := hp
        refine lv_if_ne (tgt := 29) hx hb dX11_wish_20 (by decide) (fun _ => ?_) (fun c => absurd c (by decide))
        refine lv_aload_n hx hb dX11_wish_29 rfl (lv_at hl 0 rfl) ?_
        obtain ⟨a1655, a1658, a1660, a1662, a1664, a1666, a1668, a1670, a1672, a1674, a1676, w1678, w1681, w1682, w1683, w1684, hO, hq1656, hq1657, hq1659, hq1661, hq1663, hq1665, hq1667, hq1669, hq1671, hq1673, hq1675, hq1677, ⟨k1679, k1680⟩, k1685⟩ := op_15 hI hG0 List.not_mem_nil
        have hI := th_I.weak (a := h0) hI
        refine th_get hx hb hts inT11 hown hK hO rfl 0 (by decide) (hts _ (tb_c wd_345)) rfl rfl dX11_wish_30 ?_
        have hI := th_I.close hI hG0 hO (ok_15 hq1656 hq1657 hq1659 hq1661 hq1663 hq1665 hq1667 hq1669 hq1671 hq1673 hq1675 hq1677 ⟨by omega, by omega⟩ k1685)
        obtain ⟨a1686, a1688, a1690, a1692, a1694, a1696, a1698, a1700, a1702, a1704, w1706, w1709, w1710, w1711, hO, hq1687, hq1689, hq1691, hq1693, hq1695, hq1697, hq1699, hq1701, hq1703, hq1705, ⟨k1707, k1708⟩, k1712⟩ := op_6 hI hq1656 List.not_mem_nil
        have hI := th_I.weak (a := a1655) hI
        refine th_getN hx hb hts inT6 hown hK hN hO rfl 8 (by decide) wn_80 rfl rfl dX11_wish_33 ?_
        have hI := th_I.close hI hq1656 hO (ok_6 hq1687 hq1689 hq1691 hq1693 hq1695 hq1697 hq1699 hq1701 hq1703 hq1705 ⟨by omega, by omega⟩ k1712)
        obtain ⟨a1714, w1716, hO, hq1715, ⟨k1717, k1718⟩, k1719⟩ := op_4 hI hq1703 List.not_mem_nil
        have hI := th_I.weak (a := a1702) hI
        have k1720 : (nI 6).toInt = ((6 : Nat) : Int) := nI_toInt (by omega)
        refine th_cVs (As := []) (rest := []) (n := 0) (d := 0) ⟨hx, hb, hml, hown, hts⟩ (c_X4_isFull l E D s.heap a1702 6 a1714 w1716 hO (by omega) (by omega) (by omega)) wd_481 wd_482 wd_483 wd_3 wd_484 (by decide +kernel) ⟨by rw [hR]; exact Nat.le_of_ble_eq_true rfl, by rw [hR]; exact Nat.le_of_ble_eq_true rfl⟩ hN hK hS ⟨_, hO⟩ rfl rfl hl.1 rfl (Nat.le_of_ble_eq_true rfl) dX11_wish_36 ⟨Nat.zero_le _, Nat.zero_le _⟩ (fun r1713 locs hp hS => ?_)
        rcases hp with ⟨rfl, hp⟩ | ⟨rfl, hp⟩
        · skip
          try simp only [rg, not_and, Int.not_le] at hp
          have hp1721 := hp
          refine lv_if_eq (tgt := 49) hx hb dX11_wish_39 (by decide) (fun c => absurd c (by decide)) (fun _ => ?_)
          refine lv_aload_n hx hb dX11_wish_42 rfl (lv_at hl 0 rfl) ?_
          refine lv_bipush (v := (-5)) hx hb dX11_wish_43 (by decide) ?_
          have hI := th_I.close hI hq1703 hO (ok_4 hq1715 ⟨by omega, by omega⟩ (by omega))
          refine th_cVi (As := [.int (-5)]) (rest := []) (n := 1) (d := 0) ⟨hx, hb, hml, hown, hts⟩ (c_X11_refuse l E D G h0 (n) hG0 (-5)) wd_407 wd_409 wp_0 wd_1 wd_410 (by decide +kernel) ⟨by rw [hR]; exact Nat.le_of_ble_eq_true rfl, by rw [hR]; exact Nat.le_of_ble_eq_true rfl⟩ hI hN hK hS (rc_15 hI hG0 List.not_mem_nil) rfl rfl hl.1 rfl (Nat.le_of_ble_eq_true rfl) dX11_wish_45 ⟨Nat.zero_le _, Nat.zero_le _⟩ (fun r1722 H locs hp hI hS => ?_)
          have hp := hp.symm
          subst hp
          have hpost : True := trivial
          rw [hQ]
          exact W.iret (v := (-5)) hx hb hr (fun t ht hW => ⟨⟨(-5), (), rfl, hpost, by rw [ht]; exact hI, hN.warm hW, va_K.moved hW.alike hK⟩, hS.F ht⟩) hS.2.2 dX11_wish_48
        · skip
          have hp1723 := hp
          refine lv_if_eq (tgt := 49) hx hb dX11_wish_39 (by decide) (fun _ => ?_) (fun c => absurd c (by decide))
          refine lv_aload_n hx hb dX11_wish_49 rfl (lv_at hl 0 rfl) ?_
          have hI := th_I.close hI hq1703 hO (ok_4 hq1715 ⟨by omega, by omega⟩ (by omega))
          obtain ⟨a1724, a1727, a1729, a1731, a1733, a1735, a1737, a1739, a1741, a1743, a1745, w1747, w1750, w1751, w1752, w1753, hO, hq1725, hq1726, hq1728, hq1730, hq1732, hq1734, hq1736, hq1738, hq1740, hq1742, hq1744, hq1746, ⟨k1748, k1749⟩, k1754⟩ := op_15 hI hG0 List.not_mem_nil
          have hI := th_I.weak (a := h0) hI
          refine th_get hx hb hts inT11 hown hK hO rfl 0 (by decide) (hts _ (tb_c wd_345)) rfl rfl dX11_wish_50 ?_
          have hI := th_I.close hI hG0 hO (ok_15 hq1725 hq1726 hq1728 hq1730 hq1732 hq1734 hq1736 hq1738 hq1740 hq1742 hq1744 hq1746 ⟨by omega, by omega⟩ k1754)
          obtain ⟨a1755, a1757, a1759, a1761, a1763, a1765, a1767, a1769, a1771, a1773, w1775, w1778, w1779, w1780, hO, hq1756, hq1758, hq1760, hq1762, hq1764, hq1766, hq1768, hq1770, hq1772, hq1774, ⟨k1776, k1777⟩, k1781⟩ := op_6 hI hq1725 List.not_mem_nil
          have hI := th_I.weak (a := a1724) hI
          refine th_getN hx hb hts inT6 hown hK hN hO rfl 8 (by decide) wn_80 rfl rfl dX11_wish_53 ?_
          refine lv_iload_n hx hb dX11_wish_56 rfl (lv_at hl 1 rfl) ?_
          refine lv_iload_n hx hb dX11_wish_57 rfl (lv_at hl 2 rfl) ?_
          refine lv_iload_n hx hb dX11_wish_58 rfl (lv_at hl 3 rfl) ?_
          refine lv_iload hx hb dX11_wish_59 (lv_at hl 4 rfl) ?_
          have hI := th_I.close hI hq1725 hO (ok_6 hq1756 hq1758 hq1760 hq1762 hq1764 hq1766 hq1768 hq1770 hq1772 hq1774 ⟨by omega, by omega⟩ k1781)
          refine th_cVi (As := [.int x1, .int x2, .int x3, .int x4]) (rest := []) (n := 4) (d := 1) ⟨hx, hb, hml, hown, hts⟩ (c_X4_put l E D G a1771 (6) hq1772 x1 x2 x3 x4) wd_485 wd_486 wd_487 wd_3 wd_488 (by decide +kernel) ⟨by rw [hR]; exact Nat.le_of_ble_eq_true rfl, by rw [hR]; exact Nat.le_of_ble_eq_true rfl⟩ hI hN hK hS (rc_4 hI hq1772 List.not_mem_nil) rfl rfl hl.1 rfl (Nat.le_of_ble_eq_true rfl) dX11_wish_61 ⟨Nat.zero_le _, Nat.zero_le _⟩ (fun r1782 H locs hp hI hS => ?_)
          refine lv_pop hx hb dX11_wish_64 rfl ?_
          refine lv_aload_n hx hb dX11_wish_65 rfl (lv_at hl 0 rfl) ?_
          refine th_cVv (As := []) (rest := []) (n := 0) (d := 1) ⟨hx, hb, hml, hown, hts⟩ (c_X11_turnLists l E D G h0 (n) hG0 ) wd_431 wd_433 wp_2 wd_1 wd_434 (by decide +kernel) ⟨by rw [hR]; exact Nat.le_of_ble_eq_true rfl, by rw [hR]; exact Nat.le_of_ble_eq_true rfl⟩ hI hN hK hS (rc_15 hI hG0 List.not_mem_nil) rfl rfl hl.1 rfl (Nat.le_of_ble_eq_true rfl) dX11_wish_66 ⟨Nat.zero_le _, Nat.zero_le _⟩ (fun H locs hI hS => ?_)
          refine lv_aload_n hx hb dX11_wish_69 rfl (lv_at hl 0 rfl) ?_
          refine lv_aload_n hx hb dX11_wish_70 rfl (lv_at hl 0 rfl) ?_
          obtain ⟨a1784, a1787, a1789, a1791, a1793, a1795, a1797, a1799, a1801, a1803, a1805, w1807, w1810, w1811, w1812, w1813, hO, hq1785, hq1786, hq1788, hq1790, hq1792, hq1794, hq1796, hq1798, hq1800, hq1802, hq1804, hq1806, ⟨k1808, k1809⟩, k1814⟩ := op_15 hI hG0 List.not_mem_nil
          have hI := th_I.weak (a := h0) hI
          refine th_get hx hb hts inT11 hown hK hO rfl 0 (by decide) (hts _ (tb_c wd_345)) rfl rfl dX11_wish_71 ?_
          have hI := th_I.close hI hG0 hO (ok_15 hq1785 hq1786 hq1788 hq1790 hq1792 hq1794 hq1796 hq1798 hq1800 hq1802 hq1804 hq1806 ⟨by omega, by omega⟩ k1814)
          obtain ⟨a1815, a1817, a1819, a1821, a1823, a1825, a1827, a1829, a1831, a1833, w1835, w1838, w1839, w1840, hO, hq1816, hq1818, hq1820, hq1822, hq1824, hq1826, hq1828, hq1830, hq1832, hq1834, ⟨k1836, k1837⟩, k1841⟩ := op_6 hI hq1785 List.not_mem_nil
          have hI := th_I.weak (a := a1784) hI
          refine th_getN hx hb hts inT6 hown hK hN hO rfl 8 (by decide) wn_80 rfl rfl dX11_wish_74 ?_
          have hI := th_I.close hI hq1785 hO (ok_6 hq1816 hq1818 hq1820 hq1822 hq1824 hq1826 hq1828 hq1830 hq1832 hq1834 ⟨by omega, by omega⟩ k1841)
          obtain ⟨a1843, w1845, hO, hq1844, ⟨k1846, k1847⟩, k1848⟩ := op_4 hI hq1832 List.not_mem_nil
          have hI := th_I.weak (a := a1831) hI
          have k1849 : (nI 6).toInt = ((6 : Nat) : Int) := nI_toInt (by omega)
          refine th_cVs (As := []) (rest := [.ref h0]) (n := 0) (d := 0) ⟨hx, hb, hml, hown, hts⟩ (c_X4_size l E D H a1831 6 a1843 w1845 hO (by omega) (by omega) (by omega)) wd_506 wd_507 wd_508 wd_3 wd_509 (by decide +kernel) ⟨by rw [hR]; exact Nat.le_of_ble_eq_true rfl, by rw [hR]; exact Nat.le_of_ble_eq_true rfl⟩ hN hK hS ⟨_, hO⟩ rfl rfl hl.1 rfl (Nat.le_of_ble_eq_true rfl) dX11_wish_77 ⟨Nat.zero_le _, Nat.zero_le _⟩ (fun r1842 locs hp hS => ?_)
          have hp := hp.symm
          subst hp
          have hI := th_I.close hI hq1832 hO (ok_4 hq1844 ⟨by omega, by omega⟩ (by omega))
          refine th_cVi (As := [.int w1845]) (rest := []) (n := 1) (d := 0) ⟨hx, hb, hml, hown, hts⟩ (c_X11_accept l E D G h0 (n) hG0 w1845) wd_447 wd_449 wp_3 wd_1 wd_450 (by decide +kernel) ⟨by rw [hR]; exact Nat.le_of_ble_eq_true rfl, by rw [hR]; exact Nat.le_of_ble_eq_true rfl⟩ hI hN hK hS (rc_15 hI hG0 List.not_mem_nil) rfl rfl hl.1 rfl (Nat.le_of_ble_eq_true rfl) dX11_wish_80 ⟨Nat.zero_le _, Nat.zero_le _⟩ (fun r1850 H locs hp hI hS => ?_)
          have hp := hp.symm
          subst hp
          have hpost : True := trivial
          rw [hQ]
          exact W.iret (v := w1845) hx hb hr (fun t ht hW => ⟨⟨w1845, (), rfl, hpost, by rw [ht]; exact hI, hN.warm hW, va_K.moved hW.alike hK⟩, hS.F ht⟩) hS.2.2 dX11_wish_83
      · skip
        try simp only [rg, not_and, Int.not_le] at hp
        have hp1851 := hp
        refine lv_if_ne (tgt := 29) hx hb dX11_wish_20 (by decide) (fun c => absurd c (by decide)) (fun _ => ?_)
        exact J_23 s.heap locs ls  (lv_sub hl [0, 1, 2, 3, 4] rfl)  hI hS
    · skip
      try simp only [rg, not_and, Int.not_le] at hp
      have hp1852 := hp
      refine lv_if_eq (tgt := 23) hx hb dX11_wish_11 (by decide) (fun _ => ?_) (fun c => absurd c (by decide))
      exact J_23 s.heap locs ls  (lv_sub hl [0, 1, 2, 3, 4] rfl)  hI hS
  · skip
    try simp only [rg, not_and, Int.not_le] at hp
    have hp1853 := hp
    refine lv_if_eq (tgt := 23) hx hb dX11_wish_4 (by decide) (fun _ => ?_) (fun c => absurd c (by decide))
    exact J_23 s.heap locs ls  (lv_sub hl [0, 1, 2, 3, 4] rfl)  hI hS
theorem dX11_drop_0g : (decode cX11_drop 0 = .ok (.aload_n 0, 1)) ∧ (decode cX11_drop 1 = .ok (.invokevirtual 191, 3)) ∧ (decode cX11_drop 4 = .ok (.aload_n 0, 1)) ∧ (decode cX11_drop 5 = .ok (.getfield 12, 3)) ∧ (decode cX11_drop 8 = .ok (.getfield 322, 3)) ∧ (decode cX11_drop 11 = .ok (.invokevirtual 295, 3)) ∧ (decode cX11_drop 14 = .ok (.ireturn, 1)) := by decide +kernel
theorem dX11_drop_0 : decode cX11_drop 0 = .ok (.aload_n 0, 1) := dX11_drop_0g.1
theorem dX11_drop_1 : decode cX11_drop 1 = .ok (.invokevirtual 191, 3) := dX11_drop_0g.2.1
theorem dX11_drop_4 : decode cX11_drop 4 = .ok (.aload_n 0, 1) := dX11_drop_0g.2.2.1
theorem dX11_drop_5 : decode cX11_drop 5 = .ok (.getfield 12, 3) := dX11_drop_0g.2.2.2.1
theorem dX11_drop_8 : decode cX11_drop 8 = .ok (.getfield 322, 3) := dX11_drop_0g.2.2.2.2.1
theorem dX11_drop_11 : decode cX11_drop 11 = .ok (.invokevirtual 295, 3) := dX11_drop_0g.2.2.2.2.2.1
theorem dX11_drop_14 : decode cX11_drop 14 = .ok (.ireturn, 1) := dX11_drop_0g.2.2.2.2.2.2
set_option maxHeartbeats 4000000 in
set_option maxRecDepth 100000 in
theorem c_X11_drop (l : Launch) (E : Nat → Nat) (D : va_G) (G : th_G) (h0 n : Nat) (hG0 : G h0 = some (15, n)) : Met l yX11_drop (tb (.code yX11_drop cX11_drop 1 (some .int))) (rm 2) (va_Pc [.ref h0] (th_P E D G)) (QI E D G (fun r => True)) 0 0 (th_A G) := by
  refine Met.ofW (cc := cX11_drop) (maxL := 1) (ret := (some .int)) (by decide) rfl ?_
  intro p e s m args below meth c s₁ B hml hv
  obtain ⟨hav, hI, hN, hK⟩ := hv
  have hx := B.exec
  have hb := B.bytes
  have hr := B.returns
  have hts := atoms_spec (ws := tb (.code yX11_drop cX11_drop 1 (some .int))) B.pre
  have hown : s.vm.findClass RX11 = some m.cls := findClass_of_methodNamed B.named
  have hlocks := B.notSynchronized
  have hS : va_S (th_A G) s.heap s.heap [] := va_S.rf
  have hl := lv_entry ([.ref h0]) (n := 1) (Nat.le_of_ble_eq_true rfl)
  rw [show entryFrame m args 1 = entryFrame m ([.ref h0] : List Value).toArray 1 from by rw [hav], lg_entry_eq]
  generalize (lg_sl ([.ref h0]) ++ List.replicate (1 - (lg_sl ([.ref h0])).length) Slot.unset).toArray = ls at hl ⊢
  have hl : lv_has ls 1 [(0, .ref h0)] := hl
  generalize hR : (headSpec (tb (.code yX11_drop cX11_drop 1 (some .int))) (rm 2)).room = R
  have hR := hR.symm
  generalize hQ : MQ below (QI E D G (fun r => True)) args s 0 0 (th_A G) = QF
  have hQ := hQ.symm
  refine lv_aload_n hx hb dX11_drop_0 rfl (lv_at hl 0 rfl) ?_
  refine th_cVv (As := []) (rest := []) (n := 0) (d := 1) ⟨hx, hb, hml, hown, hts⟩ (c_X11_turnLists l E D G h0 (n) hG0 ) wd_431 wd_433 wp_2 wd_1 wd_434 (by decide +kernel) ⟨by rw [hR]; exact Nat.le_of_ble_eq_true rfl, by rw [hR]; exact Nat.le_of_ble_eq_true rfl⟩ hI hN hK hS (rc_15 hI hG0 List.not_mem_nil) rfl rfl hl.1 rfl (Nat.le_of_ble_eq_true rfl) dX11_drop_1 ⟨Nat.zero_le _, Nat.zero_le _⟩ (fun H locs hI hS => ?_)
  refine lv_aload_n hx hb dX11_drop_4 rfl (lv_at hl 0 rfl) ?_
  obtain ⟨a2, a5, a7, a9, a11, a13, a15, a17, a19, a21, a23, w25, w28, w29, w30, w31, hO, hq3, hq4, hq6, hq8, hq10, hq12, hq14, hq16, hq18, hq20, hq22, hq24, ⟨k26, k27⟩, k32⟩ := op_15 hI hG0 List.not_mem_nil
  have hI := th_I.weak (a := h0) hI
  refine th_get hx hb hts inT11 hown hK hO rfl 0 (by decide) (hts _ (tb_c wd_345)) rfl rfl dX11_drop_5 ?_
  have hI := th_I.close hI hG0 hO (ok_15 hq3 hq4 hq6 hq8 hq10 hq12 hq14 hq16 hq18 hq20 hq22 hq24 ⟨by omega, by omega⟩ k32)
  obtain ⟨a33, a35, a37, a39, a41, a43, a45, a47, a49, a51, w53, w56, w57, w58, hO, hq34, hq36, hq38, hq40, hq42, hq44, hq46, hq48, hq50, hq52, ⟨k54, k55⟩, k59⟩ := op_6 hI hq3 List.not_mem_nil
  have hI := th_I.weak (a := a2) hI
  refine th_getN hx hb hts inT6 hown hK hN hO rfl 8 (by decide) wn_80 rfl rfl dX11_drop_8 ?_
  have hI := th_I.close hI hq3 hO (ok_6 hq34 hq36 hq38 hq40 hq42 hq44 hq46 hq48 hq50 hq52 ⟨by omega, by omega⟩ k59)
  refine th_cVi (As := []) (rest := []) (n := 0) (d := 0) ⟨hx, hb, hml, hown, hts⟩ (c_X4_clear l E D G a49 (6) hq50 ) wd_983 wd_984 wd_985 wd_3 wd_986 (by decide +kernel) ⟨by rw [hR]; exact Nat.le_of_ble_eq_true rfl, by rw [hR]; exact Nat.le_of_ble_eq_true rfl⟩ hI hN hK hS (rc_4 hI hq50 List.not_mem_nil) rfl rfl hl.1 rfl (Nat.le_of_ble_eq_true rfl) dX11_drop_11 ⟨Nat.zero_le _, Nat.zero_le _⟩ (fun r60 H locs hp hI hS => ?_)
  have hpost : True := trivial
  rw [hQ]
  exact W.iret (v := r60) hx hb hr (fun t ht hW => ⟨⟨r60, (), rfl, hpost, by rw [ht]; exact hI, hN.warm hW, va_K.moved hW.alike hK⟩, hS.F ht⟩) hS.2.2 dX11_drop_14
theorem dX11_granted_0g : (decode cX11_granted 0 = .ok (.aload_n 0, 1)) ∧ (decode cX11_granted 1 = .ok (.getfield 85, 3)) ∧ (decode cX11_granted 4 = .ok (.invokevirtual 325, 3)) ∧ (decode cX11_granted 7 = .ok (.ireturn, 1)) := by decide +kernel
theorem dX11_granted_0 : decode cX11_granted 0 = .ok (.aload_n 0, 1) := dX11_granted_0g.1
theorem dX11_granted_1 : decode cX11_granted 1 = .ok (.getfield 85, 3) := dX11_granted_0g.2.1
theorem dX11_granted_4 : decode cX11_granted 4 = .ok (.invokevirtual 325, 3) := dX11_granted_0g.2.2.1
theorem dX11_granted_7 : decode cX11_granted 7 = .ok (.ireturn, 1) := dX11_granted_0g.2.2.2
set_option maxHeartbeats 4000000 in
set_option maxRecDepth 100000 in
theorem c_X11_granted (l : Launch) (E : Nat → Nat) (D : va_G) (G : th_G) (h0 n : Nat) (hG0 : G h0 = some (15, n)) : Met l yX11_granted (tb (.code yX11_granted cX11_granted 1 (some .int))) (rm 7) (va_Pc [.ref h0] (th_P E D G)) (QI E D G (fun r => True)) 0 0 (th_A G) := by
  refine Met.ofW (cc := cX11_granted) (maxL := 1) (ret := (some .int)) (by decide) rfl ?_
  intro p e s m args below meth c s₁ B hml hv
  obtain ⟨hav, hI, hN, hK⟩ := hv
  have hx := B.exec
  have hb := B.bytes
  have hr := B.returns
  have hts := atoms_spec (ws := tb (.code yX11_granted cX11_granted 1 (some .int))) B.pre
  have hown : s.vm.findClass RX11 = some m.cls := findClass_of_methodNamed B.named
  have hlocks := B.notSynchronized
  have hS : va_S (th_A G) s.heap s.heap [] := va_S.rf
  have hl := lv_entry ([.ref h0]) (n := 1) (Nat.le_of_ble_eq_true rfl)
  rw [show entryFrame m args 1 = entryFrame m ([.ref h0] : List Value).toArray 1 from by rw [hav], lg_entry_eq]
  generalize (lg_sl ([.ref h0]) ++ List.replicate (1 - (lg_sl ([.ref h0])).length) Slot.unset).toArray = ls at hl ⊢
  have hl : lv_has ls 1 [(0, .ref h0)] := hl
  generalize hR : (headSpec (tb (.code yX11_granted cX11_granted 1 (some .int))) (rm 7)).room = R
  have hR := hR.symm
  generalize hQ : MQ below (QI E D G (fun r => True)) args s 0 0 (th_A G) = QF
  have hQ := hQ.symm
  refine lv_aload_n hx hb dX11_granted_0 rfl (lv_at hl 0 rfl) ?_
  obtain ⟨a1, a4, a6, a8, a10, a12, a14, a16, a18, a20, a22, w24, w27, w28, w29, w30, hO, hq2, hq3, hq5, hq7, hq9, hq11, hq13, hq15, hq17, hq19, hq21, hq23, ⟨k25, k26⟩, k31⟩ := op_15 hI hG0 List.not_mem_nil
  have hI := th_I.weak (a := h0) hI
  refine th_get hx hb hts inT11 hown hK hO rfl 11 (by decide) (hts _ (tb_c wd_356)) rfl rfl dX11_granted_1 ?_
  have hI := th_I.close hI hG0 hO (ok_15 hq2 hq3 hq5 hq7 hq9 hq11 hq13 hq15 hq17 hq19 hq21 hq23 ⟨by omega, by omega⟩ k31)
  refine th_cVi (As := []) (rest := []) (n := 0) (d := 6) ⟨hx, hb, hml, hown, hts⟩ (c_X10_grantedNow l E D G a22 hq23 ) wd_1134 wd_1135 wd_1136 wd_12 wd_1137 (by decide +kernel) ⟨by rw [hR]; exact Nat.le_of_ble_eq_true rfl, by rw [hR]; exact Nat.le_of_ble_eq_true rfl⟩ hI hN hK hS (rc_14 hI hq23 List.not_mem_nil) rfl rfl hl.1 rfl (Nat.le_of_ble_eq_true rfl) dX11_granted_4 ⟨Nat.zero_le _, Nat.zero_le _⟩ (fun r32 H locs hp hI hS => ?_)
  have hpost : True := trivial
  rw [hQ]
  exact W.iret (v := r32) hx hb hr (fun t ht hW => ⟨⟨r32, (), rfl, hpost, by rw [ht]; exact hI, hN.warm hW, va_K.moved hW.alike hK⟩, hS.F ht⟩) hS.2.2 dX11_granted_7
theorem dX11_best_0g : (decode cX11_best 0 = .ok (.iload_n 1, 1)) ∧ (decode cX11_best 1 = .ok (.invokestatic 117, 3)) ∧ (decode cX11_best 4 = .ok (.ifCond .ne 5, 3)) ∧ (decode cX11_best 7 = .ok (.iconst (-1), 1)) ∧ (decode cX11_best 8 = .ok (.ireturn, 1)) ∧ (decode cX11_best 9 = .ok (.aload_n 0, 1)) ∧ (decode cX11_best 10 = .ok (.getfield 85, 3)) ∧ (decode cX11_best 13 = .ok (.iload_n 1, 1)) ∧ (decode cX11_best 14 = .ok (.invokevirtual 328, 3)) ∧ (decode cX11_best 17 = .ok (.aload_n 0, 1)) := by decide +kernel
theorem dX11_best_0 : decode cX11_best 0 = .ok (.iload_n 1, 1) := dX11_best_0g.1
theorem dX11_best_1 : decode cX11_best 1 = .ok (.invokestatic 117, 3) := dX11_best_0g.2.1
theorem dX11_best_4 : decode cX11_best 4 = .ok (.ifCond .ne 5, 3) := dX11_best_0g.2.2.1
theorem dX11_best_7 : decode cX11_best 7 = .ok (.iconst (-1), 1) := dX11_best_0g.2.2.2.1
theorem dX11_best_8 : decode cX11_best 8 = .ok (.ireturn, 1) := dX11_best_0g.2.2.2.2.1
theorem dX11_best_9 : decode cX11_best 9 = .ok (.aload_n 0, 1) := dX11_best_0g.2.2.2.2.2.1
theorem dX11_best_10 : decode cX11_best 10 = .ok (.getfield 85, 3) := dX11_best_0g.2.2.2.2.2.2.1
theorem dX11_best_13 : decode cX11_best 13 = .ok (.iload_n 1, 1) := dX11_best_0g.2.2.2.2.2.2.2.1
theorem dX11_best_14 : decode cX11_best 14 = .ok (.invokevirtual 328, 3) := dX11_best_0g.2.2.2.2.2.2.2.2.1
theorem dX11_best_17 : decode cX11_best 17 = .ok (.aload_n 0, 1) := dX11_best_0g.2.2.2.2.2.2.2.2.2
theorem dX11_best_18g : (decode cX11_best 18 = .ok (.getfield 85, 3)) ∧ (decode cX11_best 21 = .ok (.iload_n 2, 1)) ∧ (decode cX11_best 22 = .ok (.invokevirtual 331, 3)) ∧ (decode cX11_best 25 = .ok (.ireturn, 1)) := by decide +kernel
theorem dX11_best_18 : decode cX11_best 18 = .ok (.getfield 85, 3) := dX11_best_18g.1
theorem dX11_best_21 : decode cX11_best 21 = .ok (.iload_n 2, 1) := dX11_best_18g.2.1
theorem dX11_best_22 : decode cX11_best 22 = .ok (.invokevirtual 331, 3) := dX11_best_18g.2.2.1
theorem dX11_best_25 : decode cX11_best 25 = .ok (.ireturn, 1) := dX11_best_18g.2.2.2
set_option maxHeartbeats 4000000 in
set_option maxRecDepth 100000 in
theorem c_X11_best (l : Launch) (E : Nat → Nat) (D : va_G) (G : th_G) (h0 n : Nat) (hG0 : G h0 = some (15, n)) (x1 x2 : Int32) : Met l yX11_best (tb (.code yX11_best cX11_best 3 (some .int))) (rm 8) (va_Pc [.ref h0, .int x1, .int x2] (th_P E D G)) (QI E D G (fun r => True)) 0 0 (th_A G) := by
  refine Met.ofW (cc := cX11_best) (maxL := 3) (ret := (some .int)) (by decide) rfl ?_
  intro p e s m args below meth c s₁ B hml hv
  obtain ⟨hav, hI, hN, hK⟩ := hv
  have hx := B.exec
  have hb := B.bytes
  have hr := B.returns
  have hts := atoms_spec (ws := tb (.code yX11_best cX11_best 3 (some .int))) B.pre
  have hown : s.vm.findClass RX11 = some m.cls := findClass_of_methodNamed B.named
  have hlocks := B.notSynchronized
  have hS : va_S (th_A G) s.heap s.heap [] := va_S.rf
  have hl := lv_entry ([.ref h0, .int x1, .int x2]) (n := 3) (Nat.le_of_ble_eq_true rfl)
  rw [show entryFrame m args 3 = entryFrame m ([.ref h0, .int x1, .int x2] : List Value).toArray 3 from by rw [hav], lg_entry_eq]
  generalize (lg_sl ([.ref h0, .int x1, .int x2]) ++ List.replicate (3 - (lg_sl ([.ref h0, .int x1, .int x2])).length) Slot.unset).toArray = ls at hl ⊢
  have hl : lv_has ls 3 [(0, .ref h0), (1, .int x1), (2, .int x2)] := hl
  generalize hR : (headSpec (tb (.code yX11_best cX11_best 3 (some .int))) (rm 8)).room = R
  have hR := hR.symm
  generalize hQ : MQ below (QI E D G (fun r => True)) args s 0 0 (th_A G) = QF
  have hQ := hQ.symm
  refine lv_iload_n hx hb dX11_best_0 rfl (lv_at hl 1 rfl) ?_
  refine th_cSs (As := [.int x1]) (rest := []) (n := 1) (d := 0) ⟨hx, hb, hml, hown, hts⟩ (c_X11_isPump l s.heap x1) wd_411 wd_412 wd_1 wd_413 (by decide +kernel) ⟨by rw [hR]; exact Nat.le_of_ble_eq_true rfl, by rw [hR]; exact Nat.le_of_ble_eq_true rfl⟩ hN hS rfl hl.1 rfl (Nat.le_of_ble_eq_true rfl) dX11_best_1 ⟨Nat.zero_le _, Nat.zero_le _⟩ (fun r1 locs hp hS => ?_)
  rcases hp with ⟨rfl, hp⟩ | ⟨rfl, hp⟩
  · skip
    try simp only [rg, not_and, Int.not_le] at hp
    have hp2 := hp
    refine lv_if_ne (tgt := 9) hx hb dX11_best_4 (by decide) (fun _ => ?_) (fun c => absurd c (by decide))
    refine lv_aload_n hx hb dX11_best_9 rfl (lv_at hl 0 rfl) ?_
    obtain ⟨a3, a6, a8, a10, a12, a14, a16, a18, a20, a22, a24, w26, w29, w30, w31, w32, hO, hq4, hq5, hq7, hq9, hq11, hq13, hq15, hq17, hq19, hq21, hq23, hq25, ⟨k27, k28⟩, k33⟩ := op_15 hI hG0 List.not_mem_nil
    have hI := th_I.weak (a := h0) hI
    refine th_get hx hb hts inT11 hown hK hO rfl 11 (by decide) (hts _ (tb_c wd_356)) rfl rfl dX11_best_10 ?_
    refine lv_iload_n hx hb dX11_best_13 rfl (lv_at hl 1 rfl) ?_
    have hI := th_I.close hI hG0 hO (ok_15 hq4 hq5 hq7 hq9 hq11 hq13 hq15 hq17 hq19 hq21 hq23 hq25 ⟨by omega, by omega⟩ k33)
    refine th_cVv (As := [.int x1]) (rest := []) (n := 1) (d := 7) ⟨hx, hb, hml, hown, hts⟩ (c_X10_tune l E D G a24 hq25 x1) wd_1145 wd_1146 wd_1147 wd_12 wd_1148 (by decide +kernel) ⟨by rw [hR]; exact Nat.le_of_ble_eq_true rfl, by rw [hR]; exact Nat.le_of_ble_eq_true rfl⟩ hI hN hK hS (rc_14 hI hq25 List.not_mem_nil) rfl rfl hl.1 rfl (Nat.le_of_ble_eq_true rfl) dX11_best_14 ⟨Nat.zero_le _, Nat.zero_le _⟩ (fun H locs hI hS => ?_)
    refine lv_aload_n hx hb dX11_best_17 rfl (lv_at hl 0 rfl) ?_
    obtain ⟨a35, a38, a40, a42, a44, a46, a48, a50, a52, a54, a56, w58, w61, w62, w63, w64, hO, hq36, hq37, hq39, hq41, hq43, hq45, hq47, hq49, hq51, hq53, hq55, hq57, ⟨k59, k60⟩, k65⟩ := op_15 hI hG0 List.not_mem_nil
    have hI := th_I.weak (a := h0) hI
    refine th_get hx hb hts inT11 hown hK hO rfl 11 (by decide) (hts _ (tb_c wd_356)) rfl rfl dX11_best_18 ?_
    refine lv_iload_n hx hb dX11_best_21 rfl (lv_at hl 2 rfl) ?_
    have hI := th_I.close hI hG0 hO (ok_15 hq36 hq37 hq39 hq41 hq43 hq45 hq47 hq49 hq51 hq53 hq55 hq57 ⟨by omega, by omega⟩ k65)
    refine th_cVi (As := [.int x2]) (rest := []) (n := 1) (d := 0) ⟨hx, hb, hml, hown, hts⟩ (c_X10_tuned l E D G a56 hq57 x2) wd_1168 wd_1169 wd_1170 wd_12 wd_1171 (by decide +kernel) ⟨by rw [hR]; exact Nat.le_of_ble_eq_true rfl, by rw [hR]; exact Nat.le_of_ble_eq_true rfl⟩ hI hN hK hS (rc_14 hI hq57 List.not_mem_nil) rfl rfl hl.1 rfl (Nat.le_of_ble_eq_true rfl) dX11_best_22 ⟨Nat.zero_le _, Nat.zero_le _⟩ (fun r66 H locs hp hI hS => ?_)
    have hpost : True := trivial
    rw [hQ]
    exact W.iret (v := r66) hx hb hr (fun t ht hW => ⟨⟨r66, (), rfl, hpost, by rw [ht]; exact hI, hN.warm hW, va_K.moved hW.alike hK⟩, hS.F ht⟩) hS.2.2 dX11_best_25
  · skip
    try simp only [rg, not_and, Int.not_le] at hp
    have hp67 := hp
    refine lv_if_ne (tgt := 9) hx hb dX11_best_4 (by decide) (fun c => absurd c (by decide)) (fun _ => ?_)
    refine lv_iconst (v := (-1)) hx hb dX11_best_7 (by decide) ?_
    have hpost : True := trivial
    rw [hQ]
    exact W.iret (v := (-1)) hx hb hr (fun t ht hW => ⟨⟨(-1), (), rfl, hpost, by rw [ht]; exact hI, hN.warm hW, va_K.moved hW.alike hK⟩, hS.F ht⟩) hS.2.2 dX11_best_8
theorem dX11_set_0g : (decode cX11_set 0 = .ok (.iload_n 1, 1)) ∧ (decode cX11_set 1 = .ok (.invokestatic 117, 3)) ∧ (decode cX11_set 4 = .ok (.ifCond .ne 10, 3)) ∧ (decode cX11_set 7 = .ok (.aload_n 0, 1)) ∧ (decode cX11_set 8 = .ok (.bipush (-2), 2)) ∧ (decode cX11_set 10 = .ok (.invokevirtual 113, 3)) ∧ (decode cX11_set 13 = .ok (.ireturn, 1)) ∧ (decode cX11_set 14 = .ok (.aload_n 0, 1)) ∧ (decode cX11_set 15 = .ok (.getfield 85, 3)) ∧ (decode cX11_set 18 = .ok (.iload_n 1, 1)) := by decide +kernel
theorem dX11_set_0 : decode cX11_set 0 = .ok (.iload_n 1, 1) := dX11_set_0g.1
theorem dX11_set_1 : decode cX11_set 1 = .ok (.invokestatic 117, 3) := dX11_set_0g.2.1
theorem dX11_set_4 : decode cX11_set 4 = .ok (.ifCond .ne 10, 3) := dX11_set_0g.2.2.1
theorem dX11_set_7 : decode cX11_set 7 = .ok (.aload_n 0, 1) := dX11_set_0g.2.2.2.1
theorem dX11_set_8 : decode cX11_set 8 = .ok (.bipush (-2), 2) := dX11_set_0g.2.2.2.2.1
theorem dX11_set_10 : decode cX11_set 10 = .ok (.invokevirtual 113, 3) := dX11_set_0g.2.2.2.2.2.1
theorem dX11_set_13 : decode cX11_set 13 = .ok (.ireturn, 1) := dX11_set_0g.2.2.2.2.2.2.1
theorem dX11_set_14 : decode cX11_set 14 = .ok (.aload_n 0, 1) := dX11_set_0g.2.2.2.2.2.2.2.1
theorem dX11_set_15 : decode cX11_set 15 = .ok (.getfield 85, 3) := dX11_set_0g.2.2.2.2.2.2.2.2.1
theorem dX11_set_18 : decode cX11_set 18 = .ok (.iload_n 1, 1) := dX11_set_0g.2.2.2.2.2.2.2.2.2
theorem dX11_set_19g : (decode cX11_set 19 = .ok (.invokevirtual 328, 3)) ∧ (decode cX11_set 22 = .ok (.aload_n 0, 1)) ∧ (decode cX11_set 23 = .ok (.getfield 85, 3)) ∧ (decode cX11_set 26 = .ok (.iconst 1, 1)) ∧ (decode cX11_set 27 = .ok (.invokevirtual 331, 3)) ∧ (decode cX11_set 30 = .ok (.istore_n 2, 1)) ∧ (decode cX11_set 31 = .ok (.aload_n 0, 1)) ∧ (decode cX11_set 32 = .ok (.getfield 12, 3)) ∧ (decode cX11_set 35 = .ok (.iload_n 1, 1)) ∧ (decode cX11_set 36 = .ok (.iload_n 2, 1)) := by decide +kernel
theorem dX11_set_19 : decode cX11_set 19 = .ok (.invokevirtual 328, 3) := dX11_set_19g.1
theorem dX11_set_22 : decode cX11_set 22 = .ok (.aload_n 0, 1) := dX11_set_19g.2.1
theorem dX11_set_23 : decode cX11_set 23 = .ok (.getfield 85, 3) := dX11_set_19g.2.2.1
theorem dX11_set_26 : decode cX11_set 26 = .ok (.iconst 1, 1) := dX11_set_19g.2.2.2.1
theorem dX11_set_27 : decode cX11_set 27 = .ok (.invokevirtual 331, 3) := dX11_set_19g.2.2.2.2.1
theorem dX11_set_30 : decode cX11_set 30 = .ok (.istore_n 2, 1) := dX11_set_19g.2.2.2.2.2.1
theorem dX11_set_31 : decode cX11_set 31 = .ok (.aload_n 0, 1) := dX11_set_19g.2.2.2.2.2.2.1
theorem dX11_set_32 : decode cX11_set 32 = .ok (.getfield 12, 3) := dX11_set_19g.2.2.2.2.2.2.2.1
theorem dX11_set_35 : decode cX11_set 35 = .ok (.iload_n 1, 1) := dX11_set_19g.2.2.2.2.2.2.2.2.1
theorem dX11_set_36 : decode cX11_set 36 = .ok (.iload_n 2, 1) := dX11_set_19g.2.2.2.2.2.2.2.2.2
theorem dX11_set_37g : (decode cX11_set 37 = .ok (.iload_n 2, 1)) ∧ (decode cX11_set 38 = .ok (.aload_n 0, 1)) ∧ (decode cX11_set 39 = .ok (.getfield 85, 3)) ∧ (decode cX11_set 42 = .ok (.iconst 2, 1)) ∧ (decode cX11_set 43 = .ok (.invokevirtual 331, 3)) ∧ (decode cX11_set 46 = .ok (.iadd, 1)) ∧ (decode cX11_set 47 = .ok (.bipush 24, 2)) ∧ (decode cX11_set 49 = .ok (.irem, 1)) ∧ (decode cX11_set 50 = .ok (.invokevirtual 334, 3)) ∧ (decode cX11_set 53 = .ok (.aload_n 0, 1)) := by decide +kernel
theorem dX11_set_37 : decode cX11_set 37 = .ok (.iload_n 2, 1) := dX11_set_37g.1
theorem dX11_set_38 : decode cX11_set 38 = .ok (.aload_n 0, 1) := dX11_set_37g.2.1
theorem dX11_set_39 : decode cX11_set 39 = .ok (.getfield 85, 3) := dX11_set_37g.2.2.1
theorem dX11_set_42 : decode cX11_set 42 = .ok (.iconst 2, 1) := dX11_set_37g.2.2.2.1
theorem dX11_set_43 : decode cX11_set 43 = .ok (.invokevirtual 331, 3) := dX11_set_37g.2.2.2.2.1
theorem dX11_set_46 : decode cX11_set 46 = .ok (.iadd, 1) := dX11_set_37g.2.2.2.2.2.1
theorem dX11_set_47 : decode cX11_set 47 = .ok (.bipush 24, 2) := dX11_set_37g.2.2.2.2.2.2.1
theorem dX11_set_49 : decode cX11_set 49 = .ok (.irem, 1) := dX11_set_37g.2.2.2.2.2.2.2.1
theorem dX11_set_50 : decode cX11_set 50 = .ok (.invokevirtual 334, 3) := dX11_set_37g.2.2.2.2.2.2.2.2.1
theorem dX11_set_53 : decode cX11_set 53 = .ok (.aload_n 0, 1) := dX11_set_37g.2.2.2.2.2.2.2.2.2
theorem dX11_set_54g : (decode cX11_set 54 = .ok (.invokevirtual 124, 3)) ∧ (decode cX11_set 57 = .ok (.aload_n 0, 1)) ∧ (decode cX11_set 58 = .ok (.aload_n 0, 1)) ∧ (decode cX11_set 59 = .ok (.getfield 85, 3)) ∧ (decode cX11_set 62 = .ok (.iconst 0, 1)) ∧ (decode cX11_set 63 = .ok (.invokevirtual 331, 3)) ∧ (decode cX11_set 66 = .ok (.invokevirtual 127, 3)) ∧ (decode cX11_set 69 = .ok (.ireturn, 1)) := by decide +kernel
theorem dX11_set_54 : decode cX11_set 54 = .ok (.invokevirtual 124, 3) := dX11_set_54g.1
theorem dX11_set_57 : decode cX11_set 57 = .ok (.aload_n 0, 1) := dX11_set_54g.2.1
theorem dX11_set_58 : decode cX11_set 58 = .ok (.aload_n 0, 1) := dX11_set_54g.2.2.1
theorem dX11_set_59 : decode cX11_set 59 = .ok (.getfield 85, 3) := dX11_set_54g.2.2.2.1
theorem dX11_set_62 : decode cX11_set 62 = .ok (.iconst 0, 1) := dX11_set_54g.2.2.2.2.1
theorem dX11_set_63 : decode cX11_set 63 = .ok (.invokevirtual 331, 3) := dX11_set_54g.2.2.2.2.2.1
theorem dX11_set_66 : decode cX11_set 66 = .ok (.invokevirtual 127, 3) := dX11_set_54g.2.2.2.2.2.2.1
theorem dX11_set_69 : decode cX11_set 69 = .ok (.ireturn, 1) := dX11_set_54g.2.2.2.2.2.2.2
set_option maxHeartbeats 4000000 in
set_option maxRecDepth 100000 in
theorem c_X11_set (l : Launch) (E : Nat → Nat) (D : va_G) (G : th_G) (h0 n : Nat) (hG0 : G h0 = some (15, n)) (x1 : Int32) : Met l yX11_set (tb (.code yX11_set cX11_set 3 (some .int))) (rm 8) (va_Pc [.ref h0, .int x1] (th_P E D G)) (QI E D G (fun r => True)) 0 0 (th_A G) := by
  refine Met.ofW (cc := cX11_set) (maxL := 3) (ret := (some .int)) (by decide) rfl ?_
  intro p e s m args below meth c s₁ B hml hv
  obtain ⟨hav, hI, hN, hK⟩ := hv
  have hx := B.exec
  have hb := B.bytes
  have hr := B.returns
  have hts := atoms_spec (ws := tb (.code yX11_set cX11_set 3 (some .int))) B.pre
  have hown : s.vm.findClass RX11 = some m.cls := findClass_of_methodNamed B.named
  have hlocks := B.notSynchronized
  have hS : va_S (th_A G) s.heap s.heap [] := va_S.rf
  have hl := lv_entry ([.ref h0, .int x1]) (n := 3) (Nat.le_of_ble_eq_true rfl)
  rw [show entryFrame m args 3 = entryFrame m ([.ref h0, .int x1] : List Value).toArray 3 from by rw [hav], lg_entry_eq]
  generalize (lg_sl ([.ref h0, .int x1]) ++ List.replicate (3 - (lg_sl ([.ref h0, .int x1])).length) Slot.unset).toArray = ls at hl ⊢
  have hl : lv_has ls 3 [(0, .ref h0), (1, .int x1)] := hl
  generalize hR : (headSpec (tb (.code yX11_set cX11_set 3 (some .int))) (rm 8)).room = R
  have hR := hR.symm
  generalize hQ : MQ below (QI E D G (fun r => True)) args s 0 0 (th_A G) = QF
  have hQ := hQ.symm
  refine lv_iload_n hx hb dX11_set_0 rfl (lv_at hl 1 rfl) ?_
  refine th_cSs (As := [.int x1]) (rest := []) (n := 1) (d := 0) ⟨hx, hb, hml, hown, hts⟩ (c_X11_isPump l s.heap x1) wd_411 wd_412 wd_1 wd_413 (by decide +kernel) ⟨by rw [hR]; exact Nat.le_of_ble_eq_true rfl, by rw [hR]; exact Nat.le_of_ble_eq_true rfl⟩ hN hS rfl hl.1 rfl (Nat.le_of_ble_eq_true rfl) dX11_set_1 ⟨Nat.zero_le _, Nat.zero_le _⟩ (fun r1 locs hp hS => ?_)
  rcases hp with ⟨rfl, hp⟩ | ⟨rfl, hp⟩
  · skip
    try simp only [rg, not_and, Int.not_le] at hp
    have hp2 := hp
    refine lv_if_ne (tgt := 14) hx hb dX11_set_4 (by decide) (fun _ => ?_) (fun c => absurd c (by decide))
    refine lv_aload_n hx hb dX11_set_14 rfl (lv_at hl 0 rfl) ?_
    obtain ⟨a3, a6, a8, a10, a12, a14, a16, a18, a20, a22, a24, w26, w29, w30, w31, w32, hO, hq4, hq5, hq7, hq9, hq11, hq13, hq15, hq17, hq19, hq21, hq23, hq25, ⟨k27, k28⟩, k33⟩ := op_15 hI hG0 List.not_mem_nil
    have hI := th_I.weak (a := h0) hI
    refine th_get hx hb hts inT11 hown hK hO rfl 11 (by decide) (hts _ (tb_c wd_356)) rfl rfl dX11_set_15 ?_
    refine lv_iload_n hx hb dX11_set_18 rfl (lv_at hl 1 rfl) ?_
    have hI := th_I.close hI hG0 hO (ok_15 hq4 hq5 hq7 hq9 hq11 hq13 hq15 hq17 hq19 hq21 hq23 hq25 ⟨by omega, by omega⟩ k33)
    refine th_cVv (As := [.int x1]) (rest := []) (n := 1) (d := 7) ⟨hx, hb, hml, hown, hts⟩ (c_X10_tune l E D G a24 hq25 x1) wd_1145 wd_1146 wd_1147 wd_12 wd_1148 (by decide +kernel) ⟨by rw [hR]; exact Nat.le_of_ble_eq_true rfl, by rw [hR]; exact Nat.le_of_ble_eq_true rfl⟩ hI hN hK hS (rc_14 hI hq25 List.not_mem_nil) rfl rfl hl.1 rfl (Nat.le_of_ble_eq_true rfl) dX11_set_19 ⟨Nat.zero_le _, Nat.zero_le _⟩ (fun H locs hI hS => ?_)
    refine lv_aload_n hx hb dX11_set_22 rfl (lv_at hl 0 rfl) ?_
    obtain ⟨a35, a38, a40, a42, a44, a46, a48, a50, a52, a54, a56, w58, w61, w62, w63, w64, hO, hq36, hq37, hq39, hq41, hq43, hq45, hq47, hq49, hq51, hq53, hq55, hq57, ⟨k59, k60⟩, k65⟩ := op_15 hI hG0 List.not_mem_nil
    have hI := th_I.weak (a := h0) hI
    refine th_get hx hb hts inT11 hown hK hO rfl 11 (by decide) (hts _ (tb_c wd_356)) rfl rfl dX11_set_23 ?_
    refine lv_iconst (v := 1) hx hb dX11_set_26 (by decide) ?_
    have hI := th_I.close hI hG0 hO (ok_15 hq36 hq37 hq39 hq41 hq43 hq45 hq47 hq49 hq51 hq53 hq55 hq57 ⟨by omega, by omega⟩ k65)
    refine th_cVi (As := [.int 1]) (rest := []) (n := 1) (d := 0) ⟨hx, hb, hml, hown, hts⟩ (c_X10_tuned l E D G a56 hq57 1) wd_1168 wd_1169 wd_1170 wd_12 wd_1171 (by decide +kernel) ⟨by rw [hR]; exact Nat.le_of_ble_eq_true rfl, by rw [hR]; exact Nat.le_of_ble_eq_true rfl⟩ hI hN hK hS (rc_14 hI hq57 List.not_mem_nil) rfl rfl hl.1 rfl (Nat.le_of_ble_eq_true rfl) dX11_set_27 ⟨Nat.zero_le _, Nat.zero_le _⟩ (fun r66 H locs hp hI hS => ?_)
    refine lv_istore_n (lv' := [(2, .int r66), (0, .ref h0), (1, .int x1)]) hx hb dX11_set_30 rfl hl (by decide) rfl (fun ls hl => ?_)
    refine lv_aload_n hx hb dX11_set_31 rfl (lv_at hl 1 rfl) ?_
    obtain ⟨a67, a70, a72, a74, a76, a78, a80, a82, a84, a86, a88, w90, w93, w94, w95, w96, hO, hq68, hq69, hq71, hq73, hq75, hq77, hq79, hq81, hq83, hq85, hq87, hq89, ⟨k91, k92⟩, k97⟩ := op_15 hI hG0 List.not_mem_nil
    have hI := th_I.weak (a := h0) hI
    refine th_get hx hb hts inT11 hown hK hO rfl 0 (by decide) (hts _ (tb_c wd_345)) rfl rfl dX11_set_32 ?_
    refine lv_iload_n hx hb dX11_set_35 rfl (lv_at hl 2 rfl) ?_
    refine lv_iload_n hx hb dX11_set_36 rfl (lv_at hl 0 rfl) ?_
    refine lv_iload_n hx hb dX11_set_37 rfl (lv_at hl 0 rfl) ?_
    refine lv_aload_n hx hb dX11_set_38 rfl (lv_at hl 1 rfl) ?_
    refine th_get hx hb hts inT11 hown hK hO rfl 11 (by decide) (hts _ (tb_c wd_356)) rfl rfl dX11_set_39 ?_
    refine lv_iconst (v := 2) hx hb dX11_set_42 (by decide) ?_
    have hI := th_I.close hI hG0 hO (ok_15 hq68 hq69 hq71 hq73 hq75 hq77 hq79 hq81 hq83 hq85 hq87 hq89 ⟨by omega, by omega⟩ k97)
    refine th_cVi (As := [.int 2]) (rest := [.int r66, .int r66, .int x1, .ref a67]) (n := 1) (d := 0) ⟨hx, hb, hml, hown, hts⟩ (c_X10_tuned l E D G a88 hq89 2) wd_1168 wd_1169 wd_1170 wd_12 wd_1171 (by decide +kernel) ⟨by rw [hR]; exact Nat.le_of_ble_eq_true rfl, by rw [hR]; exact Nat.le_of_ble_eq_true rfl⟩ hI hN hK hS (rc_14 hI hq89 List.not_mem_nil) rfl rfl hl.1 rfl (Nat.le_of_ble_eq_true rfl) dX11_set_43 ⟨Nat.zero_le _, Nat.zero_le _⟩ (fun r98 H locs hp hI hS => ?_)
    refine lv_iadd hx hb dX11_set_46 ?_
    refine lv_topi (fun v99 e100 => ?_)
    try have tv99 : v99.toInt = r66.toInt + r98.toInt := iv_add rfl rfl e100 (by omega) (by omega)
    refine lv_bipush (v := 24) hx hb dX11_set_47 (by decide) ?_
    refine lv_irem hx hb dX11_set_49 (by decide) ?_
    refine lv_topi (fun v101 e102 => ?_)
    refine th_cVv (As := [.int x1, .int r66, .int v101]) (rest := []) (n := 3) (d := 1) ⟨hx, hb, hml, hown, hts⟩ (c_X6_tellClocks l E D G a67 hq68 x1 r66 v101) wd_1176 wd_420 wd_421 wd_2 wd_422 (by decide +kernel) ⟨by rw [hR]; exact Nat.le_of_ble_eq_true rfl, by rw [hR]; exact Nat.le_of_ble_eq_true rfl⟩ hI hN hK hS (rc_6 hI hq68 List.not_mem_nil) rfl rfl hl.1 rfl (Nat.le_of_ble_eq_true rfl) dX11_set_50 ⟨Nat.zero_le _, Nat.zero_le _⟩ (fun H locs hI hS => ?_)
    refine lv_aload_n hx hb dX11_set_53 rfl (lv_at hl 1 rfl) ?_
    refine th_cVv (As := []) (rest := []) (n := 0) (d := 2) ⟨hx, hb, hml, hown, hts⟩ (c_X11_turnRiver l E D G h0 (n) hG0 ) wd_423 wd_425 wp_1 wd_1 wd_426 (by decide +kernel) ⟨by rw [hR]; exact Nat.le_of_ble_eq_true rfl, by rw [hR]; exact Nat.le_of_ble_eq_true rfl⟩ hI hN hK hS (rc_15 hI hG0 List.not_mem_nil) rfl rfl hl.1 rfl (Nat.le_of_ble_eq_true rfl) dX11_set_54 ⟨Nat.zero_le _, Nat.zero_le _⟩ (fun H locs hI hS => ?_)
    refine lv_aload_n hx hb dX11_set_57 rfl (lv_at hl 1 rfl) ?_
    refine lv_aload_n hx hb dX11_set_58 rfl (lv_at hl 1 rfl) ?_
    obtain ⟨a105, a108, a110, a112, a114, a116, a118, a120, a122, a124, a126, w128, w131, w132, w133, w134, hO, hq106, hq107, hq109, hq111, hq113, hq115, hq117, hq119, hq121, hq123, hq125, hq127, ⟨k129, k130⟩, k135⟩ := op_15 hI hG0 List.not_mem_nil
    have hI := th_I.weak (a := h0) hI
    refine th_get hx hb hts inT11 hown hK hO rfl 11 (by decide) (hts _ (tb_c wd_356)) rfl rfl dX11_set_59 ?_
    refine lv_iconst (v := 0) hx hb dX11_set_62 (by decide) ?_
    have hI := th_I.close hI hG0 hO (ok_15 hq106 hq107 hq109 hq111 hq113 hq115 hq117 hq119 hq121 hq123 hq125 hq127 ⟨by omega, by omega⟩ k135)
    refine th_cVi (As := [.int 0]) (rest := [.ref h0]) (n := 1) (d := 0) ⟨hx, hb, hml, hown, hts⟩ (c_X10_tuned l E D G a126 hq127 0) wd_1168 wd_1169 wd_1170 wd_12 wd_1171 (by decide +kernel) ⟨by rw [hR]; exact Nat.le_of_ble_eq_true rfl, by rw [hR]; exact Nat.le_of_ble_eq_true rfl⟩ hI hN hK hS (rc_14 hI hq127 List.not_mem_nil) rfl rfl hl.1 rfl (Nat.le_of_ble_eq_true rfl) dX11_set_63 ⟨Nat.zero_le _, Nat.zero_le _⟩ (fun r136 H locs hp hI hS => ?_)
    refine th_cVi (As := [.int r136]) (rest := []) (n := 1) (d := 0) ⟨hx, hb, hml, hown, hts⟩ (c_X11_accept l E D G h0 (n) hG0 r136) wd_447 wd_449 wp_3 wd_1 wd_450 (by decide +kernel) ⟨by rw [hR]; exact Nat.le_of_ble_eq_true rfl, by rw [hR]; exact Nat.le_of_ble_eq_true rfl⟩ hI hN hK hS (rc_15 hI hG0 List.not_mem_nil) rfl rfl hl.1 rfl (Nat.le_of_ble_eq_true rfl) dX11_set_66 ⟨Nat.zero_le _, Nat.zero_le _⟩ (fun r137 H locs hp hI hS => ?_)
    have hp := hp.symm
    subst hp
    have hpost : True := trivial
    rw [hQ]
    exact W.iret (v := r136) hx hb hr (fun t ht hW => ⟨⟨r136, (), rfl, hpost, by rw [ht]; exact hI, hN.warm hW, va_K.moved hW.alike hK⟩, hS.F ht⟩) hS.2.2 dX11_set_69
  · skip
    try simp only [rg, not_and, Int.not_le] at hp
    have hp138 := hp
    refine lv_if_ne (tgt := 14) hx hb dX11_set_4 (by decide) (fun c => absurd c (by decide)) (fun _ => ?_)
    refine lv_aload_n hx hb dX11_set_7 rfl (lv_at hl 0 rfl) ?_
    refine lv_bipush (v := (-2)) hx hb dX11_set_8 (by decide) ?_
    refine th_cVi (As := [.int (-2)]) (rest := []) (n := 1) (d := 0) ⟨hx, hb, hml, hown, hts⟩ (c_X11_refuse l E D G h0 (n) hG0 (-2)) wd_407 wd_409 wp_0 wd_1 wd_410 (by decide +kernel) ⟨by rw [hR]; exact Nat.le_of_ble_eq_true rfl, by rw [hR]; exact Nat.le_of_ble_eq_true rfl⟩ hI hN hK hS (rc_15 hI hG0 List.not_mem_nil) rfl rfl hl.1 rfl (Nat.le_of_ble_eq_true rfl) dX11_set_10 ⟨Nat.zero_le _, Nat.zero_le _⟩ (fun r139 H locs hp hI hS => ?_)
    have hp := hp.symm
    subst hp
    have hpost : True := trivial
    rw [hQ]
    exact W.iret (v := (-2)) hx hb hr (fun t ht hW => ⟨⟨(-2), (), rfl, hpost, by rw [ht]; exact hI, hN.warm hW, va_K.moved hW.alike hK⟩, hS.F ht⟩) hS.2.2 dX11_set_13
theorem dX11_week_0g : (decode cX11_week 0 = .ok (.iload_n 1, 1)) ∧ (decode cX11_week 1 = .ok (.ifCond .lt 20, 3)) ∧ (decode cX11_week 4 = .ok (.iload_n 1, 1)) ∧ (decode cX11_week 5 = .ok (.ldc_w 337, 3)) ∧ (decode cX11_week 8 = .ok (.if_icmp .gt 13, 3)) ∧ (decode cX11_week 11 = .ok (.iload_n 2, 1)) ∧ (decode cX11_week 12 = .ok (.ifCond .lt 9, 3)) ∧ (decode cX11_week 15 = .ok (.iload_n 2, 1)) ∧ (decode cX11_week 16 = .ok (.bipush 100, 2)) ∧ (decode cX11_week 18 = .ok (.if_icmp .le 9, 3)) := by decide +kernel
theorem dX11_week_0 : decode cX11_week 0 = .ok (.iload_n 1, 1) := dX11_week_0g.1
theorem dX11_week_1 : decode cX11_week 1 = .ok (.ifCond .lt 20, 3) := dX11_week_0g.2.1
theorem dX11_week_4 : decode cX11_week 4 = .ok (.iload_n 1, 1) := dX11_week_0g.2.2.1
theorem dX11_week_5 : decode cX11_week 5 = .ok (.ldc_w 337, 3) := dX11_week_0g.2.2.2.1
theorem dX11_week_8 : decode cX11_week 8 = .ok (.if_icmp .gt 13, 3) := dX11_week_0g.2.2.2.2.1
theorem dX11_week_11 : decode cX11_week 11 = .ok (.iload_n 2, 1) := dX11_week_0g.2.2.2.2.2.1
theorem dX11_week_12 : decode cX11_week 12 = .ok (.ifCond .lt 9, 3) := dX11_week_0g.2.2.2.2.2.2.1
theorem dX11_week_15 : decode cX11_week 15 = .ok (.iload_n 2, 1) := dX11_week_0g.2.2.2.2.2.2.2.1
theorem dX11_week_16 : decode cX11_week 16 = .ok (.bipush 100, 2) := dX11_week_0g.2.2.2.2.2.2.2.2.1
theorem dX11_week_18 : decode cX11_week 18 = .ok (.if_icmp .le 9, 3) := dX11_week_0g.2.2.2.2.2.2.2.2.2
theorem dX11_week_21g : (decode cX11_week 21 = .ok (.aload_n 0, 1)) ∧ (decode cX11_week 22 = .ok (.iconst (-1), 1)) ∧ (decode cX11_week 23 = .ok (.invokevirtual 113, 3)) ∧ (decode cX11_week 26 = .ok (.ireturn, 1)) ∧ (decode cX11_week 27 = .ok (.aload_n 0, 1)) ∧ (decode cX11_week 28 = .ok (.iconst 1, 1)) ∧ (decode cX11_week 29 = .ok (.putfield 102, 3)) ∧ (decode cX11_week 32 = .ok (.aload_n 0, 1)) ∧ (decode cX11_week 33 = .ok (.aload_n 0, 1)) ∧ (decode cX11_week 34 = .ok (.getfield 51, 3)) := by decide +kernel
theorem dX11_week_21 : decode cX11_week 21 = .ok (.aload_n 0, 1) := dX11_week_21g.1
theorem dX11_week_22 : decode cX11_week 22 = .ok (.iconst (-1), 1) := dX11_week_21g.2.1
theorem dX11_week_23 : decode cX11_week 23 = .ok (.invokevirtual 113, 3) := dX11_week_21g.2.2.1
theorem dX11_week_26 : decode cX11_week 26 = .ok (.ireturn, 1) := dX11_week_21g.2.2.2.1
theorem dX11_week_27 : decode cX11_week 27 = .ok (.aload_n 0, 1) := dX11_week_21g.2.2.2.2.1
theorem dX11_week_28 : decode cX11_week 28 = .ok (.iconst 1, 1) := dX11_week_21g.2.2.2.2.2.1
theorem dX11_week_29 : decode cX11_week 29 = .ok (.putfield 102, 3) := dX11_week_21g.2.2.2.2.2.2.1
theorem dX11_week_32 : decode cX11_week 32 = .ok (.aload_n 0, 1) := dX11_week_21g.2.2.2.2.2.2.2.1
theorem dX11_week_33 : decode cX11_week 33 = .ok (.aload_n 0, 1) := dX11_week_21g.2.2.2.2.2.2.2.2.1
theorem dX11_week_34 : decode cX11_week 34 = .ok (.getfield 51, 3) := dX11_week_21g.2.2.2.2.2.2.2.2.2
theorem dX11_week_37g : (decode cX11_week 37 = .ok (.iload_n 1, 1)) ∧ (decode cX11_week 38 = .ok (.iload_n 2, 1)) ∧ (decode cX11_week 39 = .ok (.aload_n 0, 1)) ∧ (decode cX11_week 40 = .ok (.getfield 27, 3)) ∧ (decode cX11_week 43 = .ok (.invokevirtual 338, 3)) ∧ (decode cX11_week 46 = .ok (.invokevirtual 127, 3)) ∧ (decode cX11_week 49 = .ok (.ireturn, 1)) := by decide +kernel
theorem dX11_week_37 : decode cX11_week 37 = .ok (.iload_n 1, 1) := dX11_week_37g.1
theorem dX11_week_38 : decode cX11_week 38 = .ok (.iload_n 2, 1) := dX11_week_37g.2.1
theorem dX11_week_39 : decode cX11_week 39 = .ok (.aload_n 0, 1) := dX11_week_37g.2.2.1
theorem dX11_week_40 : decode cX11_week 40 = .ok (.getfield 27, 3) := dX11_week_37g.2.2.2.1
theorem dX11_week_43 : decode cX11_week 43 = .ok (.invokevirtual 338, 3) := dX11_week_37g.2.2.2.2.1
theorem dX11_week_46 : decode cX11_week 46 = .ok (.invokevirtual 127, 3) := dX11_week_37g.2.2.2.2.2.1
theorem dX11_week_49 : decode cX11_week 49 = .ok (.ireturn, 1) := dX11_week_37g.2.2.2.2.2.2
set_option maxHeartbeats 4000000 in
set_option maxRecDepth 100000 in
theorem c_X11_week (l : Launch) (E : Nat → Nat) (D : va_G) (G : th_G) (h0 n : Nat) (hG0 : G h0 = some (15, n)) (x1 x2 : Int32) : Met l yX11_week (tb (.code yX11_week cX11_week 3 (some .int))) (rm 8) (va_Pc [.ref h0, .int x1, .int x2] (th_P E D G)) (QI E D G (fun r => True)) 0 0 (th_A G) := by
  refine Met.ofW (cc := cX11_week) (maxL := 3) (ret := (some .int)) (by decide) rfl ?_
  intro p e s m args below meth c s₁ B hml hv
  obtain ⟨hav, hI, hN, hK⟩ := hv
  have hx := B.exec
  have hb := B.bytes
  have hr := B.returns
  have hts := atoms_spec (ws := tb (.code yX11_week cX11_week 3 (some .int))) B.pre
  have hown : s.vm.findClass RX11 = some m.cls := findClass_of_methodNamed B.named
  have hlocks := B.notSynchronized
  have hS : va_S (th_A G) s.heap s.heap [] := va_S.rf
  have hl := lv_entry ([.ref h0, .int x1, .int x2]) (n := 3) (Nat.le_of_ble_eq_true rfl)
  rw [show entryFrame m args 3 = entryFrame m ([.ref h0, .int x1, .int x2] : List Value).toArray 3 from by rw [hav], lg_entry_eq]
  generalize (lg_sl ([.ref h0, .int x1, .int x2]) ++ List.replicate (3 - (lg_sl ([.ref h0, .int x1, .int x2])).length) Slot.unset).toArray = ls at hl ⊢
  have hl : lv_has ls 3 [(0, .ref h0), (1, .int x1), (2, .int x2)] := hl
  generalize hR : (headSpec (tb (.code yX11_week cX11_week 3 (some .int))) (rm 8)).room = R
  have hR := hR.symm
  generalize hQ : MQ below (QI E D G (fun r => True)) args s 0 0 (th_A G) = QF
  have hQ := hQ.symm
  have J_21 : ∀ (H : Heap) (locs : List Loc) (ls : Array Slot) , lv_has ls 3 [(0, .ref h0), (1, .int x1), (2, .int x2)] → th_I (okC E) D G [] H → va_S (th_A G) s.heap H locs → W p l e R s m args below meth c H locs 0 0 QF (F0 m 21 ls []) := by
    intro H locs ls  hl  hI hS
    refine lv_aload_n hx hb dX11_week_21 rfl (lv_at hl 0 rfl) ?_
    refine lv_iconst (v := (-1)) hx hb dX11_week_22 (by decide) ?_
    refine th_cVi (As := [.int (-1)]) (rest := []) (n := 1) (d := 0) ⟨hx, hb, hml, hown, hts⟩ (c_X11_refuse l E D G h0 (n) hG0 (-1)) wd_407 wd_409 wp_0 wd_1 wd_410 (by decide +kernel) ⟨by rw [hR]; exact Nat.le_of_ble_eq_true rfl, by rw [hR]; exact Nat.le_of_ble_eq_true rfl⟩ hI hN hK hS (rc_15 hI hG0 List.not_mem_nil) rfl rfl hl.1 rfl (Nat.le_of_ble_eq_true rfl) dX11_week_23 ⟨Nat.zero_le _, Nat.zero_le _⟩ (fun r400 H locs hp hI hS => ?_)
    have hp := hp.symm
    subst hp
    have hpost : True := trivial
    rw [hQ]
    exact W.iret (v := (-1)) hx hb hr (fun t ht hW => ⟨⟨(-1), (), rfl, hpost, by rw [ht]; exact hI, hN.warm hW, va_K.moved hW.alike hK⟩, hS.F ht⟩) hS.2.2 dX11_week_26
  refine lv_iload_n hx hb dX11_week_0 rfl (lv_at hl 1 rfl) ?_
  have k401 := iv_lo x1
  have k402 := iv_hi x1
  refine lv_if_lt (tgt := 21) hx hb dX11_week_1 (by decide) (fun c403 => ?_) (fun c403 => ?_)
  · skip
    have k404 := iv_lt (X := x1.toInt) (Y := (0)) rfl (by decide) c403
    exact J_21 s.heap [] ls  (lv_sub hl [0, 1, 2] rfl)  hI hS
  · skip
    have k405 := iv_nlt (X := x1.toInt) (Y := (0)) rfl (by decide) c403
    refine lv_iload_n hx hb dX11_week_4 rfl (lv_at hl 1 rfl) ?_
    refine lv_ldcw hx hb hown (hts _ (tb_c wd_1181)) dX11_week_5 ?_
    refine lv_icmp_gt (tgt := 21) hx hb dX11_week_8 (by decide) (fun c406 => ?_) (fun c406 => ?_)
    · skip
      have k407 := iv_lt (X := (1000000)) (Y := x1.toInt) (by decide) rfl c406
      exact J_21 s.heap [] ls  (lv_sub hl [0, 1, 2] rfl)  hI hS
    · skip
      have k408 := iv_nlt (X := (1000000)) (Y := x1.toInt) (by decide) rfl c406
      refine lv_iload_n hx hb dX11_week_11 rfl (lv_at hl 2 rfl) ?_
      have k409 := iv_lo x2
      have k410 := iv_hi x2
      refine lv_if_lt (tgt := 21) hx hb dX11_week_12 (by decide) (fun c411 => ?_) (fun c411 => ?_)
      · skip
        have k412 := iv_lt (X := x2.toInt) (Y := (0)) rfl (by decide) c411
        exact J_21 s.heap [] ls  (lv_sub hl [0, 1, 2] rfl)  hI hS
      · skip
        have k413 := iv_nlt (X := x2.toInt) (Y := (0)) rfl (by decide) c411
        refine lv_iload_n hx hb dX11_week_15 rfl (lv_at hl 2 rfl) ?_
        refine lv_bipush (v := 100) hx hb dX11_week_16 (by decide) ?_
        refine lv_icmp_le (tgt := 27) hx hb dX11_week_18 (by decide) (fun c414 => ?_) (fun c414 => ?_)
        · skip
          have k415 := iv_le (X := x2.toInt) (Y := (100)) rfl (by decide) c414
          refine lv_aload_n hx hb dX11_week_27 rfl (lv_at hl 0 rfl) ?_
          refine lv_iconst (v := 1) hx hb dX11_week_28 (by decide) ?_
          obtain ⟨a416, a419, a421, a423, a425, a427, a429, a431, a433, a435, a437, w439, w442, w443, w444, w445, hO, hq417, hq418, hq420, hq422, hq424, hq426, hq428, hq430, hq432, hq434, hq436, hq438, ⟨k440, k441⟩, k446⟩ := op_15 hI hG0 List.not_mem_nil
          have hI := th_I.weak (a := h0) hI
          refine th_put (ty := .boolean) hx hb hts inT11 tyX11 tyX11_ok nmX11 hown hK hO hS ⟨_, hG0⟩ rfl 16 (by decide) (hts _ (tb_c wd_361)) rfl rfl (by decide +kernel) (by decide) rfl (Nat.le_of_ble_eq_true rfl) dX11_week_29 (fun H locs hO oq hS => ?_)
          have hI := th_I.moved hI oq
          have hO : va_at D vwCl (h0, .inr (11, [.ref a416, .ref n, .ref a419, .ref a421, .ref a423, .ref a425, .ref a427, .ref a429, .ref a431, .ref a433, .ref a435, .ref a437, .int w439, .int w442, .int w443, .int w444, .int 1])) H := hO
          refine lv_aload_n hx hb dX11_week_32 rfl (lv_at hl 0 rfl) ?_
          refine lv_aload_n hx hb dX11_week_33 rfl (lv_at hl 0 rfl) ?_
          refine th_get hx hb hts inT11 hown hK hO rfl 7 (by decide) (hts _ (tb_c wd_352)) rfl rfl dX11_week_34 ?_
          refine lv_iload_n hx hb dX11_week_37 rfl (lv_at hl 1 rfl) ?_
          refine lv_iload_n hx hb dX11_week_38 rfl (lv_at hl 2 rfl) ?_
          refine lv_aload_n hx hb dX11_week_39 rfl (lv_at hl 0 rfl) ?_
          refine th_get hx hb hts inT11 hown hK hO rfl 4 (by decide) (hts _ (tb_c wd_349)) rfl rfl dX11_week_40 ?_
          have hI := th_I.close hI hG0 hO (ok_15 hq417 hq418 hq420 hq422 hq424 hq426 hq428 hq430 hq432 hq434 hq436 hq438 ⟨by omega, by omega⟩ k446)
          refine th_cVi (As := [.int x1, .int x2, .ref a423]) (rest := [.ref h0]) (n := 3) (d := 7) ⟨hx, hb, hml, hown, hts⟩ (c_X9_drawWeek l E D G a429 hq430 x1 x2 a423 hq424) wd_1182 wd_1183 wd_1184 wd_8 wd_1185 (by decide +kernel) ⟨by rw [hR]; exact Nat.le_of_ble_eq_true rfl, by rw [hR]; exact Nat.le_of_ble_eq_true rfl⟩ hI hN hK hS (rc_10 hI hq430 List.not_mem_nil) rfl rfl hl.1 rfl (Nat.le_of_ble_eq_true rfl) dX11_week_43 ⟨Nat.zero_le _, Nat.zero_le _⟩ (fun r447 H locs hp hI hS => ?_)
          refine th_cVi (As := [.int r447]) (rest := []) (n := 1) (d := 0) ⟨hx, hb, hml, hown, hts⟩ (c_X11_accept l E D G h0 (n) hG0 r447) wd_447 wd_449 wp_3 wd_1 wd_450 (by decide +kernel) ⟨by rw [hR]; exact Nat.le_of_ble_eq_true rfl, by rw [hR]; exact Nat.le_of_ble_eq_true rfl⟩ hI hN hK hS (rc_15 hI hG0 List.not_mem_nil) rfl rfl hl.1 rfl (Nat.le_of_ble_eq_true rfl) dX11_week_46 ⟨Nat.zero_le _, Nat.zero_le _⟩ (fun r448 H locs hp hI hS => ?_)
          have hp := hp.symm
          subst hp
          have hpost : True := trivial
          rw [hQ]
          exact W.iret (v := r447) hx hb hr (fun t ht hW => ⟨⟨r447, (), rfl, hpost, by rw [ht]; exact hI, hN.warm hW, va_K.moved hW.alike hK⟩, hS.F ht⟩) hS.2.2 dX11_week_49
        · skip
          have k449 := iv_nle (X := x2.toInt) (Y := (100)) rfl (by decide) c414
          exact J_21 s.heap [] ls  (lv_sub hl [0, 1, 2] rfl)  hI hS
theorem dX11_drawn_0g : (decode cX11_drawn 0 = .ok (.aload_n 0, 1)) ∧ (decode cX11_drawn 1 = .ok (.getfield 102, 3)) ∧ (decode cX11_drawn 4 = .ok (.ifCond .eq 19, 3)) ∧ (decode cX11_drawn 7 = .ok (.iload_n 1, 1)) ∧ (decode cX11_drawn 8 = .ok (.invokestatic 106, 3)) ∧ (decode cX11_drawn 11 = .ok (.ifCond .eq 12, 3)) ∧ (decode cX11_drawn 14 = .ok (.aload_n 0, 1)) ∧ (decode cX11_drawn 15 = .ok (.getfield 27, 3)) ∧ (decode cX11_drawn 18 = .ok (.iload_n 1, 1)) ∧ (decode cX11_drawn 19 = .ok (.iaload, 1)) := by decide +kernel
theorem dX11_drawn_0 : decode cX11_drawn 0 = .ok (.aload_n 0, 1) := dX11_drawn_0g.1
theorem dX11_drawn_1 : decode cX11_drawn 1 = .ok (.getfield 102, 3) := dX11_drawn_0g.2.1
theorem dX11_drawn_4 : decode cX11_drawn 4 = .ok (.ifCond .eq 19, 3) := dX11_drawn_0g.2.2.1
theorem dX11_drawn_7 : decode cX11_drawn 7 = .ok (.iload_n 1, 1) := dX11_drawn_0g.2.2.2.1
theorem dX11_drawn_8 : decode cX11_drawn 8 = .ok (.invokestatic 106, 3) := dX11_drawn_0g.2.2.2.2.1
theorem dX11_drawn_11 : decode cX11_drawn 11 = .ok (.ifCond .eq 12, 3) := dX11_drawn_0g.2.2.2.2.2.1
theorem dX11_drawn_14 : decode cX11_drawn 14 = .ok (.aload_n 0, 1) := dX11_drawn_0g.2.2.2.2.2.2.1
theorem dX11_drawn_15 : decode cX11_drawn 15 = .ok (.getfield 27, 3) := dX11_drawn_0g.2.2.2.2.2.2.2.1
theorem dX11_drawn_18 : decode cX11_drawn 18 = .ok (.iload_n 1, 1) := dX11_drawn_0g.2.2.2.2.2.2.2.2.1
theorem dX11_drawn_19 : decode cX11_drawn 19 = .ok (.iaload, 1) := dX11_drawn_0g.2.2.2.2.2.2.2.2.2
theorem dX11_drawn_20g : (decode cX11_drawn 20 = .ok (.goto 4, 3)) ∧ (decode cX11_drawn 23 = .ok (.iconst (-1), 1)) ∧ (decode cX11_drawn 24 = .ok (.ireturn, 1)) := by decide +kernel
theorem dX11_drawn_20 : decode cX11_drawn 20 = .ok (.goto 4, 3) := dX11_drawn_20g.1
theorem dX11_drawn_23 : decode cX11_drawn 23 = .ok (.iconst (-1), 1) := dX11_drawn_20g.2.1
theorem dX11_drawn_24 : decode cX11_drawn 24 = .ok (.ireturn, 1) := dX11_drawn_20g.2.2
set_option maxHeartbeats 4000000 in
set_option maxRecDepth 100000 in
theorem c_X11_drawn (l : Launch) (E : Nat → Nat) (D : va_G) (G : th_G) (h0 n : Nat) (hG0 : G h0 = some (15, n)) (x1 : Int32) : Met l yX11_drawn (tb (.code yX11_drawn cX11_drawn 2 (some .int))) (rm 1) (va_Pc [.ref h0, .int x1] (th_P E D G)) (QI E D G (fun r => True)) 0 0 (th_A G) := by
  refine Met.ofW (cc := cX11_drawn) (maxL := 2) (ret := (some .int)) (by decide) rfl ?_
  intro p e s m args below meth c s₁ B hml hv
  obtain ⟨hav, hI, hN, hK⟩ := hv
  have hx := B.exec
  have hb := B.bytes
  have hr := B.returns
  have hts := atoms_spec (ws := tb (.code yX11_drawn cX11_drawn 2 (some .int))) B.pre
  have hown : s.vm.findClass RX11 = some m.cls := findClass_of_methodNamed B.named
  have hlocks := B.notSynchronized
  have hS : va_S (th_A G) s.heap s.heap [] := va_S.rf
  have hl := lv_entry ([.ref h0, .int x1]) (n := 2) (Nat.le_of_ble_eq_true rfl)
  rw [show entryFrame m args 2 = entryFrame m ([.ref h0, .int x1] : List Value).toArray 2 from by rw [hav], lg_entry_eq]
  generalize (lg_sl ([.ref h0, .int x1]) ++ List.replicate (2 - (lg_sl ([.ref h0, .int x1])).length) Slot.unset).toArray = ls at hl ⊢
  have hl : lv_has ls 2 [(0, .ref h0), (1, .int x1)] := hl
  generalize hR : (headSpec (tb (.code yX11_drawn cX11_drawn 2 (some .int))) (rm 1)).room = R
  have hR := hR.symm
  generalize hQ : MQ below (QI E D G (fun r => True)) args s 0 0 (th_A G) = QF
  have hQ := hQ.symm
  refine lv_aload_n hx hb dX11_drawn_0 rfl (lv_at hl 0 rfl) ?_
  obtain ⟨a1, a4, a6, a8, a10, a12, a14, a16, a18, a20, a22, w24, w27, w28, w29, w30, hO, hq2, hq3, hq5, hq7, hq9, hq11, hq13, hq15, hq17, hq19, hq21, hq23, ⟨k25, k26⟩, k31⟩ := op_15 hI hG0 List.not_mem_nil
  have hI := th_I.weak (a := h0) hI
  refine th_get hx hb hts inT11 hown hK hO rfl 16 (by decide) (hts _ (tb_c wd_361)) rfl rfl dX11_drawn_1 ?_
  have k32 := iv_lo w30
  have k33 := iv_hi w30
  refine lv_if_eq (tgt := 23) hx hb dX11_drawn_4 (by decide) (fun c34 => ?_) (fun c34 => ?_)
  · skip
    have k35 := iv_eq (X := w30.toInt) (Y := (0)) rfl (by decide) c34
    refine lv_iconst (v := (-1)) hx hb dX11_drawn_23 (by decide) ?_
    have hI := th_I.close hI hG0 hO (ok_15 hq2 hq3 hq5 hq7 hq9 hq11 hq13 hq15 hq17 hq19 hq21 hq23 ⟨by omega, by omega⟩ k31)
    have hpost : True := trivial
    rw [hQ]
    exact W.iret (v := (-1)) hx hb hr (fun t ht hW => ⟨⟨(-1), (), rfl, hpost, by rw [ht]; exact hI, hN.warm hW, va_K.moved hW.alike hK⟩, hS.F ht⟩) hS.2.2 dX11_drawn_24
  · skip
    have k36 := iv_ne (X := w30.toInt) (Y := (0)) rfl (by decide) c34
    refine lv_iload_n hx hb dX11_drawn_7 rfl (lv_at hl 1 rfl) ?_
    refine th_cSs (As := [.int x1]) (rest := []) (n := 1) (d := 0) ⟨hx, hb, hml, hown, hts⟩ (c_X11_isCell l s.heap x1) wd_401 wd_402 wd_1 wd_403 (by decide +kernel) ⟨by rw [hR]; exact Nat.le_of_ble_eq_true rfl, by rw [hR]; exact Nat.le_of_ble_eq_true rfl⟩ hN hS rfl hl.1 rfl (Nat.le_of_ble_eq_true rfl) dX11_drawn_8 ⟨Nat.zero_le _, Nat.zero_le _⟩ (fun r37 locs hp hS => ?_)
    rcases hp with ⟨rfl, hp⟩ | ⟨rfl, hp⟩
    · skip
      try simp only [rg, not_and, Int.not_le] at hp
      have hp38 := hp
      refine lv_if_eq (tgt := 23) hx hb dX11_drawn_11 (by decide) (fun c => absurd c (by decide)) (fun _ => ?_)
      refine lv_aload_n hx hb dX11_drawn_14 rfl (lv_at hl 0 rfl) ?_
      refine th_get hx hb hts inT11 hown hK hO rfl 4 (by decide) (hts _ (tb_c wd_349)) rfl rfl dX11_drawn_15 ?_
      refine lv_iload_n hx hb dX11_drawn_18 rfl (lv_at hl 1 rfl) ?_
      obtain ⟨_, hA39⟩ := op_0 hI hq9 (th_ne hG0 hq9 (show (15 : Nat) ≠ 0 by decide))
      refine th_iald hx hb hK hA39 0 rfl (iv_in (X := x1.toInt) rfl (by omega) (by omega)) dX11_drawn_19 (fun v40 _ => ?_)
      refine lv_goto (tgt := 24) hx hb dX11_drawn_20 (by decide) ?_
      have hI := th_I.close hI hG0 hO (ok_15 hq2 hq3 hq5 hq7 hq9 hq11 hq13 hq15 hq17 hq19 hq21 hq23 ⟨by omega, by omega⟩ k31)
      have hpost : True := trivial
      rw [hQ]
      exact W.iret (v := v40) hx hb hr (fun t ht hW => ⟨⟨v40, (), rfl, hpost, by rw [ht]; exact hI, hN.warm hW, va_K.moved hW.alike hK⟩, hS.F ht⟩) hS.2.2 dX11_drawn_24
    · skip
      try simp only [rg, not_and, Int.not_le] at hp
      have hp41 := hp
      refine lv_if_eq (tgt := 23) hx hb dX11_drawn_11 (by decide) (fun _ => ?_) (fun c => absurd c (by decide))
      refine lv_iconst (v := (-1)) hx hb dX11_drawn_23 (by decide) ?_
      have hI := th_I.close hI hG0 hO (ok_15 hq2 hq3 hq5 hq7 hq9 hq11 hq13 hq15 hq17 hq19 hq21 hq23 ⟨by omega, by omega⟩ k31)
      have hpost : True := trivial
      rw [hQ]
      exact W.iret (v := (-1)) hx hb hr (fun t ht hW => ⟨⟨(-1), (), rfl, hpost, by rw [ht]; exact hI, hN.warm hW, va_K.moved hW.alike hK⟩, hS.F ht⟩) hS.2.2 dX11_drawn_24
theorem dX11_count_0g : (decode cX11_count 0 = .ok (.iload_n 1, 1)) ∧ (decode cX11_count 1 = .ok (.bipush 10, 2)) ∧ (decode cX11_count 3 = .ok (.if_icmp .lt 19, 3)) ∧ (decode cX11_count 6 = .ok (.iload_n 1, 1)) ∧ (decode cX11_count 7 = .ok (.bipush 14, 2)) ∧ (decode cX11_count 9 = .ok (.if_icmp .gt 13, 3)) ∧ (decode cX11_count 12 = .ok (.aload_n 0, 1)) ∧ (decode cX11_count 13 = .ok (.getfield 24, 3)) ∧ (decode cX11_count 16 = .ok (.iload_n 1, 1)) ∧ (decode cX11_count 17 = .ok (.bipush 10, 2)) := by decide +kernel
theorem dX11_count_0 : decode cX11_count 0 = .ok (.iload_n 1, 1) := dX11_count_0g.1
theorem dX11_count_1 : decode cX11_count 1 = .ok (.bipush 10, 2) := dX11_count_0g.2.1
theorem dX11_count_3 : decode cX11_count 3 = .ok (.if_icmp .lt 19, 3) := dX11_count_0g.2.2.1
theorem dX11_count_6 : decode cX11_count 6 = .ok (.iload_n 1, 1) := dX11_count_0g.2.2.2.1
theorem dX11_count_7 : decode cX11_count 7 = .ok (.bipush 14, 2) := dX11_count_0g.2.2.2.2.1
theorem dX11_count_9 : decode cX11_count 9 = .ok (.if_icmp .gt 13, 3) := dX11_count_0g.2.2.2.2.2.1
theorem dX11_count_12 : decode cX11_count 12 = .ok (.aload_n 0, 1) := dX11_count_0g.2.2.2.2.2.2.1
theorem dX11_count_13 : decode cX11_count 13 = .ok (.getfield 24, 3) := dX11_count_0g.2.2.2.2.2.2.2.1
theorem dX11_count_16 : decode cX11_count 16 = .ok (.iload_n 1, 1) := dX11_count_0g.2.2.2.2.2.2.2.2.1
theorem dX11_count_17 : decode cX11_count 17 = .ok (.bipush 10, 2) := dX11_count_0g.2.2.2.2.2.2.2.2.2
theorem dX11_count_19g : (decode cX11_count 19 = .ok (.isub, 1)) ∧ (decode cX11_count 20 = .ok (.iaload, 1)) ∧ (decode cX11_count 21 = .ok (.ireturn, 1)) ∧ (decode cX11_count 22 = .ok (.iload_n 1, 1)) ∧ (decode cX11_count 23 = .ok (.tableswitch 183 0 15 #[77, 85, 93, 104, 115, 126, 137, 148, 159, 170, 183, 183, 183, 183, 183, 175], 77)) ∧ (decode cX11_count 100 = .ok (.aload_n 0, 1)) ∧ (decode cX11_count 101 = .ok (.getfield 12, 3)) ∧ (decode cX11_count 104 = .ok (.getfield 194, 3)) ∧ (decode cX11_count 107 = .ok (.ireturn, 1)) ∧ (decode cX11_count 108 = .ok (.aload_n 0, 1)) := by decide +kernel
theorem dX11_count_19 : decode cX11_count 19 = .ok (.isub, 1) := dX11_count_19g.1
theorem dX11_count_20 : decode cX11_count 20 = .ok (.iaload, 1) := dX11_count_19g.2.1
theorem dX11_count_21 : decode cX11_count 21 = .ok (.ireturn, 1) := dX11_count_19g.2.2.1
theorem dX11_count_22 : decode cX11_count 22 = .ok (.iload_n 1, 1) := dX11_count_19g.2.2.2.1
theorem dX11_count_23 : decode cX11_count 23 = .ok (.tableswitch 183 0 15 #[77, 85, 93, 104, 115, 126, 137, 148, 159, 170, 183, 183, 183, 183, 183, 175], 77) := dX11_count_19g.2.2.2.2.1
theorem dX11_count_100 : decode cX11_count 100 = .ok (.aload_n 0, 1) := dX11_count_19g.2.2.2.2.2.1
theorem dX11_count_101 : decode cX11_count 101 = .ok (.getfield 12, 3) := dX11_count_19g.2.2.2.2.2.2.1
theorem dX11_count_104 : decode cX11_count 104 = .ok (.getfield 194, 3) := dX11_count_19g.2.2.2.2.2.2.2.1
theorem dX11_count_107 : decode cX11_count 107 = .ok (.ireturn, 1) := dX11_count_19g.2.2.2.2.2.2.2.2.1
theorem dX11_count_108 : decode cX11_count 108 = .ok (.aload_n 0, 1) := dX11_count_19g.2.2.2.2.2.2.2.2.2
theorem dX11_count_109g : (decode cX11_count 109 = .ok (.getfield 12, 3)) ∧ (decode cX11_count 112 = .ok (.invokevirtual 345, 3)) ∧ (decode cX11_count 115 = .ok (.ireturn, 1)) ∧ (decode cX11_count 116 = .ok (.aload_n 0, 1)) ∧ (decode cX11_count 117 = .ok (.getfield 12, 3)) ∧ (decode cX11_count 120 = .ok (.getfield 145, 3)) ∧ (decode cX11_count 123 = .ok (.invokevirtual 166, 3)) ∧ (decode cX11_count 126 = .ok (.ireturn, 1)) ∧ (decode cX11_count 127 = .ok (.aload_n 0, 1)) ∧ (decode cX11_count 128 = .ok (.getfield 12, 3)) := by decide +kernel
theorem dX11_count_109 : decode cX11_count 109 = .ok (.getfield 12, 3) := dX11_count_109g.1
theorem dX11_count_112 : decode cX11_count 112 = .ok (.invokevirtual 345, 3) := dX11_count_109g.2.1
theorem dX11_count_115 : decode cX11_count 115 = .ok (.ireturn, 1) := dX11_count_109g.2.2.1
theorem dX11_count_116 : decode cX11_count 116 = .ok (.aload_n 0, 1) := dX11_count_109g.2.2.2.1
theorem dX11_count_117 : decode cX11_count 117 = .ok (.getfield 12, 3) := dX11_count_109g.2.2.2.2.1
theorem dX11_count_120 : decode cX11_count 120 = .ok (.getfield 145, 3) := dX11_count_109g.2.2.2.2.2.1
theorem dX11_count_123 : decode cX11_count 123 = .ok (.invokevirtual 166, 3) := dX11_count_109g.2.2.2.2.2.2.1
theorem dX11_count_126 : decode cX11_count 126 = .ok (.ireturn, 1) := dX11_count_109g.2.2.2.2.2.2.2.1
theorem dX11_count_127 : decode cX11_count 127 = .ok (.aload_n 0, 1) := dX11_count_109g.2.2.2.2.2.2.2.2.1
theorem dX11_count_128 : decode cX11_count 128 = .ok (.getfield 12, 3) := dX11_count_109g.2.2.2.2.2.2.2.2.2
theorem dX11_count_131g : (decode cX11_count 131 = .ok (.getfield 170, 3)) ∧ (decode cX11_count 134 = .ok (.invokevirtual 166, 3)) ∧ (decode cX11_count 137 = .ok (.ireturn, 1)) ∧ (decode cX11_count 138 = .ok (.aload_n 0, 1)) ∧ (decode cX11_count 139 = .ok (.getfield 12, 3)) ∧ (decode cX11_count 142 = .ok (.getfield 246, 3)) ∧ (decode cX11_count 145 = .ok (.invokevirtual 166, 3)) ∧ (decode cX11_count 148 = .ok (.ireturn, 1)) ∧ (decode cX11_count 149 = .ok (.aload_n 0, 1)) ∧ (decode cX11_count 150 = .ok (.getfield 12, 3)) := by decide +kernel
theorem dX11_count_131 : decode cX11_count 131 = .ok (.getfield 170, 3) := dX11_count_131g.1
theorem dX11_count_134 : decode cX11_count 134 = .ok (.invokevirtual 166, 3) := dX11_count_131g.2.1
theorem dX11_count_137 : decode cX11_count 137 = .ok (.ireturn, 1) := dX11_count_131g.2.2.1
theorem dX11_count_138 : decode cX11_count 138 = .ok (.aload_n 0, 1) := dX11_count_131g.2.2.2.1
theorem dX11_count_139 : decode cX11_count 139 = .ok (.getfield 12, 3) := dX11_count_131g.2.2.2.2.1
theorem dX11_count_142 : decode cX11_count 142 = .ok (.getfield 246, 3) := dX11_count_131g.2.2.2.2.2.1
theorem dX11_count_145 : decode cX11_count 145 = .ok (.invokevirtual 166, 3) := dX11_count_131g.2.2.2.2.2.2.1
theorem dX11_count_148 : decode cX11_count 148 = .ok (.ireturn, 1) := dX11_count_131g.2.2.2.2.2.2.2.1
theorem dX11_count_149 : decode cX11_count 149 = .ok (.aload_n 0, 1) := dX11_count_131g.2.2.2.2.2.2.2.2.1
theorem dX11_count_150 : decode cX11_count 150 = .ok (.getfield 12, 3) := dX11_count_131g.2.2.2.2.2.2.2.2.2
theorem dX11_count_153g : (decode cX11_count 153 = .ok (.getfield 266, 3)) ∧ (decode cX11_count 156 = .ok (.invokevirtual 166, 3)) ∧ (decode cX11_count 159 = .ok (.ireturn, 1)) ∧ (decode cX11_count 160 = .ok (.aload_n 0, 1)) ∧ (decode cX11_count 161 = .ok (.getfield 12, 3)) ∧ (decode cX11_count 164 = .ok (.getfield 292, 3)) ∧ (decode cX11_count 167 = .ok (.invokevirtual 166, 3)) ∧ (decode cX11_count 170 = .ok (.ireturn, 1)) ∧ (decode cX11_count 171 = .ok (.aload_n 0, 1)) ∧ (decode cX11_count 172 = .ok (.getfield 12, 3)) := by decide +kernel
theorem dX11_count_153 : decode cX11_count 153 = .ok (.getfield 266, 3) := dX11_count_153g.1
theorem dX11_count_156 : decode cX11_count 156 = .ok (.invokevirtual 166, 3) := dX11_count_153g.2.1
theorem dX11_count_159 : decode cX11_count 159 = .ok (.ireturn, 1) := dX11_count_153g.2.2.1
theorem dX11_count_160 : decode cX11_count 160 = .ok (.aload_n 0, 1) := dX11_count_153g.2.2.2.1
theorem dX11_count_161 : decode cX11_count 161 = .ok (.getfield 12, 3) := dX11_count_153g.2.2.2.2.1
theorem dX11_count_164 : decode cX11_count 164 = .ok (.getfield 292, 3) := dX11_count_153g.2.2.2.2.2.1
theorem dX11_count_167 : decode cX11_count 167 = .ok (.invokevirtual 166, 3) := dX11_count_153g.2.2.2.2.2.2.1
theorem dX11_count_170 : decode cX11_count 170 = .ok (.ireturn, 1) := dX11_count_153g.2.2.2.2.2.2.2.1
theorem dX11_count_171 : decode cX11_count 171 = .ok (.aload_n 0, 1) := dX11_count_153g.2.2.2.2.2.2.2.2.1
theorem dX11_count_172 : decode cX11_count 172 = .ok (.getfield 12, 3) := dX11_count_153g.2.2.2.2.2.2.2.2.2
theorem dX11_count_175g : (decode cX11_count 175 = .ok (.getfield 307, 3)) ∧ (decode cX11_count 178 = .ok (.invokevirtual 166, 3)) ∧ (decode cX11_count 181 = .ok (.ireturn, 1)) ∧ (decode cX11_count 182 = .ok (.aload_n 0, 1)) ∧ (decode cX11_count 183 = .ok (.getfield 12, 3)) ∧ (decode cX11_count 186 = .ok (.getfield 322, 3)) ∧ (decode cX11_count 189 = .ok (.invokevirtual 166, 3)) ∧ (decode cX11_count 192 = .ok (.ireturn, 1)) ∧ (decode cX11_count 193 = .ok (.aload_n 0, 1)) ∧ (decode cX11_count 194 = .ok (.getfield 89, 3)) := by decide +kernel
theorem dX11_count_175 : decode cX11_count 175 = .ok (.getfield 307, 3) := dX11_count_175g.1
theorem dX11_count_178 : decode cX11_count 178 = .ok (.invokevirtual 166, 3) := dX11_count_175g.2.1
theorem dX11_count_181 : decode cX11_count 181 = .ok (.ireturn, 1) := dX11_count_175g.2.2.1
theorem dX11_count_182 : decode cX11_count 182 = .ok (.aload_n 0, 1) := dX11_count_175g.2.2.2.1
theorem dX11_count_183 : decode cX11_count 183 = .ok (.getfield 12, 3) := dX11_count_175g.2.2.2.2.1
theorem dX11_count_186 : decode cX11_count 186 = .ok (.getfield 322, 3) := dX11_count_175g.2.2.2.2.2.1
theorem dX11_count_189 : decode cX11_count 189 = .ok (.invokevirtual 166, 3) := dX11_count_175g.2.2.2.2.2.2.1
theorem dX11_count_192 : decode cX11_count 192 = .ok (.ireturn, 1) := dX11_count_175g.2.2.2.2.2.2.2.1
theorem dX11_count_193 : decode cX11_count 193 = .ok (.aload_n 0, 1) := dX11_count_175g.2.2.2.2.2.2.2.2.1
theorem dX11_count_194 : decode cX11_count 194 = .ok (.getfield 89, 3) := dX11_count_175g.2.2.2.2.2.2.2.2.2
theorem dX11_count_197g : (decode cX11_count 197 = .ok (.ireturn, 1)) ∧ (decode cX11_count 198 = .ok (.aload_n 0, 1)) ∧ (decode cX11_count 199 = .ok (.getfield 12, 3)) ∧ (decode cX11_count 202 = .ok (.getfield 208, 3)) ∧ (decode cX11_count 205 = .ok (.ireturn, 1)) ∧ (decode cX11_count 206 = .ok (.iconst (-1), 1)) ∧ (decode cX11_count 207 = .ok (.ireturn, 1)) := by decide +kernel
theorem dX11_count_197 : decode cX11_count 197 = .ok (.ireturn, 1) := dX11_count_197g.1
theorem dX11_count_198 : decode cX11_count 198 = .ok (.aload_n 0, 1) := dX11_count_197g.2.1
theorem dX11_count_199 : decode cX11_count 199 = .ok (.getfield 12, 3) := dX11_count_197g.2.2.1
theorem dX11_count_202 : decode cX11_count 202 = .ok (.getfield 208, 3) := dX11_count_197g.2.2.2.1
theorem dX11_count_205 : decode cX11_count 205 = .ok (.ireturn, 1) := dX11_count_197g.2.2.2.2.1
theorem dX11_count_206 : decode cX11_count 206 = .ok (.iconst (-1), 1) := dX11_count_197g.2.2.2.2.2.1
theorem dX11_count_207 : decode cX11_count 207 = .ok (.ireturn, 1) := dX11_count_197g.2.2.2.2.2.2
set_option maxHeartbeats 4000000 in
set_option maxRecDepth 100000 in
theorem c_X11_count (l : Launch) (E : Nat → Nat) (D : va_G) (G : th_G) (h0 n : Nat) (hG0 : G h0 = some (15, n)) (x1 : Int32) : Met l yX11_count (tb (.code yX11_count cX11_count 2 (some .int))) (rm 1) (va_Pc [.ref h0, .int x1] (th_P E D G)) (QI E D G (fun r => True)) 0 0 (th_A G) := by
  refine Met.ofW (cc := cX11_count) (maxL := 2) (ret := (some .int)) (by decide) rfl ?_
  intro p e s m args below meth c s₁ B hml hv
  obtain ⟨hav, hI, hN, hK⟩ := hv
  have hx := B.exec
  have hb := B.bytes
  have hr := B.returns
  have hts := atoms_spec (ws := tb (.code yX11_count cX11_count 2 (some .int))) B.pre
  have hown : s.vm.findClass RX11 = some m.cls := findClass_of_methodNamed B.named
  have hlocks := B.notSynchronized
  have hS : va_S (th_A G) s.heap s.heap [] := va_S.rf
  have hl := lv_entry ([.ref h0, .int x1]) (n := 2) (Nat.le_of_ble_eq_true rfl)
  rw [show entryFrame m args 2 = entryFrame m ([.ref h0, .int x1] : List Value).toArray 2 from by rw [hav], lg_entry_eq]
  generalize (lg_sl ([.ref h0, .int x1]) ++ List.replicate (2 - (lg_sl ([.ref h0, .int x1])).length) Slot.unset).toArray = ls at hl ⊢
  have hl : lv_has ls 2 [(0, .ref h0), (1, .int x1)] := hl
  generalize hR : (headSpec (tb (.code yX11_count cX11_count 2 (some .int))) (rm 1)).room = R
  have hR := hR.symm
  generalize hQ : MQ below (QI E D G (fun r => True)) args s 0 0 (th_A G) = QF
  have hQ := hQ.symm
  have J_22 : ∀ (H : Heap) (locs : List Loc) (ls : Array Slot) , lv_has ls 2 [(0, .ref h0), (1, .int x1)] → th_I (okC E) D G [] H → va_S (th_A G) s.heap H locs → W p l e R s m args below meth c H locs 0 0 QF (F0 m 22 ls []) := by
    intro H locs ls  hl  hI hS
    refine lv_iload_n hx hb dX11_count_22 rfl (lv_at hl 1 rfl) ?_
    have k5196 := iv_lo x1
    have k5197 := iv_hi x1
    by_cases c5198 : x1 = 0
    · skip
      have k5199 := iv_eq (X := x1.toInt) (Y := 0) rfl (by decide) c5198
      refine lv_tableIn (tgt := 100) (off := 77) hx hb dX11_count_23 (by omega) (by omega) (by rw [k5199]; rfl) (by decide) ?_
      refine lv_aload_n hx hb dX11_count_100 rfl (lv_at hl 0 rfl) ?_
      obtain ⟨a5200, a5203, a5205, a5207, a5209, a5211, a5213, a5215, a5217, a5219, a5221, w5223, w5226, w5227, w5228, w5229, hO, hq5201, hq5202, hq5204, hq5206, hq5208, hq5210, hq5212, hq5214, hq5216, hq5218, hq5220, hq5222, ⟨k5224, k5225⟩, k5230⟩ := op_15 hI hG0 List.not_mem_nil
      have hI := th_I.weak (a := h0) hI
      refine th_get hx hb hts inT11 hown hK hO rfl 0 (by decide) (hts _ (tb_c wd_345)) rfl rfl dX11_count_101 ?_
      have hI := th_I.close hI hG0 hO (ok_15 hq5201 hq5202 hq5204 hq5206 hq5208 hq5210 hq5212 hq5214 hq5216 hq5218 hq5220 hq5222 ⟨by omega, by omega⟩ k5230)
      obtain ⟨a5231, a5233, a5235, a5237, a5239, a5241, a5243, a5245, a5247, a5249, w5251, w5254, w5255, w5256, hO, hq5232, hq5234, hq5236, hq5238, hq5240, hq5242, hq5244, hq5246, hq5248, hq5250, ⟨k5252, k5253⟩, k5257⟩ := op_6 hI hq5201 List.not_mem_nil
      have hI := th_I.weak (a := a5200) hI
      refine th_getN hx hb hts inT6 hown hK hN hO rfl 10 (by decide) wn_83 rfl rfl dX11_count_104 ?_
      have k5258 := eaW_out k5257
      have hI := th_I.close hI hq5201 hO (ok_6 hq5232 hq5234 hq5236 hq5238 hq5240 hq5242 hq5244 hq5246 hq5248 hq5250 ⟨by omega, by omega⟩ k5257)
      have hpost : True := trivial
      rw [hQ]
      exact W.iret (v := w5251) hx hb hr (fun t ht hW => ⟨⟨w5251, (), rfl, hpost, by rw [ht]; exact hI, hN.warm hW, va_K.moved hW.alike hK⟩, hS.F ht⟩) hS.2.2 dX11_count_107
    have k5259 := iv_ne (X := x1.toInt) (Y := 0) rfl (by decide) c5198
    by_cases c5260 : x1 = 1
    · skip
      have k5261 := iv_eq (X := x1.toInt) (Y := 1) rfl (by decide) c5260
      refine lv_tableIn (tgt := 108) (off := 85) hx hb dX11_count_23 (by omega) (by omega) (by rw [k5261]; rfl) (by decide) ?_
      refine lv_aload_n hx hb dX11_count_108 rfl (lv_at hl 0 rfl) ?_
      obtain ⟨a5262, a5265, a5267, a5269, a5271, a5273, a5275, a5277, a5279, a5281, a5283, w5285, w5288, w5289, w5290, w5291, hO, hq5263, hq5264, hq5266, hq5268, hq5270, hq5272, hq5274, hq5276, hq5278, hq5280, hq5282, hq5284, ⟨k5286, k5287⟩, k5292⟩ := op_15 hI hG0 List.not_mem_nil
      have hI := th_I.weak (a := h0) hI
      refine th_get hx hb hts inT11 hown hK hO rfl 0 (by decide) (hts _ (tb_c wd_345)) rfl rfl dX11_count_109 ?_
      have hI := th_I.close hI hG0 hO (ok_15 hq5263 hq5264 hq5266 hq5268 hq5270 hq5272 hq5274 hq5276 hq5278 hq5280 hq5282 hq5284 ⟨by omega, by omega⟩ k5292)
      refine th_cVi (As := []) (rest := []) (n := 0) (d := 0) ⟨hx, hb, hml, hown, hts⟩ (c_X6_countStrikes l E D G a5262 hq5263 ) wd_1219 wd_1220 wd_1221 wd_2 wd_1222 (by decide +kernel) ⟨by rw [hR]; exact Nat.le_of_ble_eq_true rfl, by rw [hR]; exact Nat.le_of_ble_eq_true rfl⟩ hI hN hK hS (rc_6 hI hq5263 List.not_mem_nil) rfl rfl hl.1 rfl (Nat.le_of_ble_eq_true rfl) dX11_count_112 ⟨Nat.zero_le _, Nat.zero_le _⟩ (fun r5293 H locs hp hI hS => ?_)
      have hpost : True := trivial
      rw [hQ]
      exact W.iret (v := r5293) hx hb hr (fun t ht hW => ⟨⟨r5293, (), rfl, hpost, by rw [ht]; exact hI, hN.warm hW, va_K.moved hW.alike hK⟩, hS.F ht⟩) hS.2.2 dX11_count_115
    have k5294 := iv_ne (X := x1.toInt) (Y := 1) rfl (by decide) c5260
    by_cases c5295 : x1 = 2
    · skip
      have k5296 := iv_eq (X := x1.toInt) (Y := 2) rfl (by decide) c5295
      refine lv_tableIn (tgt := 116) (off := 93) hx hb dX11_count_23 (by omega) (by omega) (by rw [k5296]; rfl) (by decide) ?_
      refine lv_aload_n hx hb dX11_count_116 rfl (lv_at hl 0 rfl) ?_
      obtain ⟨a5297, a5300, a5302, a5304, a5306, a5308, a5310, a5312, a5314, a5316, a5318, w5320, w5323, w5324, w5325, w5326, hO, hq5298, hq5299, hq5301, hq5303, hq5305, hq5307, hq5309, hq5311, hq5313, hq5315, hq5317, hq5319, ⟨k5321, k5322⟩, k5327⟩ := op_15 hI hG0 List.not_mem_nil
      have hI := th_I.weak (a := h0) hI
      refine th_get hx hb hts inT11 hown hK hO rfl 0 (by decide) (hts _ (tb_c wd_345)) rfl rfl dX11_count_117 ?_
      have hI := th_I.close hI hG0 hO (ok_15 hq5298 hq5299 hq5301 hq5303 hq5305 hq5307 hq5309 hq5311 hq5313 hq5315 hq5317 hq5319 ⟨by omega, by omega⟩ k5327)
      obtain ⟨a5328, a5330, a5332, a5334, a5336, a5338, a5340, a5342, a5344, a5346, w5348, w5351, w5352, w5353, hO, hq5329, hq5331, hq5333, hq5335, hq5337, hq5339, hq5341, hq5343, hq5345, hq5347, ⟨k5349, k5350⟩, k5354⟩ := op_6 hI hq5298 List.not_mem_nil
      have hI := th_I.weak (a := a5297) hI
      refine th_getN hx hb hts inT6 hown hK hN hO rfl 2 (by decide) wn_61 rfl rfl dX11_count_120 ?_
      have hI := th_I.close hI hq5298 hO (ok_6 hq5329 hq5331 hq5333 hq5335 hq5337 hq5339 hq5341 hq5343 hq5345 hq5347 ⟨by omega, by omega⟩ k5354)
      obtain ⟨a5356, w5358, hO, hq5357, ⟨k5359, k5360⟩, k5361⟩ := op_4 hI hq5333 List.not_mem_nil
      have hI := th_I.weak (a := a5332) hI
      have k5362 : (nI 8).toInt = ((8 : Nat) : Int) := nI_toInt (by omega)
      refine th_cVs (As := []) (rest := []) (n := 0) (d := 0) ⟨hx, hb, hml, hown, hts⟩ (c_X4_size l E D H a5332 8 a5356 w5358 hO (by omega) (by omega) (by omega)) wd_506 wd_507 wd_508 wd_3 wd_509 (by decide +kernel) ⟨by rw [hR]; exact Nat.le_of_ble_eq_true rfl, by rw [hR]; exact Nat.le_of_ble_eq_true rfl⟩ hN hK hS ⟨_, hO⟩ rfl rfl hl.1 rfl (Nat.le_of_ble_eq_true rfl) dX11_count_123 ⟨Nat.zero_le _, Nat.zero_le _⟩ (fun r5355 locs hp hS => ?_)
      have hp := hp.symm
      subst hp
      have hI := th_I.close hI hq5333 hO (ok_4 hq5357 ⟨by omega, by omega⟩ (by omega))
      have hpost : True := trivial
      rw [hQ]
      exact W.iret (v := w5358) hx hb hr (fun t ht hW => ⟨⟨w5358, (), rfl, hpost, by rw [ht]; exact hI, hN.warm hW, va_K.moved hW.alike hK⟩, hS.F ht⟩) hS.2.2 dX11_count_126
    have k5363 := iv_ne (X := x1.toInt) (Y := 2) rfl (by decide) c5295
    by_cases c5364 : x1 = 3
    · skip
      have k5365 := iv_eq (X := x1.toInt) (Y := 3) rfl (by decide) c5364
      refine lv_tableIn (tgt := 127) (off := 104) hx hb dX11_count_23 (by omega) (by omega) (by rw [k5365]; rfl) (by decide) ?_
      refine lv_aload_n hx hb dX11_count_127 rfl (lv_at hl 0 rfl) ?_
      obtain ⟨a5366, a5369, a5371, a5373, a5375, a5377, a5379, a5381, a5383, a5385, a5387, w5389, w5392, w5393, w5394, w5395, hO, hq5367, hq5368, hq5370, hq5372, hq5374, hq5376, hq5378, hq5380, hq5382, hq5384, hq5386, hq5388, ⟨k5390, k5391⟩, k5396⟩ := op_15 hI hG0 List.not_mem_nil
      have hI := th_I.weak (a := h0) hI
      refine th_get hx hb hts inT11 hown hK hO rfl 0 (by decide) (hts _ (tb_c wd_345)) rfl rfl dX11_count_128 ?_
      have hI := th_I.close hI hG0 hO (ok_15 hq5367 hq5368 hq5370 hq5372 hq5374 hq5376 hq5378 hq5380 hq5382 hq5384 hq5386 hq5388 ⟨by omega, by omega⟩ k5396)
      obtain ⟨a5397, a5399, a5401, a5403, a5405, a5407, a5409, a5411, a5413, a5415, w5417, w5420, w5421, w5422, hO, hq5398, hq5400, hq5402, hq5404, hq5406, hq5408, hq5410, hq5412, hq5414, hq5416, ⟨k5418, k5419⟩, k5423⟩ := op_6 hI hq5367 List.not_mem_nil
      have hI := th_I.weak (a := a5366) hI
      refine th_getN hx hb hts inT6 hown hK hN hO rfl 3 (by decide) wn_64 rfl rfl dX11_count_131 ?_
      have hI := th_I.close hI hq5367 hO (ok_6 hq5398 hq5400 hq5402 hq5404 hq5406 hq5408 hq5410 hq5412 hq5414 hq5416 ⟨by omega, by omega⟩ k5423)
      obtain ⟨a5425, w5427, hO, hq5426, ⟨k5428, k5429⟩, k5430⟩ := op_4 hI hq5404 List.not_mem_nil
      have hI := th_I.weak (a := a5403) hI
      have k5431 : (nI 6).toInt = ((6 : Nat) : Int) := nI_toInt (by omega)
      refine th_cVs (As := []) (rest := []) (n := 0) (d := 0) ⟨hx, hb, hml, hown, hts⟩ (c_X4_size l E D H a5403 6 a5425 w5427 hO (by omega) (by omega) (by omega)) wd_506 wd_507 wd_508 wd_3 wd_509 (by decide +kernel) ⟨by rw [hR]; exact Nat.le_of_ble_eq_true rfl, by rw [hR]; exact Nat.le_of_ble_eq_true rfl⟩ hN hK hS ⟨_, hO⟩ rfl rfl hl.1 rfl (Nat.le_of_ble_eq_true rfl) dX11_count_134 ⟨Nat.zero_le _, Nat.zero_le _⟩ (fun r5424 locs hp hS => ?_)
      have hp := hp.symm
      subst hp
      have hI := th_I.close hI hq5404 hO (ok_4 hq5426 ⟨by omega, by omega⟩ (by omega))
      have hpost : True := trivial
      rw [hQ]
      exact W.iret (v := w5427) hx hb hr (fun t ht hW => ⟨⟨w5427, (), rfl, hpost, by rw [ht]; exact hI, hN.warm hW, va_K.moved hW.alike hK⟩, hS.F ht⟩) hS.2.2 dX11_count_137
    have k5432 := iv_ne (X := x1.toInt) (Y := 3) rfl (by decide) c5364
    by_cases c5433 : x1 = 4
    · skip
      have k5434 := iv_eq (X := x1.toInt) (Y := 4) rfl (by decide) c5433
      refine lv_tableIn (tgt := 138) (off := 115) hx hb dX11_count_23 (by omega) (by omega) (by rw [k5434]; rfl) (by decide) ?_
      refine lv_aload_n hx hb dX11_count_138 rfl (lv_at hl 0 rfl) ?_
      obtain ⟨a5435, a5438, a5440, a5442, a5444, a5446, a5448, a5450, a5452, a5454, a5456, w5458, w5461, w5462, w5463, w5464, hO, hq5436, hq5437, hq5439, hq5441, hq5443, hq5445, hq5447, hq5449, hq5451, hq5453, hq5455, hq5457, ⟨k5459, k5460⟩, k5465⟩ := op_15 hI hG0 List.not_mem_nil
      have hI := th_I.weak (a := h0) hI
      refine th_get hx hb hts inT11 hown hK hO rfl 0 (by decide) (hts _ (tb_c wd_345)) rfl rfl dX11_count_139 ?_
      have hI := th_I.close hI hG0 hO (ok_15 hq5436 hq5437 hq5439 hq5441 hq5443 hq5445 hq5447 hq5449 hq5451 hq5453 hq5455 hq5457 ⟨by omega, by omega⟩ k5465)
      obtain ⟨a5466, a5468, a5470, a5472, a5474, a5476, a5478, a5480, a5482, a5484, w5486, w5489, w5490, w5491, hO, hq5467, hq5469, hq5471, hq5473, hq5475, hq5477, hq5479, hq5481, hq5483, hq5485, ⟨k5487, k5488⟩, k5492⟩ := op_6 hI hq5436 List.not_mem_nil
      have hI := th_I.weak (a := a5435) hI
      refine th_getN hx hb hts inT6 hown hK hN hO rfl 4 (by decide) wn_68 rfl rfl dX11_count_142 ?_
      have hI := th_I.close hI hq5436 hO (ok_6 hq5467 hq5469 hq5471 hq5473 hq5475 hq5477 hq5479 hq5481 hq5483 hq5485 ⟨by omega, by omega⟩ k5492)
      obtain ⟨a5494, w5496, hO, hq5495, ⟨k5497, k5498⟩, k5499⟩ := op_4 hI hq5475 List.not_mem_nil
      have hI := th_I.weak (a := a5474) hI
      have k5500 : (nI 6).toInt = ((6 : Nat) : Int) := nI_toInt (by omega)
      refine th_cVs (As := []) (rest := []) (n := 0) (d := 0) ⟨hx, hb, hml, hown, hts⟩ (c_X4_size l E D H a5474 6 a5494 w5496 hO (by omega) (by omega) (by omega)) wd_506 wd_507 wd_508 wd_3 wd_509 (by decide +kernel) ⟨by rw [hR]; exact Nat.le_of_ble_eq_true rfl, by rw [hR]; exact Nat.le_of_ble_eq_true rfl⟩ hN hK hS ⟨_, hO⟩ rfl rfl hl.1 rfl (Nat.le_of_ble_eq_true rfl) dX11_count_145 ⟨Nat.zero_le _, Nat.zero_le _⟩ (fun r5493 locs hp hS => ?_)
      have hp := hp.symm
      subst hp
      have hI := th_I.close hI hq5475 hO (ok_4 hq5495 ⟨by omega, by omega⟩ (by omega))
      have hpost : True := trivial
      rw [hQ]
      exact W.iret (v := w5496) hx hb hr (fun t ht hW => ⟨⟨w5496, (), rfl, hpost, by rw [ht]; exact hI, hN.warm hW, va_K.moved hW.alike hK⟩, hS.F ht⟩) hS.2.2 dX11_count_148
    have k5501 := iv_ne (X := x1.toInt) (Y := 4) rfl (by decide) c5433
    by_cases c5502 : x1 = 5
    · skip
      have k5503 := iv_eq (X := x1.toInt) (Y := 5) rfl (by decide) c5502
      refine lv_tableIn (tgt := 149) (off := 126) hx hb dX11_count_23 (by omega) (by omega) (by rw [k5503]; rfl) (by decide) ?_
      refine lv_aload_n hx hb dX11_count_149 rfl (lv_at hl 0 rfl) ?_
      obtain ⟨a5504, a5507, a5509, a5511, a5513, a5515, a5517, a5519, a5521, a5523, a5525, w5527, w5530, w5531, w5532, w5533, hO, hq5505, hq5506, hq5508, hq5510, hq5512, hq5514, hq5516, hq5518, hq5520, hq5522, hq5524, hq5526, ⟨k5528, k5529⟩, k5534⟩ := op_15 hI hG0 List.not_mem_nil
      have hI := th_I.weak (a := h0) hI
      refine th_get hx hb hts inT11 hown hK hO rfl 0 (by decide) (hts _ (tb_c wd_345)) rfl rfl dX11_count_150 ?_
      have hI := th_I.close hI hG0 hO (ok_15 hq5505 hq5506 hq5508 hq5510 hq5512 hq5514 hq5516 hq5518 hq5520 hq5522 hq5524 hq5526 ⟨by omega, by omega⟩ k5534)
      obtain ⟨a5535, a5537, a5539, a5541, a5543, a5545, a5547, a5549, a5551, a5553, w5555, w5558, w5559, w5560, hO, hq5536, hq5538, hq5540, hq5542, hq5544, hq5546, hq5548, hq5550, hq5552, hq5554, ⟨k5556, k5557⟩, k5561⟩ := op_6 hI hq5505 List.not_mem_nil
      have hI := th_I.weak (a := a5504) hI
      refine th_getN hx hb hts inT6 hown hK hN hO rfl 5 (by decide) wn_71 rfl rfl dX11_count_153 ?_
      have hI := th_I.close hI hq5505 hO (ok_6 hq5536 hq5538 hq5540 hq5542 hq5544 hq5546 hq5548 hq5550 hq5552 hq5554 ⟨by omega, by omega⟩ k5561)
      obtain ⟨a5563, w5565, hO, hq5564, ⟨k5566, k5567⟩, k5568⟩ := op_4 hI hq5546 List.not_mem_nil
      have hI := th_I.weak (a := a5545) hI
      have k5569 : (nI 16).toInt = ((16 : Nat) : Int) := nI_toInt (by omega)
      refine th_cVs (As := []) (rest := []) (n := 0) (d := 0) ⟨hx, hb, hml, hown, hts⟩ (c_X4_size l E D H a5545 16 a5563 w5565 hO (by omega) (by omega) (by omega)) wd_506 wd_507 wd_508 wd_3 wd_509 (by decide +kernel) ⟨by rw [hR]; exact Nat.le_of_ble_eq_true rfl, by rw [hR]; exact Nat.le_of_ble_eq_true rfl⟩ hN hK hS ⟨_, hO⟩ rfl rfl hl.1 rfl (Nat.le_of_ble_eq_true rfl) dX11_count_156 ⟨Nat.zero_le _, Nat.zero_le _⟩ (fun r5562 locs hp hS => ?_)
      have hp := hp.symm
      subst hp
      have hI := th_I.close hI hq5546 hO (ok_4 hq5564 ⟨by omega, by omega⟩ (by omega))
      have hpost : True := trivial
      rw [hQ]
      exact W.iret (v := w5565) hx hb hr (fun t ht hW => ⟨⟨w5565, (), rfl, hpost, by rw [ht]; exact hI, hN.warm hW, va_K.moved hW.alike hK⟩, hS.F ht⟩) hS.2.2 dX11_count_159
    have k5570 := iv_ne (X := x1.toInt) (Y := 5) rfl (by decide) c5502
    by_cases c5571 : x1 = 6
    · skip
      have k5572 := iv_eq (X := x1.toInt) (Y := 6) rfl (by decide) c5571
      refine lv_tableIn (tgt := 160) (off := 137) hx hb dX11_count_23 (by omega) (by omega) (by rw [k5572]; rfl) (by decide) ?_
      refine lv_aload_n hx hb dX11_count_160 rfl (lv_at hl 0 rfl) ?_
      obtain ⟨a5573, a5576, a5578, a5580, a5582, a5584, a5586, a5588, a5590, a5592, a5594, w5596, w5599, w5600, w5601, w5602, hO, hq5574, hq5575, hq5577, hq5579, hq5581, hq5583, hq5585, hq5587, hq5589, hq5591, hq5593, hq5595, ⟨k5597, k5598⟩, k5603⟩ := op_15 hI hG0 List.not_mem_nil
      have hI := th_I.weak (a := h0) hI
      refine th_get hx hb hts inT11 hown hK hO rfl 0 (by decide) (hts _ (tb_c wd_345)) rfl rfl dX11_count_161 ?_
      have hI := th_I.close hI hG0 hO (ok_15 hq5574 hq5575 hq5577 hq5579 hq5581 hq5583 hq5585 hq5587 hq5589 hq5591 hq5593 hq5595 ⟨by omega, by omega⟩ k5603)
      obtain ⟨a5604, a5606, a5608, a5610, a5612, a5614, a5616, a5618, a5620, a5622, w5624, w5627, w5628, w5629, hO, hq5605, hq5607, hq5609, hq5611, hq5613, hq5615, hq5617, hq5619, hq5621, hq5623, ⟨k5625, k5626⟩, k5630⟩ := op_6 hI hq5574 List.not_mem_nil
      have hI := th_I.weak (a := a5573) hI
      refine th_getN hx hb hts inT6 hown hK hN hO rfl 6 (by decide) wn_74 rfl rfl dX11_count_164 ?_
      have hI := th_I.close hI hq5574 hO (ok_6 hq5605 hq5607 hq5609 hq5611 hq5613 hq5615 hq5617 hq5619 hq5621 hq5623 ⟨by omega, by omega⟩ k5630)
      obtain ⟨a5632, w5634, hO, hq5633, ⟨k5635, k5636⟩, k5637⟩ := op_4 hI hq5617 List.not_mem_nil
      have hI := th_I.weak (a := a5616) hI
      have k5638 : (nI 10).toInt = ((10 : Nat) : Int) := nI_toInt (by omega)
      refine th_cVs (As := []) (rest := []) (n := 0) (d := 0) ⟨hx, hb, hml, hown, hts⟩ (c_X4_size l E D H a5616 10 a5632 w5634 hO (by omega) (by omega) (by omega)) wd_506 wd_507 wd_508 wd_3 wd_509 (by decide +kernel) ⟨by rw [hR]; exact Nat.le_of_ble_eq_true rfl, by rw [hR]; exact Nat.le_of_ble_eq_true rfl⟩ hN hK hS ⟨_, hO⟩ rfl rfl hl.1 rfl (Nat.le_of_ble_eq_true rfl) dX11_count_167 ⟨Nat.zero_le _, Nat.zero_le _⟩ (fun r5631 locs hp hS => ?_)
      have hp := hp.symm
      subst hp
      have hI := th_I.close hI hq5617 hO (ok_4 hq5633 ⟨by omega, by omega⟩ (by omega))
      have hpost : True := trivial
      rw [hQ]
      exact W.iret (v := w5634) hx hb hr (fun t ht hW => ⟨⟨w5634, (), rfl, hpost, by rw [ht]; exact hI, hN.warm hW, va_K.moved hW.alike hK⟩, hS.F ht⟩) hS.2.2 dX11_count_170
    have k5639 := iv_ne (X := x1.toInt) (Y := 6) rfl (by decide) c5571
    by_cases c5640 : x1 = 7
    · skip
      have k5641 := iv_eq (X := x1.toInt) (Y := 7) rfl (by decide) c5640
      refine lv_tableIn (tgt := 171) (off := 148) hx hb dX11_count_23 (by omega) (by omega) (by rw [k5641]; rfl) (by decide) ?_
      refine lv_aload_n hx hb dX11_count_171 rfl (lv_at hl 0 rfl) ?_
      obtain ⟨a5642, a5645, a5647, a5649, a5651, a5653, a5655, a5657, a5659, a5661, a5663, w5665, w5668, w5669, w5670, w5671, hO, hq5643, hq5644, hq5646, hq5648, hq5650, hq5652, hq5654, hq5656, hq5658, hq5660, hq5662, hq5664, ⟨k5666, k5667⟩, k5672⟩ := op_15 hI hG0 List.not_mem_nil
      have hI := th_I.weak (a := h0) hI
      refine th_get hx hb hts inT11 hown hK hO rfl 0 (by decide) (hts _ (tb_c wd_345)) rfl rfl dX11_count_172 ?_
      have hI := th_I.close hI hG0 hO (ok_15 hq5643 hq5644 hq5646 hq5648 hq5650 hq5652 hq5654 hq5656 hq5658 hq5660 hq5662 hq5664 ⟨by omega, by omega⟩ k5672)
      obtain ⟨a5673, a5675, a5677, a5679, a5681, a5683, a5685, a5687, a5689, a5691, w5693, w5696, w5697, w5698, hO, hq5674, hq5676, hq5678, hq5680, hq5682, hq5684, hq5686, hq5688, hq5690, hq5692, ⟨k5694, k5695⟩, k5699⟩ := op_6 hI hq5643 List.not_mem_nil
      have hI := th_I.weak (a := a5642) hI
      refine th_getN hx hb hts inT6 hown hK hN hO rfl 7 (by decide) wn_77 rfl rfl dX11_count_175 ?_
      have hI := th_I.close hI hq5643 hO (ok_6 hq5674 hq5676 hq5678 hq5680 hq5682 hq5684 hq5686 hq5688 hq5690 hq5692 ⟨by omega, by omega⟩ k5699)
      obtain ⟨a5701, w5703, hO, hq5702, ⟨k5704, k5705⟩, k5706⟩ := op_4 hI hq5688 List.not_mem_nil
      have hI := th_I.weak (a := a5687) hI
      have k5707 : (nI 6).toInt = ((6 : Nat) : Int) := nI_toInt (by omega)
      refine th_cVs (As := []) (rest := []) (n := 0) (d := 0) ⟨hx, hb, hml, hown, hts⟩ (c_X4_size l E D H a5687 6 a5701 w5703 hO (by omega) (by omega) (by omega)) wd_506 wd_507 wd_508 wd_3 wd_509 (by decide +kernel) ⟨by rw [hR]; exact Nat.le_of_ble_eq_true rfl, by rw [hR]; exact Nat.le_of_ble_eq_true rfl⟩ hN hK hS ⟨_, hO⟩ rfl rfl hl.1 rfl (Nat.le_of_ble_eq_true rfl) dX11_count_178 ⟨Nat.zero_le _, Nat.zero_le _⟩ (fun r5700 locs hp hS => ?_)
      have hp := hp.symm
      subst hp
      have hI := th_I.close hI hq5688 hO (ok_4 hq5702 ⟨by omega, by omega⟩ (by omega))
      have hpost : True := trivial
      rw [hQ]
      exact W.iret (v := w5703) hx hb hr (fun t ht hW => ⟨⟨w5703, (), rfl, hpost, by rw [ht]; exact hI, hN.warm hW, va_K.moved hW.alike hK⟩, hS.F ht⟩) hS.2.2 dX11_count_181
    have k5708 := iv_ne (X := x1.toInt) (Y := 7) rfl (by decide) c5640
    by_cases c5709 : x1 = 8
    · skip
      have k5710 := iv_eq (X := x1.toInt) (Y := 8) rfl (by decide) c5709
      refine lv_tableIn (tgt := 182) (off := 159) hx hb dX11_count_23 (by omega) (by omega) (by rw [k5710]; rfl) (by decide) ?_
      refine lv_aload_n hx hb dX11_count_182 rfl (lv_at hl 0 rfl) ?_
      obtain ⟨a5711, a5714, a5716, a5718, a5720, a5722, a5724, a5726, a5728, a5730, a5732, w5734, w5737, w5738, w5739, w5740, hO, hq5712, hq5713, hq5715, hq5717, hq5719, hq5721, hq5723, hq5725, hq5727, hq5729, hq5731, hq5733, ⟨k5735, k5736⟩, k5741⟩ := op_15 hI hG0 List.not_mem_nil
      have hI := th_I.weak (a := h0) hI
      refine th_get hx hb hts inT11 hown hK hO rfl 0 (by decide) (hts _ (tb_c wd_345)) rfl rfl dX11_count_183 ?_
      have hI := th_I.close hI hG0 hO (ok_15 hq5712 hq5713 hq5715 hq5717 hq5719 hq5721 hq5723 hq5725 hq5727 hq5729 hq5731 hq5733 ⟨by omega, by omega⟩ k5741)
      obtain ⟨a5742, a5744, a5746, a5748, a5750, a5752, a5754, a5756, a5758, a5760, w5762, w5765, w5766, w5767, hO, hq5743, hq5745, hq5747, hq5749, hq5751, hq5753, hq5755, hq5757, hq5759, hq5761, ⟨k5763, k5764⟩, k5768⟩ := op_6 hI hq5712 List.not_mem_nil
      have hI := th_I.weak (a := a5711) hI
      refine th_getN hx hb hts inT6 hown hK hN hO rfl 8 (by decide) wn_80 rfl rfl dX11_count_186 ?_
      have hI := th_I.close hI hq5712 hO (ok_6 hq5743 hq5745 hq5747 hq5749 hq5751 hq5753 hq5755 hq5757 hq5759 hq5761 ⟨by omega, by omega⟩ k5768)
      obtain ⟨a5770, w5772, hO, hq5771, ⟨k5773, k5774⟩, k5775⟩ := op_4 hI hq5759 List.not_mem_nil
      have hI := th_I.weak (a := a5758) hI
      have k5776 : (nI 6).toInt = ((6 : Nat) : Int) := nI_toInt (by omega)
      refine th_cVs (As := []) (rest := []) (n := 0) (d := 0) ⟨hx, hb, hml, hown, hts⟩ (c_X4_size l E D H a5758 6 a5770 w5772 hO (by omega) (by omega) (by omega)) wd_506 wd_507 wd_508 wd_3 wd_509 (by decide +kernel) ⟨by rw [hR]; exact Nat.le_of_ble_eq_true rfl, by rw [hR]; exact Nat.le_of_ble_eq_true rfl⟩ hN hK hS ⟨_, hO⟩ rfl rfl hl.1 rfl (Nat.le_of_ble_eq_true rfl) dX11_count_189 ⟨Nat.zero_le _, Nat.zero_le _⟩ (fun r5769 locs hp hS => ?_)
      have hp := hp.symm
      subst hp
      have hI := th_I.close hI hq5759 hO (ok_4 hq5771 ⟨by omega, by omega⟩ (by omega))
      have hpost : True := trivial
      rw [hQ]
      exact W.iret (v := w5772) hx hb hr (fun t ht hW => ⟨⟨w5772, (), rfl, hpost, by rw [ht]; exact hI, hN.warm hW, va_K.moved hW.alike hK⟩, hS.F ht⟩) hS.2.2 dX11_count_192
    have k5777 := iv_ne (X := x1.toInt) (Y := 8) rfl (by decide) c5709
    by_cases c5778 : x1 = 9
    · skip
      have k5779 := iv_eq (X := x1.toInt) (Y := 9) rfl (by decide) c5778
      refine lv_tableIn (tgt := 193) (off := 170) hx hb dX11_count_23 (by omega) (by omega) (by rw [k5779]; rfl) (by decide) ?_
      refine lv_aload_n hx hb dX11_count_193 rfl (lv_at hl 0 rfl) ?_
      obtain ⟨a5780, a5783, a5785, a5787, a5789, a5791, a5793, a5795, a5797, a5799, a5801, w5803, w5806, w5807, w5808, w5809, hO, hq5781, hq5782, hq5784, hq5786, hq5788, hq5790, hq5792, hq5794, hq5796, hq5798, hq5800, hq5802, ⟨k5804, k5805⟩, k5810⟩ := op_15 hI hG0 List.not_mem_nil
      have hI := th_I.weak (a := h0) hI
      refine th_get hx hb hts inT11 hown hK hO rfl 12 (by decide) (hts _ (tb_c wd_357)) rfl rfl dX11_count_194 ?_
      have hI := th_I.close hI hG0 hO (ok_15 hq5781 hq5782 hq5784 hq5786 hq5788 hq5790 hq5792 hq5794 hq5796 hq5798 hq5800 hq5802 ⟨by omega, by omega⟩ k5810)
      have hpost : True := trivial
      rw [hQ]
      exact W.iret (v := w5803) hx hb hr (fun t ht hW => ⟨⟨w5803, (), rfl, hpost, by rw [ht]; exact hI, hN.warm hW, va_K.moved hW.alike hK⟩, hS.F ht⟩) hS.2.2 dX11_count_197
    have k5811 := iv_ne (X := x1.toInt) (Y := 9) rfl (by decide) c5778
    by_cases c5812 : x1 = 10
    · skip
      have k5813 := iv_eq (X := x1.toInt) (Y := 10) rfl (by decide) c5812
      refine lv_tableIn (tgt := 206) (off := 183) hx hb dX11_count_23 (by omega) (by omega) (by rw [k5813]; rfl) (by decide) ?_
      refine lv_iconst (v := (-1)) hx hb dX11_count_206 (by decide) ?_
      have hpost : True := trivial
      rw [hQ]
      exact W.iret (v := (-1)) hx hb hr (fun t ht hW => ⟨⟨(-1), (), rfl, hpost, by rw [ht]; exact hI, hN.warm hW, va_K.moved hW.alike hK⟩, hS.F ht⟩) hS.2.2 dX11_count_207
    have k5814 := iv_ne (X := x1.toInt) (Y := 10) rfl (by decide) c5812
    by_cases c5815 : x1 = 11
    · skip
      have k5816 := iv_eq (X := x1.toInt) (Y := 11) rfl (by decide) c5815
      refine lv_tableIn (tgt := 206) (off := 183) hx hb dX11_count_23 (by omega) (by omega) (by rw [k5816]; rfl) (by decide) ?_
      refine lv_iconst (v := (-1)) hx hb dX11_count_206 (by decide) ?_
      have hpost : True := trivial
      rw [hQ]
      exact W.iret (v := (-1)) hx hb hr (fun t ht hW => ⟨⟨(-1), (), rfl, hpost, by rw [ht]; exact hI, hN.warm hW, va_K.moved hW.alike hK⟩, hS.F ht⟩) hS.2.2 dX11_count_207
    have k5817 := iv_ne (X := x1.toInt) (Y := 11) rfl (by decide) c5815
    by_cases c5818 : x1 = 12
    · skip
      have k5819 := iv_eq (X := x1.toInt) (Y := 12) rfl (by decide) c5818
      refine lv_tableIn (tgt := 206) (off := 183) hx hb dX11_count_23 (by omega) (by omega) (by rw [k5819]; rfl) (by decide) ?_
      refine lv_iconst (v := (-1)) hx hb dX11_count_206 (by decide) ?_
      have hpost : True := trivial
      rw [hQ]
      exact W.iret (v := (-1)) hx hb hr (fun t ht hW => ⟨⟨(-1), (), rfl, hpost, by rw [ht]; exact hI, hN.warm hW, va_K.moved hW.alike hK⟩, hS.F ht⟩) hS.2.2 dX11_count_207
    have k5820 := iv_ne (X := x1.toInt) (Y := 12) rfl (by decide) c5818
    by_cases c5821 : x1 = 13
    · skip
      have k5822 := iv_eq (X := x1.toInt) (Y := 13) rfl (by decide) c5821
      refine lv_tableIn (tgt := 206) (off := 183) hx hb dX11_count_23 (by omega) (by omega) (by rw [k5822]; rfl) (by decide) ?_
      refine lv_iconst (v := (-1)) hx hb dX11_count_206 (by decide) ?_
      have hpost : True := trivial
      rw [hQ]
      exact W.iret (v := (-1)) hx hb hr (fun t ht hW => ⟨⟨(-1), (), rfl, hpost, by rw [ht]; exact hI, hN.warm hW, va_K.moved hW.alike hK⟩, hS.F ht⟩) hS.2.2 dX11_count_207
    have k5823 := iv_ne (X := x1.toInt) (Y := 13) rfl (by decide) c5821
    by_cases c5824 : x1 = 14
    · skip
      have k5825 := iv_eq (X := x1.toInt) (Y := 14) rfl (by decide) c5824
      refine lv_tableIn (tgt := 206) (off := 183) hx hb dX11_count_23 (by omega) (by omega) (by rw [k5825]; rfl) (by decide) ?_
      refine lv_iconst (v := (-1)) hx hb dX11_count_206 (by decide) ?_
      have hpost : True := trivial
      rw [hQ]
      exact W.iret (v := (-1)) hx hb hr (fun t ht hW => ⟨⟨(-1), (), rfl, hpost, by rw [ht]; exact hI, hN.warm hW, va_K.moved hW.alike hK⟩, hS.F ht⟩) hS.2.2 dX11_count_207
    have k5826 := iv_ne (X := x1.toInt) (Y := 14) rfl (by decide) c5824
    by_cases c5827 : x1 = 15
    · skip
      have k5828 := iv_eq (X := x1.toInt) (Y := 15) rfl (by decide) c5827
      refine lv_tableIn (tgt := 198) (off := 175) hx hb dX11_count_23 (by omega) (by omega) (by rw [k5828]; rfl) (by decide) ?_
      refine lv_aload_n hx hb dX11_count_198 rfl (lv_at hl 0 rfl) ?_
      obtain ⟨a5829, a5832, a5834, a5836, a5838, a5840, a5842, a5844, a5846, a5848, a5850, w5852, w5855, w5856, w5857, w5858, hO, hq5830, hq5831, hq5833, hq5835, hq5837, hq5839, hq5841, hq5843, hq5845, hq5847, hq5849, hq5851, ⟨k5853, k5854⟩, k5859⟩ := op_15 hI hG0 List.not_mem_nil
      have hI := th_I.weak (a := h0) hI
      refine th_get hx hb hts inT11 hown hK hO rfl 0 (by decide) (hts _ (tb_c wd_345)) rfl rfl dX11_count_199 ?_
      have hI := th_I.close hI hG0 hO (ok_15 hq5830 hq5831 hq5833 hq5835 hq5837 hq5839 hq5841 hq5843 hq5845 hq5847 hq5849 hq5851 ⟨by omega, by omega⟩ k5859)
      obtain ⟨a5860, a5862, a5864, a5866, a5868, a5870, a5872, a5874, a5876, a5878, w5880, w5883, w5884, w5885, hO, hq5861, hq5863, hq5865, hq5867, hq5869, hq5871, hq5873, hq5875, hq5877, hq5879, ⟨k5881, k5882⟩, k5886⟩ := op_6 hI hq5830 List.not_mem_nil
      have hI := th_I.weak (a := a5829) hI
      refine th_getN hx hb hts inT6 hown hK hN hO rfl 11 (by decide) wn_85 rfl rfl dX11_count_202 ?_
      have k5887 := eaW_out k5886
      have hI := th_I.close hI hq5830 hO (ok_6 hq5861 hq5863 hq5865 hq5867 hq5869 hq5871 hq5873 hq5875 hq5877 hq5879 ⟨by omega, by omega⟩ k5886)
      have hpost : True := trivial
      rw [hQ]
      exact W.iret (v := w5883) hx hb hr (fun t ht hW => ⟨⟨w5883, (), rfl, hpost, by rw [ht]; exact hI, hN.warm hW, va_K.moved hW.alike hK⟩, hS.F ht⟩) hS.2.2 dX11_count_205
    have k5888 := iv_ne (X := x1.toInt) (Y := 15) rfl (by decide) c5827
    refine lv_tableOut (tgt := 206) hx hb dX11_count_23 (by omega) (by decide) ?_
    refine lv_iconst (v := (-1)) hx hb dX11_count_206 (by decide) ?_
    have hpost : True := trivial
    rw [hQ]
    exact W.iret (v := (-1)) hx hb hr (fun t ht hW => ⟨⟨(-1), (), rfl, hpost, by rw [ht]; exact hI, hN.warm hW, va_K.moved hW.alike hK⟩, hS.F ht⟩) hS.2.2 dX11_count_207
  refine lv_iload_n hx hb dX11_count_0 rfl (lv_at hl 1 rfl) ?_
  refine lv_bipush (v := 10) hx hb dX11_count_1 (by decide) ?_
  have k5889 := iv_lo x1
  have k5890 := iv_hi x1
  refine lv_icmp_lt (tgt := 22) hx hb dX11_count_3 (by decide) (fun c5891 => ?_) (fun c5891 => ?_)
  · skip
    have k5892 := iv_lt (X := x1.toInt) (Y := (10)) rfl (by decide) c5891
    exact J_22 s.heap [] ls  (lv_sub hl [0, 1] rfl)  hI hS
  · skip
    have k5893 := iv_nlt (X := x1.toInt) (Y := (10)) rfl (by decide) c5891
    refine lv_iload_n hx hb dX11_count_6 rfl (lv_at hl 1 rfl) ?_
    refine lv_bipush (v := 14) hx hb dX11_count_7 (by decide) ?_
    refine lv_icmp_gt (tgt := 22) hx hb dX11_count_9 (by decide) (fun c5894 => ?_) (fun c5894 => ?_)
    · skip
      have k5895 := iv_lt (X := (14)) (Y := x1.toInt) (by decide) rfl c5894
      exact J_22 s.heap [] ls  (lv_sub hl [0, 1] rfl)  hI hS
    · skip
      have k5896 := iv_nlt (X := (14)) (Y := x1.toInt) (by decide) rfl c5894
      refine lv_aload_n hx hb dX11_count_12 rfl (lv_at hl 0 rfl) ?_
      obtain ⟨a5897, a5900, a5902, a5904, a5906, a5908, a5910, a5912, a5914, a5916, a5918, w5920, w5923, w5924, w5925, w5926, hO, hq5898, hq5899, hq5901, hq5903, hq5905, hq5907, hq5909, hq5911, hq5913, hq5915, hq5917, hq5919, ⟨k5921, k5922⟩, k5927⟩ := op_15 hI hG0 List.not_mem_nil
      have hI := th_I.weak (a := h0) hI
      refine th_get hx hb hts inT11 hown hK hO rfl 3 (by decide) (hts _ (tb_c wd_348)) rfl rfl dX11_count_13 ?_
      refine lv_iload_n hx hb dX11_count_16 rfl (lv_at hl 1 rfl) ?_
      refine lv_bipush (v := 10) hx hb dX11_count_17 (by decide) ?_
      refine lv_isub hx hb dX11_count_19 ?_
      refine lv_topi (fun v5928 e5929 => ?_)
      have tv5928 : v5928.toInt = x1.toInt - (10) := iv_sub rfl (by decide) e5929 (by omega) (by omega)
      obtain ⟨_, hA5930⟩ := op_0 hI hq5903 (th_ne hG0 hq5903 (show (15 : Nat) ≠ 0 by decide))
      refine th_iald hx hb hK hA5930 0 rfl (iv_in (X := v5928.toInt) rfl (by omega) (by omega)) dX11_count_20 (fun v5931 _ => ?_)
      have hI := th_I.close hI hG0 hO (ok_15 hq5898 hq5899 hq5901 hq5903 hq5905 hq5907 hq5909 hq5911 hq5913 hq5915 hq5917 hq5919 ⟨by omega, by omega⟩ k5927)
      have hpost : True := trivial
      rw [hQ]
      exact W.iret (v := v5931) hx hb hr (fun t ht hW => ⟨⟨v5931, (), rfl, hpost, by rw [ht]; exact hI, hN.warm hW, va_K.moved hW.alike hK⟩, hS.F ht⟩) hS.2.2 dX11_count_21
