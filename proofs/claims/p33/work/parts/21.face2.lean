theorem wn_77 : (Cond.fieldLinkNest RX11 (307 : Nat) "NineRiver$State" "jobs" "LNineRiver$Rows;" "NineRiver") ∈ lw_tbl := List.mem_append_right _ (List.mem_of_getElem? (i := 77) (by decide +kernel))
theorem wn_80 : (Cond.fieldLinkNest RX11 (322 : Nat) "NineRiver$State" "wishes" "LNineRiver$Rows;" "NineRiver") ∈ lw_tbl := List.mem_append_right _ (List.mem_of_getElem? (i := 80) (by decide +kernel))
theorem wp_9 : Cond.selects RX11 yX11_pourFromTape yX11_pourFromTape ∈ TB := tv 9 (by decide +kernel) (by decide +kernel)
theorem wd_1016 : (Cond.methodLink RX11 (301 : Nat) yX5_findAlone) ∈ TB := tw 1016 (by decide +kernel) (by decide +kernel)
theorem wd_1017 : (Jvm.Cond.instanceMethod yX5_findAlone) ∈ TB := tw 1017 (by decide +kernel) (by decide +kernel)
theorem wd_1018 : (Cond.selects RX5 yX5_findAlone yX5_findAlone) ∈ TB := tw 1018 (by decide +kernel) (by decide +kernel)
theorem wd_1019 : (Cond.code yX5_findAlone cX5_findAlone 5 (Option.some Jvm.ClassFile.FieldType.int)) ∈ TB := tw 1019 (by decide +kernel) (by decide +kernel)
theorem wd_1084 : (Cond.methodLink RX11 (313 : Nat) yX8_answer) ∈ TB := tw 1084 (by decide +kernel) (by decide +kernel)
theorem wd_1085 : (Jvm.Cond.instanceMethod yX8_answer) ∈ TB := tw 1085 (by decide +kernel) (by decide +kernel)
theorem wd_1086 : (Cond.selects RX8 yX8_answer yX8_answer) ∈ TB := tw 1086 (by decide +kernel) (by decide +kernel)
theorem wd_1087 : (Cond.code yX8_answer cX8_answer 10 (Option.some Jvm.ClassFile.FieldType.int)) ∈ TB := tw 1087 (by decide +kernel) (by decide +kernel)
theorem wd_1098 : (Cond.methodLink RX11 (316 : Nat) yX9_paddle) ∈ TB := tw 1098 (by decide +kernel) (by decide +kernel)
theorem wd_1099 : (Jvm.Cond.instanceMethod yX9_paddle) ∈ TB := tw 1099 (by decide +kernel) (by decide +kernel)
theorem wd_1100 : (Cond.selects RX9 yX9_paddle yX9_paddle) ∈ TB := tw 1100 (by decide +kernel) (by decide +kernel)
theorem wd_1101 : (Cond.code yX9_paddle cX9_paddle 6 (Option.some Jvm.ClassFile.FieldType.int)) ∈ TB := tw 1101 (by decide +kernel) (by decide +kernel)
theorem wd_1109 : (Cond.methodLink RX11 (319 : Nat) yX9_turningHours) ∈ TB := tw 1109 (by decide +kernel) (by decide +kernel)
theorem wd_1110 : (Jvm.Cond.instanceMethod yX9_turningHours) ∈ TB := tw 1110 (by decide +kernel) (by decide +kernel)
theorem wd_1111 : (Cond.selects RX9 yX9_turningHours yX9_turningHours) ∈ TB := tw 1111 (by decide +kernel) (by decide +kernel)
theorem wd_1112 : (Cond.code yX9_turningHours cX9_turningHours 11 (Option.some Jvm.ClassFile.FieldType.int)) ∈ TB := tw 1112 (by decide +kernel) (by decide +kernel)
theorem wd_1134 : (Cond.methodLink RX11 (325 : Nat) yX10_grantedNow) ∈ TB := tw 1134 (by decide +kernel) (by decide +kernel)
theorem wd_1135 : (Jvm.Cond.instanceMethod yX10_grantedNow) ∈ TB := tw 1135 (by decide +kernel) (by decide +kernel)
theorem wd_1136 : (Cond.selects RX10 yX10_grantedNow yX10_grantedNow) ∈ TB := tw 1136 (by decide +kernel) (by decide +kernel)
theorem wd_1137 : (Cond.code yX10_grantedNow cX10_grantedNow 4 (Option.some Jvm.ClassFile.FieldType.int)) ∈ TB := tw 1137 (by decide +kernel) (by decide +kernel)
theorem wd_1145 : (Cond.methodLink RX11 (328 : Nat) yX10_tune) ∈ TB := tw 1145 (by decide +kernel) (by decide +kernel)
theorem wd_1146 : (Jvm.Cond.instanceMethod yX10_tune) ∈ TB := tw 1146 (by decide +kernel) (by decide +kernel)
theorem wd_1147 : (Cond.selects RX10 yX10_tune yX10_tune) ∈ TB := tw 1147 (by decide +kernel) (by decide +kernel)
theorem wd_1148 : (Cond.code yX10_tune cX10_tune 5 (Option.none : Option Jvm.ClassFile.FieldType)) ∈ TB := tw 1148 (by decide +kernel) (by decide +kernel)
theorem wd_1168 : (Cond.methodLink RX11 (331 : Nat) yX10_tuned) ∈ TB := tw 1168 (by decide +kernel) (by decide +kernel)
theorem wd_1169 : (Jvm.Cond.instanceMethod yX10_tuned) ∈ TB := tw 1169 (by decide +kernel) (by decide +kernel)
theorem wd_1170 : (Cond.selects RX10 yX10_tuned yX10_tuned) ∈ TB := tw 1170 (by decide +kernel) (by decide +kernel)
theorem wd_1171 : (Cond.code yX10_tuned cX10_tuned 2 (Option.some Jvm.ClassFile.FieldType.int)) ∈ TB := tw 1171 (by decide +kernel) (by decide +kernel)
theorem wd_1176 : (Cond.methodLink RX11 (334 : Nat) yX6_tellClocks) ∈ TB := tw 1176 (by decide +kernel) (by decide +kernel)
theorem wd_1181 : (Cond.constant RX11 (337 : Nat) (1000000 : Int32)) ∈ TB := tw 1181 (by decide +kernel) (by decide +kernel)
theorem wd_1182 : (Cond.methodLink RX11 (338 : Nat) yX9_drawWeek) ∈ TB := tw 1182 (by decide +kernel) (by decide +kernel)
theorem wd_1183 : (Jvm.Cond.instanceMethod yX9_drawWeek) ∈ TB := tw 1183 (by decide +kernel) (by decide +kernel)
theorem wd_1184 : (Cond.selects RX9 yX9_drawWeek yX9_drawWeek) ∈ TB := tw 1184 (by decide +kernel) (by decide +kernel)
theorem wd_1185 : (Cond.code yX9_drawWeek cX9_drawWeek 9 (Option.some Jvm.ClassFile.FieldType.int)) ∈ TB := tw 1185 (by decide +kernel) (by decide +kernel)
theorem wd_1219 : (Cond.methodLink RX11 (345 : Nat) yX6_countStrikes) ∈ TB := tw 1219 (by decide +kernel) (by decide +kernel)
theorem wd_1220 : (Jvm.Cond.instanceMethod yX6_countStrikes) ∈ TB := tw 1220 (by decide +kernel) (by decide +kernel)
theorem wd_1221 : (Cond.selects RX6 yX6_countStrikes yX6_countStrikes) ∈ TB := tw 1221 (by decide +kernel) (by decide +kernel)
theorem wd_1222 : (Cond.code yX6_countStrikes cX6_countStrikes 6 (Option.some Jvm.ClassFile.FieldType.int)) ∈ TB := tw 1222 (by decide +kernel) (by decide +kernel)
theorem wd_349 : (Cond.fieldLink RX11 (27 : Nat) "NineRiver" "landed" "[I") ∈ TB := tw 349 (by decide +kernel) (by decide +kernel)
theorem wd_361 : (Cond.fieldLink RX11 (102 : Nat) "NineRiver" "hasWeek" "Z") ∈ TB := tw 361 (by decide +kernel) (by decide +kernel)
theorem wd_613 : (Cond.methodLink RX11 (188 : Nat) yX11_pourFromTape) ∈ TB := tw 613 (by decide +kernel) (by decide +kernel)
theorem wd_615 : (Jvm.Cond.instanceMethod yX11_pourFromTape) ∈ TB := tw 615 (by decide +kernel) (by decide +kernel)
theorem wd_616 : (Cond.code yX11_pourFromTape cX11_pourFromTape 6 (Option.some Jvm.ClassFile.FieldType.boolean)) ∈ TB := tw 616 (by decide +kernel) (by decide +kernel)
theorem wd_995 : (Cond.methodLink RX11 (298 : Nat) yX5_countAlone) ∈ TB := tw 995 (by decide +kernel) (by decide +kernel)
theorem wd_996 : (Jvm.Cond.instanceMethod yX5_countAlone) ∈ TB := tw 996 (by decide +kernel) (by decide +kernel)
theorem wd_997 : (Cond.selects RX5 yX5_countAlone yX5_countAlone) ∈ TB := tw 997 (by decide +kernel) (by decide +kernel)
theorem wd_998 : (Cond.code yX5_countAlone cX5_countAlone 7 (Option.some Jvm.ClassFile.FieldType.int)) ∈ TB := tw 998 (by decide +kernel) (by decide +kernel)
theorem dX11_pourFromTape_0g : (decode cX11_pourFromTape 0 = .ok (.iload_n 1, 1)) ∧ (decode cX11_pourFromTape 1 = .ok (.ifCond .lt 13, 3)) ∧ (decode cX11_pourFromTape 4 = .ok (.iload_n 1, 1)) ∧ (decode cX11_pourFromTape 5 = .ok (.iconst 4, 1)) ∧ (decode cX11_pourFromTape 6 = .ok (.iadd, 1)) ∧ (decode cX11_pourFromTape 7 = .ok (.aload_n 0, 1)) ∧ (decode cX11_pourFromTape 8 = .ok (.getfield 89, 3)) ∧ (decode cX11_pourFromTape 11 = .ok (.if_icmp .le 5, 3)) ∧ (decode cX11_pourFromTape 14 = .ok (.iconst 0, 1)) ∧ (decode cX11_pourFromTape 15 = .ok (.ireturn, 1)) := by decide +kernel
theorem dX11_pourFromTape_0 : decode cX11_pourFromTape 0 = .ok (.iload_n 1, 1) := dX11_pourFromTape_0g.1
theorem dX11_pourFromTape_1 : decode cX11_pourFromTape 1 = .ok (.ifCond .lt 13, 3) := dX11_pourFromTape_0g.2.1
theorem dX11_pourFromTape_4 : decode cX11_pourFromTape 4 = .ok (.iload_n 1, 1) := dX11_pourFromTape_0g.2.2.1
theorem dX11_pourFromTape_5 : decode cX11_pourFromTape 5 = .ok (.iconst 4, 1) := dX11_pourFromTape_0g.2.2.2.1
theorem dX11_pourFromTape_6 : decode cX11_pourFromTape 6 = .ok (.iadd, 1) := dX11_pourFromTape_0g.2.2.2.2.1
theorem dX11_pourFromTape_7 : decode cX11_pourFromTape 7 = .ok (.aload_n 0, 1) := dX11_pourFromTape_0g.2.2.2.2.2.1
theorem dX11_pourFromTape_8 : decode cX11_pourFromTape 8 = .ok (.getfield 89, 3) := dX11_pourFromTape_0g.2.2.2.2.2.2.1
theorem dX11_pourFromTape_11 : decode cX11_pourFromTape 11 = .ok (.if_icmp .le 5, 3) := dX11_pourFromTape_0g.2.2.2.2.2.2.2.1
theorem dX11_pourFromTape_14 : decode cX11_pourFromTape 14 = .ok (.iconst 0, 1) := dX11_pourFromTape_0g.2.2.2.2.2.2.2.2.1
theorem dX11_pourFromTape_15 : decode cX11_pourFromTape 15 = .ok (.ireturn, 1) := dX11_pourFromTape_0g.2.2.2.2.2.2.2.2.2
theorem dX11_pourFromTape_16g : (decode cX11_pourFromTape 16 = .ok (.aload_n 0, 1)) ∧ (decode cX11_pourFromTape 17 = .ok (.getfield 20, 3)) ∧ (decode cX11_pourFromTape 20 = .ok (.iload_n 1, 1)) ∧ (decode cX11_pourFromTape 21 = .ok (.iaload, 1)) ∧ (decode cX11_pourFromTape 22 = .ok (.istore_n 2, 1)) ∧ (decode cX11_pourFromTape 23 = .ok (.aload_n 0, 1)) ∧ (decode cX11_pourFromTape 24 = .ok (.getfield 20, 3)) ∧ (decode cX11_pourFromTape 27 = .ok (.iload_n 1, 1)) ∧ (decode cX11_pourFromTape 28 = .ok (.iconst 1, 1)) ∧ (decode cX11_pourFromTape 29 = .ok (.iadd, 1)) := by decide +kernel
theorem dX11_pourFromTape_16 : decode cX11_pourFromTape 16 = .ok (.aload_n 0, 1) := dX11_pourFromTape_16g.1
theorem dX11_pourFromTape_17 : decode cX11_pourFromTape 17 = .ok (.getfield 20, 3) := dX11_pourFromTape_16g.2.1
theorem dX11_pourFromTape_20 : decode cX11_pourFromTape 20 = .ok (.iload_n 1, 1) := dX11_pourFromTape_16g.2.2.1
theorem dX11_pourFromTape_21 : decode cX11_pourFromTape 21 = .ok (.iaload, 1) := dX11_pourFromTape_16g.2.2.2.1
theorem dX11_pourFromTape_22 : decode cX11_pourFromTape 22 = .ok (.istore_n 2, 1) := dX11_pourFromTape_16g.2.2.2.2.1
theorem dX11_pourFromTape_23 : decode cX11_pourFromTape 23 = .ok (.aload_n 0, 1) := dX11_pourFromTape_16g.2.2.2.2.2.1
theorem dX11_pourFromTape_24 : decode cX11_pourFromTape 24 = .ok (.getfield 20, 3) := dX11_pourFromTape_16g.2.2.2.2.2.2.1
theorem dX11_pourFromTape_27 : decode cX11_pourFromTape 27 = .ok (.iload_n 1, 1) := dX11_pourFromTape_16g.2.2.2.2.2.2.2.1
theorem dX11_pourFromTape_28 : decode cX11_pourFromTape 28 = .ok (.iconst 1, 1) := dX11_pourFromTape_16g.2.2.2.2.2.2.2.2.1
theorem dX11_pourFromTape_29 : decode cX11_pourFromTape 29 = .ok (.iadd, 1) := dX11_pourFromTape_16g.2.2.2.2.2.2.2.2.2
theorem dX11_pourFromTape_30g : (decode cX11_pourFromTape 30 = .ok (.iaload, 1)) ∧ (decode cX11_pourFromTape 31 = .ok (.istore_n 3, 1)) ∧ (decode cX11_pourFromTape 32 = .ok (.aload_n 0, 1)) ∧ (decode cX11_pourFromTape 33 = .ok (.getfield 20, 3)) ∧ (decode cX11_pourFromTape 36 = .ok (.iload_n 1, 1)) ∧ (decode cX11_pourFromTape 37 = .ok (.iconst 2, 1)) ∧ (decode cX11_pourFromTape 38 = .ok (.iadd, 1)) ∧ (decode cX11_pourFromTape 39 = .ok (.iaload, 1)) ∧ (decode cX11_pourFromTape 40 = .ok (.istore 4, 2)) ∧ (decode cX11_pourFromTape 42 = .ok (.aload_n 0, 1)) := by decide +kernel
theorem dX11_pourFromTape_30 : decode cX11_pourFromTape 30 = .ok (.iaload, 1) := dX11_pourFromTape_30g.1
theorem dX11_pourFromTape_31 : decode cX11_pourFromTape 31 = .ok (.istore_n 3, 1) := dX11_pourFromTape_30g.2.1
theorem dX11_pourFromTape_32 : decode cX11_pourFromTape 32 = .ok (.aload_n 0, 1) := dX11_pourFromTape_30g.2.2.1
theorem dX11_pourFromTape_33 : decode cX11_pourFromTape 33 = .ok (.getfield 20, 3) := dX11_pourFromTape_30g.2.2.2.1
theorem dX11_pourFromTape_36 : decode cX11_pourFromTape 36 = .ok (.iload_n 1, 1) := dX11_pourFromTape_30g.2.2.2.2.1
theorem dX11_pourFromTape_37 : decode cX11_pourFromTape 37 = .ok (.iconst 2, 1) := dX11_pourFromTape_30g.2.2.2.2.2.1
theorem dX11_pourFromTape_38 : decode cX11_pourFromTape 38 = .ok (.iadd, 1) := dX11_pourFromTape_30g.2.2.2.2.2.2.1
theorem dX11_pourFromTape_39 : decode cX11_pourFromTape 39 = .ok (.iaload, 1) := dX11_pourFromTape_30g.2.2.2.2.2.2.2.1
theorem dX11_pourFromTape_40 : decode cX11_pourFromTape 40 = .ok (.istore 4, 2) := dX11_pourFromTape_30g.2.2.2.2.2.2.2.2.1
theorem dX11_pourFromTape_42 : decode cX11_pourFromTape 42 = .ok (.aload_n 0, 1) := dX11_pourFromTape_30g.2.2.2.2.2.2.2.2.2
theorem dX11_pourFromTape_43g : (decode cX11_pourFromTape 43 = .ok (.getfield 20, 3)) ∧ (decode cX11_pourFromTape 46 = .ok (.iload_n 1, 1)) ∧ (decode cX11_pourFromTape 47 = .ok (.iconst 3, 1)) ∧ (decode cX11_pourFromTape 48 = .ok (.iadd, 1)) ∧ (decode cX11_pourFromTape 49 = .ok (.iaload, 1)) ∧ (decode cX11_pourFromTape 50 = .ok (.istore 5, 2)) ∧ (decode cX11_pourFromTape 52 = .ok (.iload_n 2, 1)) ∧ (decode cX11_pourFromTape 53 = .ok (.iload_n 3, 1)) ∧ (decode cX11_pourFromTape 54 = .ok (.iload 4, 2)) ∧ (decode cX11_pourFromTape 56 = .ok (.iload 5, 2)) := by decide +kernel
theorem dX11_pourFromTape_43 : decode cX11_pourFromTape 43 = .ok (.getfield 20, 3) := dX11_pourFromTape_43g.1
theorem dX11_pourFromTape_46 : decode cX11_pourFromTape 46 = .ok (.iload_n 1, 1) := dX11_pourFromTape_43g.2.1
theorem dX11_pourFromTape_47 : decode cX11_pourFromTape 47 = .ok (.iconst 3, 1) := dX11_pourFromTape_43g.2.2.1
theorem dX11_pourFromTape_48 : decode cX11_pourFromTape 48 = .ok (.iadd, 1) := dX11_pourFromTape_43g.2.2.2.1
theorem dX11_pourFromTape_49 : decode cX11_pourFromTape 49 = .ok (.iaload, 1) := dX11_pourFromTape_43g.2.2.2.2.1
theorem dX11_pourFromTape_50 : decode cX11_pourFromTape 50 = .ok (.istore 5, 2) := dX11_pourFromTape_43g.2.2.2.2.2.1
theorem dX11_pourFromTape_52 : decode cX11_pourFromTape 52 = .ok (.iload_n 2, 1) := dX11_pourFromTape_43g.2.2.2.2.2.2.1
theorem dX11_pourFromTape_53 : decode cX11_pourFromTape 53 = .ok (.iload_n 3, 1) := dX11_pourFromTape_43g.2.2.2.2.2.2.2.1
theorem dX11_pourFromTape_54 : decode cX11_pourFromTape 54 = .ok (.iload 4, 2) := dX11_pourFromTape_43g.2.2.2.2.2.2.2.2.1
theorem dX11_pourFromTape_56 : decode cX11_pourFromTape 56 = .ok (.iload 5, 2) := dX11_pourFromTape_43g.2.2.2.2.2.2.2.2.2
theorem dX11_pourFromTape_58g : (decode cX11_pourFromTape 58 = .ok (.invokestatic 262, 3)) ∧ (decode cX11_pourFromTape 61 = .ok (.ifCond .eq 15, 3)) ∧ (decode cX11_pourFromTape 64 = .ok (.aload_n 0, 1)) ∧ (decode cX11_pourFromTape 65 = .ok (.getfield 42, 3)) ∧ (decode cX11_pourFromTape 68 = .ok (.iload_n 2, 1)) ∧ (decode cX11_pourFromTape 69 = .ok (.iload_n 3, 1)) ∧ (decode cX11_pourFromTape 70 = .ok (.invokevirtual 220, 3)) ∧ (decode cX11_pourFromTape 73 = .ok (.ifCond .eq 5, 3)) ∧ (decode cX11_pourFromTape 76 = .ok (.iconst 0, 1)) ∧ (decode cX11_pourFromTape 77 = .ok (.ireturn, 1)) := by decide +kernel
theorem dX11_pourFromTape_58 : decode cX11_pourFromTape 58 = .ok (.invokestatic 262, 3) := dX11_pourFromTape_58g.1
theorem dX11_pourFromTape_61 : decode cX11_pourFromTape 61 = .ok (.ifCond .eq 15, 3) := dX11_pourFromTape_58g.2.1
theorem dX11_pourFromTape_64 : decode cX11_pourFromTape 64 = .ok (.aload_n 0, 1) := dX11_pourFromTape_58g.2.2.1
theorem dX11_pourFromTape_65 : decode cX11_pourFromTape 65 = .ok (.getfield 42, 3) := dX11_pourFromTape_58g.2.2.2.1
theorem dX11_pourFromTape_68 : decode cX11_pourFromTape 68 = .ok (.iload_n 2, 1) := dX11_pourFromTape_58g.2.2.2.2.1
theorem dX11_pourFromTape_69 : decode cX11_pourFromTape 69 = .ok (.iload_n 3, 1) := dX11_pourFromTape_58g.2.2.2.2.2.1
theorem dX11_pourFromTape_70 : decode cX11_pourFromTape 70 = .ok (.invokevirtual 220, 3) := dX11_pourFromTape_58g.2.2.2.2.2.2.1
theorem dX11_pourFromTape_73 : decode cX11_pourFromTape 73 = .ok (.ifCond .eq 5, 3) := dX11_pourFromTape_58g.2.2.2.2.2.2.2.1
theorem dX11_pourFromTape_76 : decode cX11_pourFromTape 76 = .ok (.iconst 0, 1) := dX11_pourFromTape_58g.2.2.2.2.2.2.2.2.1
theorem dX11_pourFromTape_77 : decode cX11_pourFromTape 77 = .ok (.ireturn, 1) := dX11_pourFromTape_58g.2.2.2.2.2.2.2.2.2
theorem dX11_pourFromTape_78g : (decode cX11_pourFromTape 78 = .ok (.aload_n 0, 1)) ∧ (decode cX11_pourFromTape 79 = .ok (.getfield 12, 3)) ∧ (decode cX11_pourFromTape 82 = .ok (.getfield 266, 3)) ∧ (decode cX11_pourFromTape 85 = .ok (.iload_n 2, 1)) ∧ (decode cX11_pourFromTape 86 = .ok (.iload_n 3, 1)) ∧ (decode cX11_pourFromTape 87 = .ok (.iload 4, 2)) ∧ (decode cX11_pourFromTape 89 = .ok (.iload 5, 2)) ∧ (decode cX11_pourFromTape 91 = .ok (.invokevirtual 155, 3)) ∧ (decode cX11_pourFromTape 94 = .ok (.iconst (-1), 1)) ∧ (decode cX11_pourFromTape 95 = .ok (.if_icmp .eq 7, 3)) := by decide +kernel
theorem dX11_pourFromTape_78 : decode cX11_pourFromTape 78 = .ok (.aload_n 0, 1) := dX11_pourFromTape_78g.1
theorem dX11_pourFromTape_79 : decode cX11_pourFromTape 79 = .ok (.getfield 12, 3) := dX11_pourFromTape_78g.2.1
theorem dX11_pourFromTape_82 : decode cX11_pourFromTape 82 = .ok (.getfield 266, 3) := dX11_pourFromTape_78g.2.2.1
theorem dX11_pourFromTape_85 : decode cX11_pourFromTape 85 = .ok (.iload_n 2, 1) := dX11_pourFromTape_78g.2.2.2.1
theorem dX11_pourFromTape_86 : decode cX11_pourFromTape 86 = .ok (.iload_n 3, 1) := dX11_pourFromTape_78g.2.2.2.2.1
theorem dX11_pourFromTape_87 : decode cX11_pourFromTape 87 = .ok (.iload 4, 2) := dX11_pourFromTape_78g.2.2.2.2.2.1
theorem dX11_pourFromTape_89 : decode cX11_pourFromTape 89 = .ok (.iload 5, 2) := dX11_pourFromTape_78g.2.2.2.2.2.2.1
theorem dX11_pourFromTape_91 : decode cX11_pourFromTape 91 = .ok (.invokevirtual 155, 3) := dX11_pourFromTape_78g.2.2.2.2.2.2.2.1
theorem dX11_pourFromTape_94 : decode cX11_pourFromTape 94 = .ok (.iconst (-1), 1) := dX11_pourFromTape_78g.2.2.2.2.2.2.2.2.1
theorem dX11_pourFromTape_95 : decode cX11_pourFromTape 95 = .ok (.if_icmp .eq 7, 3) := dX11_pourFromTape_78g.2.2.2.2.2.2.2.2.2
theorem dX11_pourFromTape_98g : (decode cX11_pourFromTape 98 = .ok (.iconst 1, 1)) ∧ (decode cX11_pourFromTape 99 = .ok (.goto 4, 3)) ∧ (decode cX11_pourFromTape 102 = .ok (.iconst 0, 1)) ∧ (decode cX11_pourFromTape 103 = .ok (.ireturn, 1)) := by decide +kernel
theorem dX11_pourFromTape_98 : decode cX11_pourFromTape 98 = .ok (.iconst 1, 1) := dX11_pourFromTape_98g.1
theorem dX11_pourFromTape_99 : decode cX11_pourFromTape 99 = .ok (.goto 4, 3) := dX11_pourFromTape_98g.2.1
theorem dX11_pourFromTape_102 : decode cX11_pourFromTape 102 = .ok (.iconst 0, 1) := dX11_pourFromTape_98g.2.2.1
theorem dX11_pourFromTape_103 : decode cX11_pourFromTape 103 = .ok (.ireturn, 1) := dX11_pourFromTape_98g.2.2.2
set_option maxHeartbeats 4000000 in
set_option maxRecDepth 100000 in
theorem c_X11_pourFromTape (l : Launch) (E : Nat → Nat) (D : va_G) (G : th_G) (h0 n : Nat) (hG0 : G h0 = some (15, n)) (x1 : Int32) (hx1 : (0 : Int) ≤ x1.toInt ∧ x1.toInt ≤ 400) : Met l yX11_pourFromTape (tb (.code yX11_pourFromTape cX11_pourFromTape 6 (some .boolean))) (rm 6) (va_Pc [.ref h0, .int x1] (th_P E D G)) (QI E D G (fun r => 0 ≤ (r : Int32).toInt ∧ (r : Int32).toInt ≤ 1)) 0 0 (th_A G) := by
  refine Met.ofW (cc := cX11_pourFromTape) (maxL := 6) (ret := (some .boolean)) (by decide) rfl ?_
  intro p e s m args below meth c s₁ B hml hv
  obtain ⟨hav, hI, hN, hK⟩ := hv
  have hx := B.exec
  have hb := B.bytes
  have hr := B.returns
  have hts := atoms_spec (ws := tb (.code yX11_pourFromTape cX11_pourFromTape 6 (some .boolean))) B.pre
  have hown : s.vm.findClass RX11 = some m.cls := findClass_of_methodNamed B.named
  have hlocks := B.notSynchronized
  have hS : va_S (th_A G) s.heap s.heap [] := va_S.rf
  have hl := lv_entry ([.ref h0, .int x1]) (n := 6) (Nat.le_of_ble_eq_true rfl)
  rw [show entryFrame m args 6 = entryFrame m ([.ref h0, .int x1] : List Value).toArray 6 from by rw [hav], lg_entry_eq]
  generalize (lg_sl ([.ref h0, .int x1]) ++ List.replicate (6 - (lg_sl ([.ref h0, .int x1])).length) Slot.unset).toArray = ls at hl ⊢
  have hl : lv_has ls 6 [(0, .ref h0), (1, .int x1)] := hl
  generalize hR : (headSpec (tb (.code yX11_pourFromTape cX11_pourFromTape 6 (some .boolean))) (rm 6)).room = R
  have hR := hR.symm
  generalize hQ : MQ below (QI E D G (fun r => 0 ≤ (r : Int32).toInt ∧ (r : Int32).toInt ≤ 1)) args s 0 0 (th_A G) = QF
  have hQ := hQ.symm
  have J_76 : ∀ (H : Heap) (locs : List Loc) (ls : Array Slot) (v1029 : Int32) (v1030 : Int32) (v1031 : Int32) (v1032 : Int32), lv_has ls 6 [(5, .int v1029), (4, .int v1030), (3, .int v1031), (2, .int v1032), (0, .ref h0), (1, .int x1)] → ((0 : Int) ≤ x1.toInt ∧ x1.toInt ≤ 400) → th_I (okC E) D G [] H → va_S (th_A G) s.heap H locs → W p l e R s m args below meth c H locs 0 0 QF (F0 m 76 ls []) := by
    intro H locs ls v1029 v1030 v1031 v1032 hl k1033 hI hS
    refine lv_iconst (v := 0) hx hb dX11_pourFromTape_76 (by decide) ?_
    have hpost : 0 ≤ (0 : Int32).toInt ∧ (0 : Int32).toInt ≤ 1 := by first | decide | omega
    rw [hQ]
    exact W.zret (v := 0) hx hb hr (by decide) (fun t ht hW => ⟨⟨0, (), rfl, hpost, by rw [ht]; exact hI, hN.warm hW, va_K.moved hW.alike hK⟩, hS.F ht⟩) hS.2.2 dX11_pourFromTape_77
  have J_14 : ∀ (H : Heap) (locs : List Loc) (ls : Array Slot) , lv_has ls 6 [(0, .ref h0), (1, .int x1)] → ((0 : Int) ≤ x1.toInt ∧ x1.toInt ≤ 400) → th_I (okC E) D G [] H → va_S (th_A G) s.heap H locs → W p l e R s m args below meth c H locs 0 0 QF (F0 m 14 ls []) := by
    intro H locs ls  hl k1034 hI hS
    refine lv_iconst (v := 0) hx hb dX11_pourFromTape_14 (by decide) ?_
    have hpost : 0 ≤ (0 : Int32).toInt ∧ (0 : Int32).toInt ≤ 1 := by first | decide | omega
    rw [hQ]
    exact W.zret (v := 0) hx hb hr (by decide) (fun t ht hW => ⟨⟨0, (), rfl, hpost, by rw [ht]; exact hI, hN.warm hW, va_K.moved hW.alike hK⟩, hS.F ht⟩) hS.2.2 dX11_pourFromTape_15
  refine lv_iload_n hx hb dX11_pourFromTape_0 rfl (lv_at hl 1 rfl) ?_
  refine lv_if_lt (tgt := 14) hx hb dX11_pourFromTape_1 (by decide) (fun c1035 => ?_) (fun c1035 => ?_)
  · skip
    have k1036 := iv_lt (X := x1.toInt) (Y := (0)) rfl (by decide) c1035
    exfalso; omega
  · skip
    have k1037 := iv_nlt (X := x1.toInt) (Y := (0)) rfl (by decide) c1035
    refine lv_iload_n hx hb dX11_pourFromTape_4 rfl (lv_at hl 1 rfl) ?_
    refine lv_iconst (v := 4) hx hb dX11_pourFromTape_5 (by decide) ?_
    refine lv_iadd hx hb dX11_pourFromTape_6 ?_
    refine lv_topi (fun v1038 e1039 => ?_)
    have tv1038 : v1038.toInt = x1.toInt + (4) := iv_add rfl (by decide) e1039 (by omega) (by omega)
    refine lv_aload_n hx hb dX11_pourFromTape_7 rfl (lv_at hl 0 rfl) ?_
    obtain ⟨a1040, a1043, a1045, a1047, a1049, a1051, a1053, a1055, a1057, a1059, a1061, w1063, w1066, w1067, w1068, w1069, hO, hq1041, hq1042, hq1044, hq1046, hq1048, hq1050, hq1052, hq1054, hq1056, hq1058, hq1060, hq1062, ⟨k1064, k1065⟩, k1070⟩ := op_15 hI hG0 List.not_mem_nil
    have hI := th_I.weak (a := h0) hI
    refine th_get hx hb hts inT11 hown hK hO rfl 12 (by decide) (hts _ (tb_c wd_357)) rfl rfl dX11_pourFromTape_8 ?_
    refine lv_icmp_le (tgt := 16) hx hb dX11_pourFromTape_11 (by decide) (fun c1071 => ?_) (fun c1071 => ?_)
    · skip
      have k1072 := iv_le (X := v1038.toInt) (Y := w1063.toInt) rfl rfl c1071
      refine lv_aload_n hx hb dX11_pourFromTape_16 rfl (lv_at hl 0 rfl) ?_
      refine th_get hx hb hts inT11 hown hK hO rfl 2 (by decide) (hts _ (tb_c wd_347)) rfl rfl dX11_pourFromTape_17 ?_
      refine lv_iload_n hx hb dX11_pourFromTape_20 rfl (lv_at hl 1 rfl) ?_
      obtain ⟨_, hA1073⟩ := op_0 hI hq1044 (th_ne hG0 hq1044 (show (15 : Nat) ≠ 0 by decide))
      refine th_iald hx hb hK hA1073 0 rfl (iv_in (X := x1.toInt) rfl (by omega) (by omega)) dX11_pourFromTape_21 (fun v1074 _ => ?_)
      refine lv_istore_n (lv' := [(2, .int v1074), (0, .ref h0), (1, .int x1)]) hx hb dX11_pourFromTape_22 rfl hl (by decide) rfl (fun ls hl => ?_)
      refine lv_aload_n hx hb dX11_pourFromTape_23 rfl (lv_at hl 1 rfl) ?_
      refine th_get hx hb hts inT11 hown hK hO rfl 2 (by decide) (hts _ (tb_c wd_347)) rfl rfl dX11_pourFromTape_24 ?_
      refine lv_iload_n hx hb dX11_pourFromTape_27 rfl (lv_at hl 2 rfl) ?_
      refine lv_iconst (v := 1) hx hb dX11_pourFromTape_28 (by decide) ?_
      refine lv_iadd hx hb dX11_pourFromTape_29 ?_
      refine lv_topi (fun v1075 e1076 => ?_)
      have tv1075 : v1075.toInt = x1.toInt + (1) := iv_add rfl (by decide) e1076 (by omega) (by omega)
      obtain ⟨_, hA1077⟩ := op_0 hI hq1044 (th_ne hG0 hq1044 (show (15 : Nat) ≠ 0 by decide))
      refine th_iald hx hb hK hA1077 0 rfl (iv_in (X := v1075.toInt) rfl (by omega) (by omega)) dX11_pourFromTape_30 (fun v1078 _ => ?_)
      refine lv_istore_n (lv' := [(3, .int v1078), (2, .int v1074), (0, .ref h0), (1, .int x1)]) hx hb dX11_pourFromTape_31 rfl hl (by decide) rfl (fun ls hl => ?_)
      refine lv_aload_n hx hb dX11_pourFromTape_32 rfl (lv_at hl 2 rfl) ?_
      refine th_get hx hb hts inT11 hown hK hO rfl 2 (by decide) (hts _ (tb_c wd_347)) rfl rfl dX11_pourFromTape_33 ?_
      refine lv_iload_n hx hb dX11_pourFromTape_36 rfl (lv_at hl 3 rfl) ?_
      refine lv_iconst (v := 2) hx hb dX11_pourFromTape_37 (by decide) ?_
      refine lv_iadd hx hb dX11_pourFromTape_38 ?_
      refine lv_topi (fun v1079 e1080 => ?_)
      have tv1079 : v1079.toInt = x1.toInt + (2) := iv_add rfl (by decide) e1080 (by omega) (by omega)
      obtain ⟨_, hA1081⟩ := op_0 hI hq1044 (th_ne hG0 hq1044 (show (15 : Nat) ≠ 0 by decide))
      refine th_iald hx hb hK hA1081 0 rfl (iv_in (X := v1079.toInt) rfl (by omega) (by omega)) dX11_pourFromTape_39 (fun v1082 _ => ?_)
      refine lv_istore (lv' := [(4, .int v1082), (3, .int v1078), (2, .int v1074), (0, .ref h0), (1, .int x1)]) hx hb dX11_pourFromTape_40 hl (by decide) rfl (fun ls hl => ?_)
      refine lv_aload_n hx hb dX11_pourFromTape_42 rfl (lv_at hl 3 rfl) ?_
      refine th_get hx hb hts inT11 hown hK hO rfl 2 (by decide) (hts _ (tb_c wd_347)) rfl rfl dX11_pourFromTape_43 ?_
      refine lv_iload_n hx hb dX11_pourFromTape_46 rfl (lv_at hl 4 rfl) ?_
      refine lv_iconst (v := 3) hx hb dX11_pourFromTape_47 (by decide) ?_
      refine lv_iadd hx hb dX11_pourFromTape_48 ?_
      refine lv_topi (fun v1083 e1084 => ?_)
      have tv1083 : v1083.toInt = x1.toInt + (3) := iv_add rfl (by decide) e1084 (by omega) (by omega)
      obtain ⟨_, hA1085⟩ := op_0 hI hq1044 (th_ne hG0 hq1044 (show (15 : Nat) ≠ 0 by decide))
      refine th_iald hx hb hK hA1085 0 rfl (iv_in (X := v1083.toInt) rfl (by omega) (by omega)) dX11_pourFromTape_49 (fun v1086 _ => ?_)
      refine lv_istore (lv' := [(5, .int v1086), (4, .int v1082), (3, .int v1078), (2, .int v1074), (0, .ref h0), (1, .int x1)]) hx hb dX11_pourFromTape_50 hl (by decide) rfl (fun ls hl => ?_)
      refine lv_iload_n hx hb dX11_pourFromTape_52 rfl (lv_at hl 3 rfl) ?_
      refine lv_iload_n hx hb dX11_pourFromTape_53 rfl (lv_at hl 2 rfl) ?_
      refine lv_iload hx hb dX11_pourFromTape_54 (lv_at hl 1 rfl) ?_
      refine lv_iload hx hb dX11_pourFromTape_56 (lv_at hl 0 rfl) ?_
      refine th_cSs (As := [.int v1074, .int v1078, .int v1082, .int v1086]) (rest := []) (n := 4) (d := 1) ⟨hx, hb, hml, hown, hts⟩ (c_X11_isPour l s.heap v1074 v1078 v1082 v1086) wd_617 wd_618 wd_1 wd_619 (by decide +kernel) ⟨by rw [hR]; exact Nat.le_of_ble_eq_true rfl, by rw [hR]; exact Nat.le_of_ble_eq_true rfl⟩ hN hS rfl hl.1 rfl (Nat.le_of_ble_eq_true rfl) dX11_pourFromTape_58 ⟨Nat.zero_le _, Nat.zero_le _⟩ (fun r1087 locs hp hS => ?_)
      rcases hp with ⟨rfl, hp⟩ | ⟨rfl, hp⟩
      · skip
        try simp only [rg, not_and, Int.not_le] at hp
        have hp1088 := hp
        refine lv_if_eq (tgt := 76) hx hb dX11_pourFromTape_61 (by decide) (fun c => absurd c (by decide)) (fun _ => ?_)
        refine lv_aload_n hx hb dX11_pourFromTape_64 rfl (lv_at hl 4 rfl) ?_
        refine th_get hx hb hts inT11 hown hK hO rfl 6 (by decide) (hts _ (tb_c wd_351)) rfl rfl dX11_pourFromTape_65 ?_
        refine lv_iload_n hx hb dX11_pourFromTape_68 rfl (lv_at hl 3 rfl) ?_
        refine lv_iload_n hx hb dX11_pourFromTape_69 rfl (lv_at hl 2 rfl) ?_
        have hI := th_I.close hI hG0 hO (ok_15 hq1041 hq1042 hq1044 hq1046 hq1048 hq1050 hq1052 hq1054 hq1056 hq1058 hq1060 hq1062 ⟨by omega, by omega⟩ k1070)
        refine th_cVi (As := [.int v1074, .int v1078]) (rest := []) (n := 2) (d := 5) ⟨hx, hb, hml, hown, hts⟩ (c_X7_isBarred l E D G a1051 hq1052 v1074 v1078) wd_623 wd_624 wd_625 wd_6 wd_626 (by decide +kernel) ⟨by rw [hR]; exact Nat.le_of_ble_eq_true rfl, by rw [hR]; exact Nat.le_of_ble_eq_true rfl⟩ hI hN hK hS (rc_9 hI hq1052 List.not_mem_nil) rfl rfl hl.1 rfl (Nat.le_of_ble_eq_true rfl) dX11_pourFromTape_70 ⟨Nat.zero_le _, Nat.zero_le _⟩ (fun r1089 H locs hp hI hS => ?_)
        have hp1090 := hp
        refine lv_if_eq (tgt := 78) hx hb dX11_pourFromTape_73 (by decide) (fun c1091 => ?_) (fun c1091 => ?_)
        · skip
          have k1092 := iv_eq (X := r1089.toInt) (Y := (0)) rfl (by decide) c1091
          refine lv_aload_n hx hb dX11_pourFromTape_78 rfl (lv_at hl 4 rfl) ?_
          obtain ⟨a1093, a1096, a1098, a1100, a1102, a1104, a1106, a1108, a1110, a1112, a1114, w1116, w1119, w1120, w1121, w1122, hO, hq1094, hq1095, hq1097, hq1099, hq1101, hq1103, hq1105, hq1107, hq1109, hq1111, hq1113, hq1115, ⟨k1117, k1118⟩, k1123⟩ := op_15 hI hG0 List.not_mem_nil
          have hI := th_I.weak (a := h0) hI
          refine th_get hx hb hts inT11 hown hK hO rfl 0 (by decide) (hts _ (tb_c wd_345)) rfl rfl dX11_pourFromTape_79 ?_
          have hI := th_I.close hI hG0 hO (ok_15 hq1094 hq1095 hq1097 hq1099 hq1101 hq1103 hq1105 hq1107 hq1109 hq1111 hq1113 hq1115 ⟨by omega, by omega⟩ k1123)
          obtain ⟨a1124, a1126, a1128, a1130, a1132, a1134, a1136, a1138, a1140, a1142, w1144, w1147, w1148, w1149, hO, hq1125, hq1127, hq1129, hq1131, hq1133, hq1135, hq1137, hq1139, hq1141, hq1143, ⟨k1145, k1146⟩, k1150⟩ := op_6 hI hq1094 List.not_mem_nil
          have hI := th_I.weak (a := a1093) hI
          refine th_getN hx hb hts inT6 hown hK hN hO rfl 5 (by decide) wn_71 rfl rfl dX11_pourFromTape_82 ?_
          refine lv_iload_n hx hb dX11_pourFromTape_85 rfl (lv_at hl 3 rfl) ?_
          refine lv_iload_n hx hb dX11_pourFromTape_86 rfl (lv_at hl 2 rfl) ?_
          refine lv_iload hx hb dX11_pourFromTape_87 (lv_at hl 1 rfl) ?_
          refine lv_iload hx hb dX11_pourFromTape_89 (lv_at hl 0 rfl) ?_
          have hI := th_I.close hI hq1094 hO (ok_6 hq1125 hq1127 hq1129 hq1131 hq1133 hq1135 hq1137 hq1139 hq1141 hq1143 ⟨by omega, by omega⟩ k1150)
          refine th_cVi (As := [.int v1074, .int v1078, .int v1082, .int v1086]) (rest := []) (n := 4) (d := 1) ⟨hx, hb, hml, hown, hts⟩ (c_X4_put l E D G a1134 (16) hq1135 v1074 v1078 v1082 v1086 (by decide)) wd_485 wd_486 wd_487 wd_3 wd_488 (by decide +kernel) ⟨by rw [hR]; exact Nat.le_of_ble_eq_true rfl, by rw [hR]; exact Nat.le_of_ble_eq_true rfl⟩ hI hN hK hS (rc_4 hI hq1135 List.not_mem_nil) rfl rfl hl.1 rfl (Nat.le_of_ble_eq_true rfl) dX11_pourFromTape_91 ⟨Nat.zero_le _, Nat.zero_le _⟩ (fun r1151 H locs hp hI hS => ?_)
          refine lv_iconst (v := (-1)) hx hb dX11_pourFromTape_94 (by decide) ?_
          have k1152 := iv_lo r1151
          have k1153 := iv_hi r1151
          refine lv_icmp_eq (tgt := 102) hx hb dX11_pourFromTape_95 (by decide) (fun c1154 => ?_) (fun c1154 => ?_)
          · skip
            have k1155 := iv_eq (X := r1151.toInt) (Y := (-1)) rfl (by decide) c1154
            refine lv_iconst (v := 0) hx hb dX11_pourFromTape_102 (by decide) ?_
            have hpost : 0 ≤ (0 : Int32).toInt ∧ (0 : Int32).toInt ≤ 1 := by first | decide | omega
            rw [hQ]
            exact W.zret (v := 0) hx hb hr (by decide) (fun t ht hW => ⟨⟨0, (), rfl, hpost, by rw [ht]; exact hI, hN.warm hW, va_K.moved hW.alike hK⟩, hS.F ht⟩) hS.2.2 dX11_pourFromTape_103
          · skip
            have k1156 := iv_ne (X := r1151.toInt) (Y := (-1)) rfl (by decide) c1154
            refine lv_iconst (v := 1) hx hb dX11_pourFromTape_98 (by decide) ?_
            refine lv_goto (tgt := 103) hx hb dX11_pourFromTape_99 (by decide) ?_
            have hpost : 0 ≤ (1 : Int32).toInt ∧ (1 : Int32).toInt ≤ 1 := by first | decide | omega
            rw [hQ]
            exact W.zret (v := 1) hx hb hr (by decide) (fun t ht hW => ⟨⟨1, (), rfl, hpost, by rw [ht]; exact hI, hN.warm hW, va_K.moved hW.alike hK⟩, hS.F ht⟩) hS.2.2 dX11_pourFromTape_103
        · skip
          have k1157 := iv_ne (X := r1089.toInt) (Y := (0)) rfl (by decide) c1091
          exact J_76 H locs ls v1086 v1082 v1078 v1074 (lv_sub hl [0, 1, 2, 3, 4, 5] rfl) ⟨by omega, by omega⟩ hI hS
      · skip
        try simp only [rg, not_and, Int.not_le] at hp
        have hp1158 := hp
        refine lv_if_eq (tgt := 76) hx hb dX11_pourFromTape_61 (by decide) (fun _ => ?_) (fun c => absurd c (by decide))
        have hI := th_I.close hI hG0 hO (ok_15 hq1041 hq1042 hq1044 hq1046 hq1048 hq1050 hq1052 hq1054 hq1056 hq1058 hq1060 hq1062 ⟨by omega, by omega⟩ k1070)
        exact J_76 s.heap locs ls v1086 v1082 v1078 v1074 (lv_sub hl [0, 1, 2, 3, 4, 5] rfl) ⟨by omega, by omega⟩ hI hS
    · skip
      have k1159 := iv_nle (X := v1038.toInt) (Y := w1063.toInt) rfl rfl c1071
      have hI := th_I.close hI hG0 hO (ok_15 hq1041 hq1042 hq1044 hq1046 hq1048 hq1050 hq1052 hq1054 hq1056 hq1058 hq1060 hq1062 ⟨by omega, by omega⟩ k1070)
      exact J_14 s.heap [] ls  (lv_sub hl [0, 1] rfl) ⟨by omega, by omega⟩ hI hS
theorem dX11_row_0g : (decode cX11_row 0 = .ok (.aload_n 0, 1)) ∧ (decode cX11_row 1 = .ok (.getfield 89, 3)) ∧ (decode cX11_row 4 = .ok (.ifCond .ne 10, 3)) ∧ (decode cX11_row 7 = .ok (.aload_n 0, 1)) ∧ (decode cX11_row 8 = .ok (.bipush (-6), 2)) ∧ (decode cX11_row 10 = .ok (.invokevirtual 113, 3)) ∧ (decode cX11_row 13 = .ok (.ireturn, 1)) ∧ (decode cX11_row 14 = .ok (.iconst 0, 1)) ∧ (decode cX11_row 15 = .ok (.istore_n 1, 1)) ∧ (decode cX11_row 16 = .ok (.iconst 0, 1)) := by decide +kernel
theorem dX11_row_0 : decode cX11_row 0 = .ok (.aload_n 0, 1) := dX11_row_0g.1
theorem dX11_row_1 : decode cX11_row 1 = .ok (.getfield 89, 3) := dX11_row_0g.2.1
theorem dX11_row_4 : decode cX11_row 4 = .ok (.ifCond .ne 10, 3) := dX11_row_0g.2.2.1
theorem dX11_row_7 : decode cX11_row 7 = .ok (.aload_n 0, 1) := dX11_row_0g.2.2.2.1
theorem dX11_row_8 : decode cX11_row 8 = .ok (.bipush (-6), 2) := dX11_row_0g.2.2.2.2.1
theorem dX11_row_10 : decode cX11_row 10 = .ok (.invokevirtual 113, 3) := dX11_row_0g.2.2.2.2.2.1
theorem dX11_row_13 : decode cX11_row 13 = .ok (.ireturn, 1) := dX11_row_0g.2.2.2.2.2.2.1
theorem dX11_row_14 : decode cX11_row 14 = .ok (.iconst 0, 1) := dX11_row_0g.2.2.2.2.2.2.2.1
theorem dX11_row_15 : decode cX11_row 15 = .ok (.istore_n 1, 1) := dX11_row_0g.2.2.2.2.2.2.2.2.1
theorem dX11_row_16 : decode cX11_row 16 = .ok (.iconst 0, 1) := dX11_row_0g.2.2.2.2.2.2.2.2.2
theorem dX11_row_17g : (decode cX11_row 17 = .ok (.istore_n 2, 1)) ∧ (decode cX11_row 18 = .ok (.iconst 0, 1)) ∧ (decode cX11_row 19 = .ok (.istore_n 3, 1)) ∧ (decode cX11_row 20 = .ok (.iload_n 3, 1)) ∧ (decode cX11_row 21 = .ok (.aload_n 0, 1)) ∧ (decode cX11_row 22 = .ok (.getfield 89, 3)) ∧ (decode cX11_row 25 = .ok (.if_icmp .ge 26, 3)) ∧ (decode cX11_row 28 = .ok (.aload_n 0, 1)) ∧ (decode cX11_row 29 = .ok (.iload_n 3, 1)) ∧ (decode cX11_row 30 = .ok (.invokevirtual 188, 3)) := by decide +kernel
theorem dX11_row_17 : decode cX11_row 17 = .ok (.istore_n 2, 1) := dX11_row_17g.1
theorem dX11_row_18 : decode cX11_row 18 = .ok (.iconst 0, 1) := dX11_row_17g.2.1
theorem dX11_row_19 : decode cX11_row 19 = .ok (.istore_n 3, 1) := dX11_row_17g.2.2.1
theorem dX11_row_20 : decode cX11_row 20 = .ok (.iload_n 3, 1) := dX11_row_17g.2.2.2.1
theorem dX11_row_21 : decode cX11_row 21 = .ok (.aload_n 0, 1) := dX11_row_17g.2.2.2.2.1
theorem dX11_row_22 : decode cX11_row 22 = .ok (.getfield 89, 3) := dX11_row_17g.2.2.2.2.2.1
theorem dX11_row_25 : decode cX11_row 25 = .ok (.if_icmp .ge 26, 3) := dX11_row_17g.2.2.2.2.2.2.1
theorem dX11_row_28 : decode cX11_row 28 = .ok (.aload_n 0, 1) := dX11_row_17g.2.2.2.2.2.2.2.1
theorem dX11_row_29 : decode cX11_row 29 = .ok (.iload_n 3, 1) := dX11_row_17g.2.2.2.2.2.2.2.2.1
theorem dX11_row_30 : decode cX11_row 30 = .ok (.invokevirtual 188, 3) := dX11_row_17g.2.2.2.2.2.2.2.2.2
theorem dX11_row_33g : (decode cX11_row 33 = .ok (.ifCond .eq 9, 3)) ∧ (decode cX11_row 36 = .ok (.iinc 1 1, 3)) ∧ (decode cX11_row 39 = .ok (.goto 6, 3)) ∧ (decode cX11_row 42 = .ok (.iinc 2 1, 3)) ∧ (decode cX11_row 45 = .ok (.iinc 3 4, 3)) ∧ (decode cX11_row 48 = .ok (.goto (-28), 3)) ∧ (decode cX11_row 51 = .ok (.aload_n 0, 1)) ∧ (decode cX11_row 52 = .ok (.iconst 0, 1)) ∧ (decode cX11_row 53 = .ok (.putfield 89, 3)) ∧ (decode cX11_row 56 = .ok (.aload_n 0, 1)) := by decide +kernel
theorem dX11_row_33 : decode cX11_row 33 = .ok (.ifCond .eq 9, 3) := dX11_row_33g.1
theorem dX11_row_36 : decode cX11_row 36 = .ok (.iinc 1 1, 3) := dX11_row_33g.2.1
theorem dX11_row_39 : decode cX11_row 39 = .ok (.goto 6, 3) := dX11_row_33g.2.2.1
theorem dX11_row_42 : decode cX11_row 42 = .ok (.iinc 2 1, 3) := dX11_row_33g.2.2.2.1
theorem dX11_row_45 : decode cX11_row 45 = .ok (.iinc 3 4, 3) := dX11_row_33g.2.2.2.2.1
theorem dX11_row_48 : decode cX11_row 48 = .ok (.goto (-28), 3) := dX11_row_33g.2.2.2.2.2.1
theorem dX11_row_51 : decode cX11_row 51 = .ok (.aload_n 0, 1) := dX11_row_33g.2.2.2.2.2.2.1
theorem dX11_row_52 : decode cX11_row 52 = .ok (.iconst 0, 1) := dX11_row_33g.2.2.2.2.2.2.2.1
theorem dX11_row_53 : decode cX11_row 53 = .ok (.putfield 89, 3) := dX11_row_33g.2.2.2.2.2.2.2.2.1
theorem dX11_row_56 : decode cX11_row 56 = .ok (.aload_n 0, 1) := dX11_row_33g.2.2.2.2.2.2.2.2.2
theorem dX11_row_57g : (decode cX11_row 57 = .ok (.iload_n 2, 1)) ∧ (decode cX11_row 58 = .ok (.putfield 96, 3)) ∧ (decode cX11_row 61 = .ok (.aload_n 0, 1)) ∧ (decode cX11_row 62 = .ok (.invokevirtual 191, 3)) ∧ (decode cX11_row 65 = .ok (.aload_n 0, 1)) ∧ (decode cX11_row 66 = .ok (.iload_n 1, 1)) ∧ (decode cX11_row 67 = .ok (.invokevirtual 127, 3)) ∧ (decode cX11_row 70 = .ok (.ireturn, 1)) := by decide +kernel
theorem dX11_row_57 : decode cX11_row 57 = .ok (.iload_n 2, 1) := dX11_row_57g.1
theorem dX11_row_58 : decode cX11_row 58 = .ok (.putfield 96, 3) := dX11_row_57g.2.1
theorem dX11_row_61 : decode cX11_row 61 = .ok (.aload_n 0, 1) := dX11_row_57g.2.2.1
theorem dX11_row_62 : decode cX11_row 62 = .ok (.invokevirtual 191, 3) := dX11_row_57g.2.2.2.1
theorem dX11_row_65 : decode cX11_row 65 = .ok (.aload_n 0, 1) := dX11_row_57g.2.2.2.2.1
theorem dX11_row_66 : decode cX11_row 66 = .ok (.iload_n 1, 1) := dX11_row_57g.2.2.2.2.2.1
theorem dX11_row_67 : decode cX11_row 67 = .ok (.invokevirtual 127, 3) := dX11_row_57g.2.2.2.2.2.2.1
theorem dX11_row_70 : decode cX11_row 70 = .ok (.ireturn, 1) := dX11_row_57g.2.2.2.2.2.2.2
set_option maxHeartbeats 4000000 in
set_option maxRecDepth 100000 in
theorem c_X11_row (l : Launch) (E : Nat → Nat) (D : va_G) (G : th_G) (h0 n : Nat) (hG0 : G h0 = some (15, n)) : Met l yX11_row (tb (.code yX11_row cX11_row 4 (some .int))) (rm 7) (va_Pc [.ref h0] (th_P E D G)) (QI E D G (fun r => True)) 0 0 (th_A G) := by
  refine Met.ofW (cc := cX11_row) (maxL := 4) (ret := (some .int)) (by decide) rfl ?_
  intro p e s m args below meth c s₁ B hml hv
  obtain ⟨hav, hI, hN, hK⟩ := hv
  have hx := B.exec
  have hb := B.bytes
  have hr := B.returns
  have hts := atoms_spec (ws := tb (.code yX11_row cX11_row 4 (some .int))) B.pre
  have hown : s.vm.findClass RX11 = some m.cls := findClass_of_methodNamed B.named
  have hlocks := B.notSynchronized
  have hS : va_S (th_A G) s.heap s.heap [] := va_S.rf
  have hl := lv_entry ([.ref h0]) (n := 4) (Nat.le_of_ble_eq_true rfl)
  rw [show entryFrame m args 4 = entryFrame m ([.ref h0] : List Value).toArray 4 from by rw [hav], lg_entry_eq]
  generalize (lg_sl ([.ref h0]) ++ List.replicate (4 - (lg_sl ([.ref h0])).length) Slot.unset).toArray = ls at hl ⊢
  have hl : lv_has ls 4 [(0, .ref h0)] := hl
  generalize hR : (headSpec (tb (.code yX11_row cX11_row 4 (some .int))) (rm 7)).room = R
  have hR := hR.symm
  generalize hQ : MQ below (QI E D G (fun r => True)) args s 0 0 (th_A G) = QF
  have hQ := hQ.symm
  have J_20 : ∀ (nn : Nat) (H : Heap) (locs : List Loc) (ls : Array Slot) (v5251 : Int32) (v5252 : Int32) (v5253 : Int32), (Int.toNat (403 - v5251.toInt) = nn) → lv_has ls 4 [(3, .int v5251), (2, .int v5252), (1, .int v5253), (0, .ref h0)] → ((0 : Int) ≤ v5251.toInt ∧ v5251.toInt ≤ 403) → th_I (okC E) D G [] H → va_S (th_A G) s.heap H locs → W p l e R s m args below meth c H locs 0 0 QF (F0 m 20 ls []) := by
    intro nn
    induction nn using Nat.strongRecOn with
    | ind nn ih_20 =>
      intro H locs ls v5251 v5252 v5253 hm hl k5254 hI hS
      have J_45 : ∀ (H : Heap) (locs : List Loc) (ls : Array Slot) (v5255 : Int32) (v5257 : Int32), lv_has ls 4 [(2, .int v5255), (3, .int v5251), (1, .int v5257), (0, .ref h0)] → ((0 : Int) ≤ v5251.toInt ∧ v5251.toInt ≤ 399) → th_I (okC E) D G [] H → va_S (th_A G) s.heap H locs → W p l e R s m args below meth c H locs 0 0 QF (F0 m 45 ls []) := by
        intro H locs ls v5255 v5257 hl k5258 hI hS
        obtain ⟨v5259, e5260⟩ : ∃ y : Int32, y = v5251 + (4) := ⟨_, rfl⟩
        have tv5259 : v5259.toInt = v5251.toInt + (4) := iv_add rfl (by decide) e5260 (by omega) (by omega)
        refine lv_iinc (v := v5259) (lv' := [(3, .int v5259), (2, .int v5255), (1, .int v5257), (0, .ref h0)]) hx hb dX11_row_45 hl (k := 1) rfl (by rw [e5260]; rfl) (by decide) rfl (fun ls hl => ?_)
        refine lv_goto (tgt := 20) hx hb dX11_row_48 (by decide) ?_
        exact ih_20 _ (by omega) H locs ls v5259 v5255 v5257 rfl (lv_sub hl [0, 1, 2, 3] rfl) ⟨by omega, by omega⟩ hI hS
      refine lv_iload_n hx hb dX11_row_20 rfl (lv_at hl 0 rfl) ?_
      refine lv_aload_n hx hb dX11_row_21 rfl (lv_at hl 3 rfl) ?_
      obtain ⟨a5261, a5264, a5266, a5268, a5270, a5272, a5274, a5276, a5278, a5280, a5282, w5284, w5287, w5288, w5289, w5290, hO, hq5262, hq5263, hq5265, hq5267, hq5269, hq5271, hq5273, hq5275, hq5277, hq5279, hq5281, hq5283, ⟨k5285, k5286⟩, k5291⟩ := op_15 hI hG0 List.not_mem_nil
      have hI := th_I.weak (a := h0) hI
      refine th_get hx hb hts inT11 hown hK hO rfl 12 (by decide) (hts _ (tb_c wd_357)) rfl rfl dX11_row_22 ?_
      refine lv_icmp_ge (tgt := 51) hx hb dX11_row_25 (by decide) (fun c5292 => ?_) (fun c5292 => ?_)
      · skip
        have k5293 := iv_le (X := w5284.toInt) (Y := v5251.toInt) rfl rfl c5292
        refine lv_aload_n hx hb dX11_row_51 rfl (lv_at hl 3 rfl) ?_
        refine lv_iconst (v := 0) hx hb dX11_row_52 (by decide) ?_
        refine th_put (ty := .int) hx hb hts inT11 tyX11 tyX11_ok nmX11 hown hK hO hS ⟨_, hG0⟩ rfl 12 (by decide) (hts _ (tb_c wd_357)) rfl rfl (by decide +kernel) rfl rfl (Nat.le_of_ble_eq_true rfl) dX11_row_53 (fun H locs hO oq hS => ?_)
        have hI := th_I.moved hI oq
        have hO : va_at D vwCl (h0, .inr (11, [.ref a5261, .ref n, .ref a5264, .ref a5266, .ref a5268, .ref a5270, .ref a5272, .ref a5274, .ref a5276, .ref a5278, .ref a5280, .ref a5282, .int 0, .int w5287, .int w5288, .int w5289, .int w5290])) H := hO
        refine lv_aload_n hx hb dX11_row_56 rfl (lv_at hl 3 rfl) ?_
        refine lv_iload_n hx hb dX11_row_57 rfl (lv_at hl 1 rfl) ?_
        refine th_put (ty := .int) hx hb hts inT11 tyX11 tyX11_ok nmX11 hown hK hO hS ⟨_, hG0⟩ rfl 14 (by decide) (hts _ (tb_c wd_359)) rfl rfl (by decide +kernel) rfl rfl (Nat.le_of_ble_eq_true rfl) dX11_row_58 (fun H locs hO oq hS => ?_)
        have hI := th_I.moved hI oq
        have hO : va_at D vwCl (h0, .inr (11, [.ref a5261, .ref n, .ref a5264, .ref a5266, .ref a5268, .ref a5270, .ref a5272, .ref a5274, .ref a5276, .ref a5278, .ref a5280, .ref a5282, .int 0, .int w5287, .int v5252, .int w5289, .int w5290])) H := hO
        refine lv_aload_n hx hb dX11_row_61 rfl (lv_at hl 3 rfl) ?_
        have hI := th_I.close hI hG0 hO (ok_15 hq5262 hq5263 hq5265 hq5267 hq5269 hq5271 hq5273 hq5275 hq5277 hq5279 hq5281 hq5283 ⟨by rw [show (0 : Int32).toInt = 0 from by decide]; omega, by rw [show (0 : Int32).toInt = 0 from by decide]; omega⟩ k5291)
        refine th_cVv (As := []) (rest := []) (n := 0) (d := 1) ⟨hx, hb, hml, hown, hts⟩ (c_X11_turnLists l E D G h0 (n) hG0 ) wd_431 wd_433 wp_2 wd_1 wd_434 (by decide +kernel) ⟨by rw [hR]; exact Nat.le_of_ble_eq_true rfl, by rw [hR]; exact Nat.le_of_ble_eq_true rfl⟩ hI hN hK hS (rc_15 hI hG0 List.not_mem_nil) rfl rfl hl.1 rfl (Nat.le_of_ble_eq_true rfl) dX11_row_62 ⟨Nat.zero_le _, Nat.zero_le _⟩ (fun H locs hI hS => ?_)
        refine lv_aload_n hx hb dX11_row_65 rfl (lv_at hl 3 rfl) ?_
        refine lv_iload_n hx hb dX11_row_66 rfl (lv_at hl 2 rfl) ?_
        refine th_cVi (As := [.int v5253]) (rest := []) (n := 1) (d := 0) ⟨hx, hb, hml, hown, hts⟩ (c_X11_accept l E D G h0 (n) hG0 v5253) wd_447 wd_449 wp_3 wd_1 wd_450 (by decide +kernel) ⟨by rw [hR]; exact Nat.le_of_ble_eq_true rfl, by rw [hR]; exact Nat.le_of_ble_eq_true rfl⟩ hI hN hK hS (rc_15 hI hG0 List.not_mem_nil) rfl rfl hl.1 rfl (Nat.le_of_ble_eq_true rfl) dX11_row_67 ⟨Nat.zero_le _, Nat.zero_le _⟩ (fun r5295 H locs hp hI hS => ?_)
        have hp := hp.symm
        subst hp
        have hpost : True := trivial
        rw [hQ]
        exact W.iret (v := v5253) hx hb hr (fun t ht hW => ⟨⟨v5253, (), rfl, hpost, by rw [ht]; exact hI, hN.warm hW, va_K.moved hW.alike hK⟩, hS.F ht⟩) hS.2.2 dX11_row_70
      · skip
        have k5296 := iv_nle (X := w5284.toInt) (Y := v5251.toInt) rfl rfl c5292
        refine lv_aload_n hx hb dX11_row_28 rfl (lv_at hl 3 rfl) ?_
        refine lv_iload_n hx hb dX11_row_29 rfl (lv_at hl 0 rfl) ?_
        have hI := th_I.close hI hG0 hO (ok_15 hq5262 hq5263 hq5265 hq5267 hq5269 hq5271 hq5273 hq5275 hq5277 hq5279 hq5281 hq5283 ⟨by omega, by omega⟩ k5291)
        refine th_cVi (As := [.int v5251]) (rest := []) (n := 1) (d := 6) ⟨hx, hb, hml, hown, hts⟩ (c_X11_pourFromTape l E D G h0 (n) hG0 v5251 ⟨by omega, by omega⟩) wd_613 wd_615 wp_9 wd_1 wd_616 (by decide +kernel) ⟨by rw [hR]; exact Nat.le_of_ble_eq_true rfl, by rw [hR]; exact Nat.le_of_ble_eq_true rfl⟩ hI hN hK hS (rc_15 hI hG0 List.not_mem_nil) rfl rfl hl.1 rfl (Nat.le_of_ble_eq_true rfl) dX11_row_30 ⟨Nat.zero_le _, Nat.zero_le _⟩ (fun r5297 H locs hp hI hS => ?_)
        have hp5298 := hp
        refine lv_if_eq (tgt := 42) hx hb dX11_row_33 (by decide) (fun c5299 => ?_) (fun c5299 => ?_)
        · skip
          have k5300 := iv_eq (X := r5297.toInt) (Y := (0)) rfl (by decide) c5299
          obtain ⟨v5301, e5302⟩ : ∃ y : Int32, y = v5252 + (1) := ⟨_, rfl⟩
          have k5303 := iv_lo v5252
          have k5304 := iv_hi v5252
          refine lv_iinc (v := v5301) (lv' := [(2, .int v5301), (3, .int v5251), (1, .int v5253), (0, .ref h0)]) hx hb dX11_row_42 hl (k := 1) rfl (by rw [e5302]; rfl) (by decide) rfl (fun ls hl => ?_)
          exact J_45 H locs ls v5301 v5253 (lv_sub hl [0, 1, 2, 3] rfl) ⟨by omega, by omega⟩ hI hS
        · skip
          have k5305 := iv_ne (X := r5297.toInt) (Y := (0)) rfl (by decide) c5299
          obtain ⟨v5306, e5307⟩ : ∃ y : Int32, y = v5253 + (1) := ⟨_, rfl⟩
          have k5308 := iv_lo v5253
          have k5309 := iv_hi v5253
          refine lv_iinc (v := v5306) (lv' := [(1, .int v5306), (3, .int v5251), (2, .int v5252), (0, .ref h0)]) hx hb dX11_row_36 hl (k := 2) rfl (by rw [e5307]; rfl) (by decide) rfl (fun ls hl => ?_)
          refine lv_goto (tgt := 45) hx hb dX11_row_39 (by decide) ?_
          exact J_45 H locs ls v5252 v5306 (lv_sub hl [2, 1, 0, 3] rfl) ⟨by omega, by omega⟩ hI hS
  refine lv_aload_n hx hb dX11_row_0 rfl (lv_at hl 0 rfl) ?_
  obtain ⟨a5310, a5313, a5315, a5317, a5319, a5321, a5323, a5325, a5327, a5329, a5331, w5333, w5336, w5337, w5338, w5339, hO, hq5311, hq5312, hq5314, hq5316, hq5318, hq5320, hq5322, hq5324, hq5326, hq5328, hq5330, hq5332, ⟨k5334, k5335⟩, k5340⟩ := op_15 hI hG0 List.not_mem_nil
  have hI := th_I.weak (a := h0) hI
  refine th_get hx hb hts inT11 hown hK hO rfl 12 (by decide) (hts _ (tb_c wd_357)) rfl rfl dX11_row_1 ?_
  refine lv_if_ne (tgt := 14) hx hb dX11_row_4 (by decide) (fun c5341 => ?_) (fun c5341 => ?_)
  · skip
    have k5342 := iv_ne (X := w5333.toInt) (Y := (0)) rfl (by decide) c5341
    refine lv_iconst (v := 0) hx hb dX11_row_14 (by decide) ?_
    refine lv_istore_n (lv' := [(1, .int 0), (0, .ref h0)]) hx hb dX11_row_15 rfl hl (by decide) rfl (fun ls hl => ?_)
    refine lv_iconst (v := 0) hx hb dX11_row_16 (by decide) ?_
    refine lv_istore_n (lv' := [(2, .int 0), (1, .int 0), (0, .ref h0)]) hx hb dX11_row_17 rfl hl (by decide) rfl (fun ls hl => ?_)
    refine lv_iconst (v := 0) hx hb dX11_row_18 (by decide) ?_
    refine lv_istore_n (lv' := [(3, .int 0), (2, .int 0), (1, .int 0), (0, .ref h0)]) hx hb dX11_row_19 rfl hl (by decide) rfl (fun ls hl => ?_)
    have hI := th_I.close hI hG0 hO (ok_15 hq5311 hq5312 hq5314 hq5316 hq5318 hq5320 hq5322 hq5324 hq5326 hq5328 hq5330 hq5332 ⟨by omega, by omega⟩ k5340)
    have zl : (0 : Int32).toInt = 0 := by decide
    exact J_20 _ s.heap [] ls 0 0 0 rfl (lv_sub hl [0, 1, 2, 3] rfl) ⟨by decide, by decide⟩ hI hS
  · skip
    have k5343 := iv_eq (X := w5333.toInt) (Y := (0)) rfl (by decide) c5341
    refine lv_aload_n hx hb dX11_row_7 rfl (lv_at hl 0 rfl) ?_
    refine lv_bipush (v := (-6)) hx hb dX11_row_8 (by decide) ?_
    have hI := th_I.close hI hG0 hO (ok_15 hq5311 hq5312 hq5314 hq5316 hq5318 hq5320 hq5322 hq5324 hq5326 hq5328 hq5330 hq5332 ⟨by omega, by omega⟩ k5340)
    refine th_cVi (As := [.int (-6)]) (rest := []) (n := 1) (d := 0) ⟨hx, hb, hml, hown, hts⟩ (c_X11_refuse l E D G h0 (n) hG0 (-6)) wd_407 wd_409 wp_0 wd_1 wd_410 (by decide +kernel) ⟨by rw [hR]; exact Nat.le_of_ble_eq_true rfl, by rw [hR]; exact Nat.le_of_ble_eq_true rfl⟩ hI hN hK hS (rc_15 hI hG0 List.not_mem_nil) rfl rfl hl.1 rfl (Nat.le_of_ble_eq_true rfl) dX11_row_10 ⟨Nat.zero_le _, Nat.zero_le _⟩ (fun r5344 H locs hp hI hS => ?_)
    have hp := hp.symm
    subst hp
    have hpost : True := trivial
    rw [hQ]
    exact W.iret (v := (-6)) hx hb hr (fun t ht hW => ⟨⟨(-6), (), rfl, hpost, by rw [ht]; exact hI, hN.warm hW, va_K.moved hW.alike hK⟩, hS.F ht⟩) hS.2.2 dX11_row_13
theorem dX11_suspects_0g : (decode cX11_suspects 0 = .ok (.iload_n 1, 1)) ∧ (decode cX11_suspects 1 = .ok (.invokestatic 269, 3)) ∧ (decode cX11_suspects 4 = .ok (.ifCond .eq 8, 3)) ∧ (decode cX11_suspects 7 = .ok (.iload_n 2, 1)) ∧ (decode cX11_suspects 8 = .ok (.iconst (-1), 1)) ∧ (decode cX11_suspects 9 = .ok (.if_icmp .ge 5, 3)) ∧ (decode cX11_suspects 12 = .ok (.iconst (-1), 1)) ∧ (decode cX11_suspects 13 = .ok (.ireturn, 1)) ∧ (decode cX11_suspects 14 = .ok (.iload_n 2, 1)) ∧ (decode cX11_suspects 15 = .ok (.iconst (-1), 1)) := by decide +kernel
theorem dX11_suspects_0 : decode cX11_suspects 0 = .ok (.iload_n 1, 1) := dX11_suspects_0g.1
theorem dX11_suspects_1 : decode cX11_suspects 1 = .ok (.invokestatic 269, 3) := dX11_suspects_0g.2.1
theorem dX11_suspects_4 : decode cX11_suspects 4 = .ok (.ifCond .eq 8, 3) := dX11_suspects_0g.2.2.1
theorem dX11_suspects_7 : decode cX11_suspects 7 = .ok (.iload_n 2, 1) := dX11_suspects_0g.2.2.2.1
theorem dX11_suspects_8 : decode cX11_suspects 8 = .ok (.iconst (-1), 1) := dX11_suspects_0g.2.2.2.2.1
theorem dX11_suspects_9 : decode cX11_suspects 9 = .ok (.if_icmp .ge 5, 3) := dX11_suspects_0g.2.2.2.2.2.1
theorem dX11_suspects_12 : decode cX11_suspects 12 = .ok (.iconst (-1), 1) := dX11_suspects_0g.2.2.2.2.2.2.1
theorem dX11_suspects_13 : decode cX11_suspects 13 = .ok (.ireturn, 1) := dX11_suspects_0g.2.2.2.2.2.2.2.1
theorem dX11_suspects_14 : decode cX11_suspects 14 = .ok (.iload_n 2, 1) := dX11_suspects_0g.2.2.2.2.2.2.2.2.1
theorem dX11_suspects_15 : decode cX11_suspects 15 = .ok (.iconst (-1), 1) := dX11_suspects_0g.2.2.2.2.2.2.2.2.2
theorem dX11_suspects_16g : (decode cX11_suspects 16 = .ok (.if_icmp .ne 14, 3)) ∧ (decode cX11_suspects 19 = .ok (.aload_n 0, 1)) ∧ (decode cX11_suspects 20 = .ok (.getfield 69, 3)) ∧ (decode cX11_suspects 23 = .ok (.iload_n 1, 1)) ∧ (decode cX11_suspects 24 = .ok (.invokevirtual 298, 3)) ∧ (decode cX11_suspects 27 = .ok (.goto 12, 3)) ∧ (decode cX11_suspects 30 = .ok (.aload_n 0, 1)) ∧ (decode cX11_suspects 31 = .ok (.getfield 69, 3)) ∧ (decode cX11_suspects 34 = .ok (.iload_n 1, 1)) ∧ (decode cX11_suspects 35 = .ok (.iload_n 2, 1)) := by decide +kernel
theorem dX11_suspects_16 : decode cX11_suspects 16 = .ok (.if_icmp .ne 14, 3) := dX11_suspects_16g.1
theorem dX11_suspects_19 : decode cX11_suspects 19 = .ok (.aload_n 0, 1) := dX11_suspects_16g.2.1
theorem dX11_suspects_20 : decode cX11_suspects 20 = .ok (.getfield 69, 3) := dX11_suspects_16g.2.2.1
theorem dX11_suspects_23 : decode cX11_suspects 23 = .ok (.iload_n 1, 1) := dX11_suspects_16g.2.2.2.1
theorem dX11_suspects_24 : decode cX11_suspects 24 = .ok (.invokevirtual 298, 3) := dX11_suspects_16g.2.2.2.2.1
theorem dX11_suspects_27 : decode cX11_suspects 27 = .ok (.goto 12, 3) := dX11_suspects_16g.2.2.2.2.2.1
theorem dX11_suspects_30 : decode cX11_suspects 30 = .ok (.aload_n 0, 1) := dX11_suspects_16g.2.2.2.2.2.2.1
theorem dX11_suspects_31 : decode cX11_suspects 31 = .ok (.getfield 69, 3) := dX11_suspects_16g.2.2.2.2.2.2.2.1
theorem dX11_suspects_34 : decode cX11_suspects 34 = .ok (.iload_n 1, 1) := dX11_suspects_16g.2.2.2.2.2.2.2.2.1
theorem dX11_suspects_35 : decode cX11_suspects 35 = .ok (.iload_n 2, 1) := dX11_suspects_16g.2.2.2.2.2.2.2.2.2
theorem dX11_suspects_36g : (decode cX11_suspects 36 = .ok (.invokevirtual 301, 3)) ∧ (decode cX11_suspects 39 = .ok (.ireturn, 1)) := by decide +kernel
theorem dX11_suspects_36 : decode cX11_suspects 36 = .ok (.invokevirtual 301, 3) := dX11_suspects_36g.1
theorem dX11_suspects_39 : decode cX11_suspects 39 = .ok (.ireturn, 1) := dX11_suspects_36g.2
set_option maxHeartbeats 4000000 in
set_option maxRecDepth 100000 in
theorem c_X11_suspects (l : Launch) (E : Nat → Nat) (D : va_G) (G : th_G) (h0 n : Nat) (hG0 : G h0 = some (15, n)) (x1 x2 : Int32) : Met l yX11_suspects (tb (.code yX11_suspects cX11_suspects 3 (some .int))) (rm 8) (va_Pc [.ref h0, .int x1, .int x2] (th_P E D G)) (QI E D G (fun r => True)) 0 0 (th_A G) := by
  refine Met.ofW (cc := cX11_suspects) (maxL := 3) (ret := (some .int)) (by decide) rfl ?_
  intro p e s m args below meth c s₁ B hml hv
  obtain ⟨hav, hI, hN, hK⟩ := hv
  have hx := B.exec
  have hb := B.bytes
  have hr := B.returns
  have hts := atoms_spec (ws := tb (.code yX11_suspects cX11_suspects 3 (some .int))) B.pre
  have hown : s.vm.findClass RX11 = some m.cls := findClass_of_methodNamed B.named
  have hlocks := B.notSynchronized
  have hS : va_S (th_A G) s.heap s.heap [] := va_S.rf
  have hl := lv_entry ([.ref h0, .int x1, .int x2]) (n := 3) (Nat.le_of_ble_eq_true rfl)
  rw [show entryFrame m args 3 = entryFrame m ([.ref h0, .int x1, .int x2] : List Value).toArray 3 from by rw [hav], lg_entry_eq]
  generalize (lg_sl ([.ref h0, .int x1, .int x2]) ++ List.replicate (3 - (lg_sl ([.ref h0, .int x1, .int x2])).length) Slot.unset).toArray = ls at hl ⊢
  have hl : lv_has ls 3 [(0, .ref h0), (1, .int x1), (2, .int x2)] := hl
  generalize hR : (headSpec (tb (.code yX11_suspects cX11_suspects 3 (some .int))) (rm 8)).room = R
  have hR := hR.symm
  generalize hQ : MQ below (QI E D G (fun r => True)) args s 0 0 (th_A G) = QF
  have hQ := hQ.symm
  have J_12 : ∀ (H : Heap) (locs : List Loc) (ls : Array Slot) , lv_has ls 3 [(0, .ref h0), (1, .int x1), (2, .int x2)] → th_I (okC E) D G [] H → va_S (th_A G) s.heap H locs → W p l e R s m args below meth c H locs 0 0 QF (F0 m 12 ls []) := by
    intro H locs ls  hl  hI hS
    refine lv_iconst (v := (-1)) hx hb dX11_suspects_12 (by decide) ?_
    have hpost : True := trivial
    rw [hQ]
    exact W.iret (v := (-1)) hx hb hr (fun t ht hW => ⟨⟨(-1), (), rfl, hpost, by rw [ht]; exact hI, hN.warm hW, va_K.moved hW.alike hK⟩, hS.F ht⟩) hS.2.2 dX11_suspects_13
  refine lv_iload_n hx hb dX11_suspects_0 rfl (lv_at hl 1 rfl) ?_
  refine th_cSs (As := [.int x1]) (rest := []) (n := 1) (d := 0) ⟨hx, hb, hml, hown, hts⟩ (c_X11_isColour l s.heap x1) wd_620 wd_621 wd_1 wd_622 (by decide +kernel) ⟨by rw [hR]; exact Nat.le_of_ble_eq_true rfl, by rw [hR]; exact Nat.le_of_ble_eq_true rfl⟩ hN hS rfl hl.1 rfl (Nat.le_of_ble_eq_true rfl) dX11_suspects_1 ⟨Nat.zero_le _, Nat.zero_le _⟩ (fun r601 locs hp hS => ?_)
  rcases hp with ⟨rfl, hp⟩ | ⟨rfl, hp⟩
  · skip
    try simp only [rg, not_and, Int.not_le] at hp
    have hp602 := hp
    refine lv_if_eq (tgt := 12) hx hb dX11_suspects_4 (by decide) (fun c => absurd c (by decide)) (fun _ => ?_)
    refine lv_iload_n hx hb dX11_suspects_7 rfl (lv_at hl 2 rfl) ?_
    refine lv_iconst (v := (-1)) hx hb dX11_suspects_8 (by decide) ?_
    have k603 := iv_lo x2
    have k604 := iv_hi x2
    refine lv_icmp_ge (tgt := 14) hx hb dX11_suspects_9 (by decide) (fun c605 => ?_) (fun c605 => ?_)
    · skip
      have k606 := iv_le (X := (-1)) (Y := x2.toInt) (by decide) rfl c605
      refine lv_iload_n hx hb dX11_suspects_14 rfl (lv_at hl 2 rfl) ?_
      refine lv_iconst (v := (-1)) hx hb dX11_suspects_15 (by decide) ?_
      refine lv_icmp_ne (tgt := 30) hx hb dX11_suspects_16 (by decide) (fun c607 => ?_) (fun c607 => ?_)
      · skip
        have k608 := iv_ne (X := x2.toInt) (Y := (-1)) rfl (by decide) c607
        refine lv_aload_n hx hb dX11_suspects_30 rfl (lv_at hl 0 rfl) ?_
        obtain ⟨a609, a612, a614, a616, a618, a620, a622, a624, a626, a628, a630, w632, w635, w636, w637, w638, hO, hq610, hq611, hq613, hq615, hq617, hq619, hq621, hq623, hq625, hq627, hq629, hq631, ⟨k633, k634⟩, k639⟩ := op_15 hI hG0 List.not_mem_nil
        have hI := th_I.weak (a := h0) hI
        refine th_get hx hb hts inT11 hown hK hO rfl 9 (by decide) (hts _ (tb_c wd_354)) rfl rfl dX11_suspects_31 ?_
        refine lv_iload_n hx hb dX11_suspects_34 rfl (lv_at hl 1 rfl) ?_
        refine lv_iload_n hx hb dX11_suspects_35 rfl (lv_at hl 2 rfl) ?_
        have hI := th_I.close hI hG0 hO (ok_15 hq610 hq611 hq613 hq615 hq617 hq619 hq621 hq623 hq625 hq627 hq629 hq631 ⟨by omega, by omega⟩ k639)
        refine th_cVi (As := [.int x1, .int x2]) (rest := []) (n := 2) (d := 7) ⟨hx, hb, hml, hown, hts⟩ (c_X5_findAlone l E D G a626 hq627 x1 x2) wd_1016 wd_1017 wd_1018 wd_10 wd_1019 (by decide +kernel) ⟨by rw [hR]; exact Nat.le_of_ble_eq_true rfl, by rw [hR]; exact Nat.le_of_ble_eq_true rfl⟩ hI hN hK hS (rc_12 hI hq627 List.not_mem_nil) rfl rfl hl.1 rfl (Nat.le_of_ble_eq_true rfl) dX11_suspects_36 ⟨Nat.zero_le _, Nat.zero_le _⟩ (fun r640 H locs hp hI hS => ?_)
        have hpost : True := trivial
        rw [hQ]
        exact W.iret (v := r640) hx hb hr (fun t ht hW => ⟨⟨r640, (), rfl, hpost, by rw [ht]; exact hI, hN.warm hW, va_K.moved hW.alike hK⟩, hS.F ht⟩) hS.2.2 dX11_suspects_39
      · skip
        have k641 := iv_eq (X := x2.toInt) (Y := (-1)) rfl (by decide) c607
        refine lv_aload_n hx hb dX11_suspects_19 rfl (lv_at hl 0 rfl) ?_
        obtain ⟨a642, a645, a647, a649, a651, a653, a655, a657, a659, a661, a663, w665, w668, w669, w670, w671, hO, hq643, hq644, hq646, hq648, hq650, hq652, hq654, hq656, hq658, hq660, hq662, hq664, ⟨k666, k667⟩, k672⟩ := op_15 hI hG0 List.not_mem_nil
        have hI := th_I.weak (a := h0) hI
        refine th_get hx hb hts inT11 hown hK hO rfl 9 (by decide) (hts _ (tb_c wd_354)) rfl rfl dX11_suspects_20 ?_
        refine lv_iload_n hx hb dX11_suspects_23 rfl (lv_at hl 1 rfl) ?_
        have hI := th_I.close hI hG0 hO (ok_15 hq643 hq644 hq646 hq648 hq650 hq652 hq654 hq656 hq658 hq660 hq662 hq664 ⟨by omega, by omega⟩ k672)
        refine th_cVi (As := [.int x1]) (rest := []) (n := 1) (d := 7) ⟨hx, hb, hml, hown, hts⟩ (c_X5_countAlone l E D G a659 hq660 x1) wd_995 wd_996 wd_997 wd_10 wd_998 (by decide +kernel) ⟨by rw [hR]; exact Nat.le_of_ble_eq_true rfl, by rw [hR]; exact Nat.le_of_ble_eq_true rfl⟩ hI hN hK hS (rc_12 hI hq660 List.not_mem_nil) rfl rfl hl.1 rfl (Nat.le_of_ble_eq_true rfl) dX11_suspects_24 ⟨Nat.zero_le _, Nat.zero_le _⟩ (fun r673 H locs hp hI hS => ?_)
        refine lv_goto (tgt := 39) hx hb dX11_suspects_27 (by decide) ?_
        have hpost : True := trivial
        rw [hQ]
        exact W.iret (v := r673) hx hb hr (fun t ht hW => ⟨⟨r673, (), rfl, hpost, by rw [ht]; exact hI, hN.warm hW, va_K.moved hW.alike hK⟩, hS.F ht⟩) hS.2.2 dX11_suspects_39
    · skip
      have k674 := iv_nle (X := (-1)) (Y := x2.toInt) (by decide) rfl c605
      exact J_12 s.heap locs ls  (lv_sub hl [0, 1, 2] rfl)  hI hS
  · skip
    try simp only [rg, not_and, Int.not_le] at hp
    have hp675 := hp
    refine lv_if_eq (tgt := 12) hx hb dX11_suspects_4 (by decide) (fun _ => ?_) (fun c => absurd c (by decide))
    exact J_12 s.heap locs ls  (lv_sub hl [0, 1, 2] rfl)  hI hS
theorem dX11_job_0g : (decode cX11_job 0 = .ok (.iload_n 1, 1)) ∧ (decode cX11_job 1 = .ok (.invokestatic 106, 3)) ∧ (decode cX11_job 4 = .ok (.ifCond .eq 21, 3)) ∧ (decode cX11_job 7 = .ok (.iload_n 2, 1)) ∧ (decode cX11_job 8 = .ok (.iconst 1, 1)) ∧ (decode cX11_job 9 = .ok (.if_icmp .lt 16, 3)) ∧ (decode cX11_job 12 = .ok (.iload_n 2, 1)) ∧ (decode cX11_job 13 = .ok (.bipush 6, 2)) ∧ (decode cX11_job 15 = .ok (.if_icmp .gt 10, 3)) ∧ (decode cX11_job 18 = .ok (.iload_n 3, 1)) := by decide +kernel
theorem dX11_job_0 : decode cX11_job 0 = .ok (.iload_n 1, 1) := dX11_job_0g.1
theorem dX11_job_1 : decode cX11_job 1 = .ok (.invokestatic 106, 3) := dX11_job_0g.2.1
theorem dX11_job_4 : decode cX11_job 4 = .ok (.ifCond .eq 21, 3) := dX11_job_0g.2.2.1
theorem dX11_job_7 : decode cX11_job 7 = .ok (.iload_n 2, 1) := dX11_job_0g.2.2.2.1
theorem dX11_job_8 : decode cX11_job 8 = .ok (.iconst 1, 1) := dX11_job_0g.2.2.2.2.1
theorem dX11_job_9 : decode cX11_job 9 = .ok (.if_icmp .lt 16, 3) := dX11_job_0g.2.2.2.2.2.1
theorem dX11_job_12 : decode cX11_job 12 = .ok (.iload_n 2, 1) := dX11_job_0g.2.2.2.2.2.2.1
theorem dX11_job_13 : decode cX11_job 13 = .ok (.bipush 6, 2) := dX11_job_0g.2.2.2.2.2.2.2.1
theorem dX11_job_15 : decode cX11_job 15 = .ok (.if_icmp .gt 10, 3) := dX11_job_0g.2.2.2.2.2.2.2.2.1
theorem dX11_job_18 : decode cX11_job 18 = .ok (.iload_n 3, 1) := dX11_job_0g.2.2.2.2.2.2.2.2.2
theorem dX11_job_19g : (decode cX11_job 19 = .ok (.invokestatic 211, 3)) ∧ (decode cX11_job 22 = .ok (.ifCond .ne 9, 3)) ∧ (decode cX11_job 25 = .ok (.aload_n 0, 1)) ∧ (decode cX11_job 26 = .ok (.iconst (-1), 1)) ∧ (decode cX11_job 27 = .ok (.invokevirtual 113, 3)) ∧ (decode cX11_job 30 = .ok (.ireturn, 1)) ∧ (decode cX11_job 31 = .ok (.aload_n 0, 1)) ∧ (decode cX11_job 32 = .ok (.getfield 12, 3)) ∧ (decode cX11_job 35 = .ok (.getfield 307, 3)) ∧ (decode cX11_job 38 = .ok (.invokevirtual 149, 3)) := by decide +kernel
theorem dX11_job_19 : decode cX11_job 19 = .ok (.invokestatic 211, 3) := dX11_job_19g.1
theorem dX11_job_22 : decode cX11_job 22 = .ok (.ifCond .ne 9, 3) := dX11_job_19g.2.1
theorem dX11_job_25 : decode cX11_job 25 = .ok (.aload_n 0, 1) := dX11_job_19g.2.2.1
theorem dX11_job_26 : decode cX11_job 26 = .ok (.iconst (-1), 1) := dX11_job_19g.2.2.2.1
theorem dX11_job_27 : decode cX11_job 27 = .ok (.invokevirtual 113, 3) := dX11_job_19g.2.2.2.2.1
theorem dX11_job_30 : decode cX11_job 30 = .ok (.ireturn, 1) := dX11_job_19g.2.2.2.2.2.1
theorem dX11_job_31 : decode cX11_job 31 = .ok (.aload_n 0, 1) := dX11_job_19g.2.2.2.2.2.2.1
theorem dX11_job_32 : decode cX11_job 32 = .ok (.getfield 12, 3) := dX11_job_19g.2.2.2.2.2.2.2.1
theorem dX11_job_35 : decode cX11_job 35 = .ok (.getfield 307, 3) := dX11_job_19g.2.2.2.2.2.2.2.2.1
theorem dX11_job_38 : decode cX11_job 38 = .ok (.invokevirtual 149, 3) := dX11_job_19g.2.2.2.2.2.2.2.2.2
theorem dX11_job_41g : (decode cX11_job 41 = .ok (.ifCond .eq 10, 3)) ∧ (decode cX11_job 44 = .ok (.aload_n 0, 1)) ∧ (decode cX11_job 45 = .ok (.bipush (-5), 2)) ∧ (decode cX11_job 47 = .ok (.invokevirtual 113, 3)) ∧ (decode cX11_job 50 = .ok (.ireturn, 1)) ∧ (decode cX11_job 51 = .ok (.aload_n 0, 1)) ∧ (decode cX11_job 52 = .ok (.getfield 12, 3)) ∧ (decode cX11_job 55 = .ok (.getfield 307, 3)) ∧ (decode cX11_job 58 = .ok (.iload_n 1, 1)) ∧ (decode cX11_job 59 = .ok (.iload_n 2, 1)) := by decide +kernel
theorem dX11_job_41 : decode cX11_job 41 = .ok (.ifCond .eq 10, 3) := dX11_job_41g.1
theorem dX11_job_44 : decode cX11_job 44 = .ok (.aload_n 0, 1) := dX11_job_41g.2.1
theorem dX11_job_45 : decode cX11_job 45 = .ok (.bipush (-5), 2) := dX11_job_41g.2.2.1
theorem dX11_job_47 : decode cX11_job 47 = .ok (.invokevirtual 113, 3) := dX11_job_41g.2.2.2.1
theorem dX11_job_50 : decode cX11_job 50 = .ok (.ireturn, 1) := dX11_job_41g.2.2.2.2.1
theorem dX11_job_51 : decode cX11_job 51 = .ok (.aload_n 0, 1) := dX11_job_41g.2.2.2.2.2.1
theorem dX11_job_52 : decode cX11_job 52 = .ok (.getfield 12, 3) := dX11_job_41g.2.2.2.2.2.2.1
theorem dX11_job_55 : decode cX11_job 55 = .ok (.getfield 307, 3) := dX11_job_41g.2.2.2.2.2.2.2.1
theorem dX11_job_58 : decode cX11_job 58 = .ok (.iload_n 1, 1) := dX11_job_41g.2.2.2.2.2.2.2.2.1
theorem dX11_job_59 : decode cX11_job 59 = .ok (.iload_n 2, 1) := dX11_job_41g.2.2.2.2.2.2.2.2.2
theorem dX11_job_60g : (decode cX11_job 60 = .ok (.iload_n 3, 1)) ∧ (decode cX11_job 61 = .ok (.iconst 0, 1)) ∧ (decode cX11_job 62 = .ok (.invokevirtual 155, 3)) ∧ (decode cX11_job 65 = .ok (.pop, 1)) ∧ (decode cX11_job 66 = .ok (.aload_n 0, 1)) ∧ (decode cX11_job 67 = .ok (.invokevirtual 191, 3)) ∧ (decode cX11_job 70 = .ok (.aload_n 0, 1)) ∧ (decode cX11_job 71 = .ok (.aload_n 0, 1)) ∧ (decode cX11_job 72 = .ok (.getfield 12, 3)) ∧ (decode cX11_job 75 = .ok (.getfield 307, 3)) := by decide +kernel
theorem dX11_job_60 : decode cX11_job 60 = .ok (.iload_n 3, 1) := dX11_job_60g.1
theorem dX11_job_61 : decode cX11_job 61 = .ok (.iconst 0, 1) := dX11_job_60g.2.1
theorem dX11_job_62 : decode cX11_job 62 = .ok (.invokevirtual 155, 3) := dX11_job_60g.2.2.1
theorem dX11_job_65 : decode cX11_job 65 = .ok (.pop, 1) := dX11_job_60g.2.2.2.1
theorem dX11_job_66 : decode cX11_job 66 = .ok (.aload_n 0, 1) := dX11_job_60g.2.2.2.2.1
theorem dX11_job_67 : decode cX11_job 67 = .ok (.invokevirtual 191, 3) := dX11_job_60g.2.2.2.2.2.1
theorem dX11_job_70 : decode cX11_job 70 = .ok (.aload_n 0, 1) := dX11_job_60g.2.2.2.2.2.2.1
theorem dX11_job_71 : decode cX11_job 71 = .ok (.aload_n 0, 1) := dX11_job_60g.2.2.2.2.2.2.2.1
theorem dX11_job_72 : decode cX11_job 72 = .ok (.getfield 12, 3) := dX11_job_60g.2.2.2.2.2.2.2.2.1
theorem dX11_job_75 : decode cX11_job 75 = .ok (.getfield 307, 3) := dX11_job_60g.2.2.2.2.2.2.2.2.2
theorem dX11_job_78g : (decode cX11_job 78 = .ok (.invokevirtual 166, 3)) ∧ (decode cX11_job 81 = .ok (.invokevirtual 127, 3)) ∧ (decode cX11_job 84 = .ok (.ireturn, 1)) := by decide +kernel
theorem dX11_job_78 : decode cX11_job 78 = .ok (.invokevirtual 166, 3) := dX11_job_78g.1
theorem dX11_job_81 : decode cX11_job 81 = .ok (.invokevirtual 127, 3) := dX11_job_78g.2.1
theorem dX11_job_84 : decode cX11_job 84 = .ok (.ireturn, 1) := dX11_job_78g.2.2
set_option maxHeartbeats 4000000 in
set_option maxRecDepth 100000 in
theorem c_X11_job (l : Launch) (E : Nat → Nat) (D : va_G) (G : th_G) (h0 n : Nat) (hG0 : G h0 = some (15, n)) (x1 x2 x3 : Int32) : Met l yX11_job (tb (.code yX11_job cX11_job 4 (some .int))) (rm 2) (va_Pc [.ref h0, .int x1, .int x2, .int x3] (th_P E D G)) (QI E D G (fun r => True)) 0 0 (th_A G) := by
  refine Met.ofW (cc := cX11_job) (maxL := 4) (ret := (some .int)) (by decide) rfl ?_
  intro p e s m args below meth c s₁ B hml hv
  obtain ⟨hav, hI, hN, hK⟩ := hv
  have hx := B.exec
  have hb := B.bytes
  have hr := B.returns
  have hts := atoms_spec (ws := tb (.code yX11_job cX11_job 4 (some .int))) B.pre
  have hown : s.vm.findClass RX11 = some m.cls := findClass_of_methodNamed B.named
  have hlocks := B.notSynchronized
  have hS : va_S (th_A G) s.heap s.heap [] := va_S.rf
  have hl := lv_entry ([.ref h0, .int x1, .int x2, .int x3]) (n := 4) (Nat.le_of_ble_eq_true rfl)
  rw [show entryFrame m args 4 = entryFrame m ([.ref h0, .int x1, .int x2, .int x3] : List Value).toArray 4 from by rw [hav], lg_entry_eq]
  generalize (lg_sl ([.ref h0, .int x1, .int x2, .int x3]) ++ List.replicate (4 - (lg_sl ([.ref h0, .int x1, .int x2, .int x3])).length) Slot.unset).toArray = ls at hl ⊢
  have hl : lv_has ls 4 [(0, .ref h0), (1, .int x1), (2, .int x2), (3, .int x3)] := hl
  generalize hR : (headSpec (tb (.code yX11_job cX11_job 4 (some .int))) (rm 2)).room = R
  have hR := hR.symm
  generalize hQ : MQ below (QI E D G (fun r => True)) args s 0 0 (th_A G) = QF
  have hQ := hQ.symm
  have J_25 : ∀ (H : Heap) (locs : List Loc) (ls : Array Slot) , lv_has ls 4 [(0, .ref h0), (1, .int x1), (2, .int x2), (3, .int x3)] → th_I (okC E) D G [] H → va_S (th_A G) s.heap H locs → W p l e R s m args below meth c H locs 0 0 QF (F0 m 25 ls []) := by
    intro H locs ls  hl  hI hS
    refine lv_aload_n hx hb dX11_job_25 rfl (lv_at hl 0 rfl) ?_
    refine lv_iconst (v := (-1)) hx hb dX11_job_26 (by decide) ?_
    refine th_cVi (As := [.int (-1)]) (rest := []) (n := 1) (d := 0) ⟨hx, hb, hml, hown, hts⟩ (c_X11_refuse l E D G h0 (n) hG0 (-1)) wd_407 wd_409 wp_0 wd_1 wd_410 (by decide +kernel) ⟨by rw [hR]; exact Nat.le_of_ble_eq_true rfl, by rw [hR]; exact Nat.le_of_ble_eq_true rfl⟩ hI hN hK hS (rc_15 hI hG0 List.not_mem_nil) rfl rfl hl.1 rfl (Nat.le_of_ble_eq_true rfl) dX11_job_27 ⟨Nat.zero_le _, Nat.zero_le _⟩ (fun r1704 H locs hp hI hS => ?_)
    have hp := hp.symm
    subst hp
    have hpost : True := trivial
    rw [hQ]
    exact W.iret (v := (-1)) hx hb hr (fun t ht hW => ⟨⟨(-1), (), rfl, hpost, by rw [ht]; exact hI, hN.warm hW, va_K.moved hW.alike hK⟩, hS.F ht⟩) hS.2.2 dX11_job_30
  refine lv_iload_n hx hb dX11_job_0 rfl (lv_at hl 1 rfl) ?_
  refine th_cSs (As := [.int x1]) (rest := []) (n := 1) (d := 0) ⟨hx, hb, hml, hown, hts⟩ (c_X11_isCell l s.heap x1) wd_401 wd_402 wd_1 wd_403 (by decide +kernel) ⟨by rw [hR]; exact Nat.le_of_ble_eq_true rfl, by rw [hR]; exact Nat.le_of_ble_eq_true rfl⟩ hN hS rfl hl.1 rfl (Nat.le_of_ble_eq_true rfl) dX11_job_1 ⟨Nat.zero_le _, Nat.zero_le _⟩ (fun r1705 locs hp hS => ?_)
  rcases hp with ⟨rfl, hp⟩ | ⟨rfl, hp⟩
  · skip
    try simp only [rg, not_and, Int.not_le] at hp
    have hp1706 := hp
    refine lv_if_eq (tgt := 25) hx hb dX11_job_4 (by decide) (fun c => absurd c (by decide)) (fun _ => ?_)
    refine lv_iload_n hx hb dX11_job_7 rfl (lv_at hl 2 rfl) ?_
    refine lv_iconst (v := 1) hx hb dX11_job_8 (by decide) ?_
    have k1707 := iv_lo x2
    have k1708 := iv_hi x2
    refine lv_icmp_lt (tgt := 25) hx hb dX11_job_9 (by decide) (fun c1709 => ?_) (fun c1709 => ?_)
    · skip
      have k1710 := iv_lt (X := x2.toInt) (Y := (1)) rfl (by decide) c1709
      exact J_25 s.heap locs ls  (lv_sub hl [0, 1, 2, 3] rfl)  hI hS
    · skip
      have k1711 := iv_nlt (X := x2.toInt) (Y := (1)) rfl (by decide) c1709
      refine lv_iload_n hx hb dX11_job_12 rfl (lv_at hl 2 rfl) ?_
      refine lv_bipush (v := 6) hx hb dX11_job_13 (by decide) ?_
      refine lv_icmp_gt (tgt := 25) hx hb dX11_job_15 (by decide) (fun c1712 => ?_) (fun c1712 => ?_)
      · skip
        have k1713 := iv_lt (X := (6)) (Y := x2.toInt) (by decide) rfl c1712
        exact J_25 s.heap locs ls  (lv_sub hl [0, 1, 2, 3] rfl)  hI hS
      · skip
        have k1714 := iv_nlt (X := (6)) (Y := x2.toInt) (by decide) rfl c1712
        refine lv_iload_n hx hb dX11_job_18 rfl (lv_at hl 3 rfl) ?_
        refine th_cSs (As := [.int x3]) (rest := []) (n := 1) (d := 0) ⟨hx, hb, hml, hown, hts⟩ (c_X11_isHour l s.heap x3) wd_466 wd_467 wd_1 wd_468 (by decide +kernel) ⟨by rw [hR]; exact Nat.le_of_ble_eq_true rfl, by rw [hR]; exact Nat.le_of_ble_eq_true rfl⟩ hN hS rfl hl.1 rfl (Nat.le_of_ble_eq_true rfl) dX11_job_19 ⟨Nat.zero_le _, Nat.zero_le _⟩ (fun r1715 locs hp hS => ?_)
        rcases hp with ⟨rfl, hp⟩ | ⟨rfl, hp⟩
        · skip
          try simp only [rg, not_and, Int.not_le] at hp
          have hp1716 := hp
          refine lv_if_ne (tgt := 31) hx hb dX11_job_22 (by decide) (fun _ => ?_) (fun c => absurd c (by decide))
          refine lv_aload_n hx hb dX11_job_31 rfl (lv_at hl 0 rfl) ?_
          obtain ⟨a1717, a1720, a1722, a1724, a1726, a1728, a1730, a1732, a1734, a1736, a1738, w1740, w1743, w1744, w1745, w1746, hO, hq1718, hq1719, hq1721, hq1723, hq1725, hq1727, hq1729, hq1731, hq1733, hq1735, hq1737, hq1739, ⟨k1741, k1742⟩, k1747⟩ := op_15 hI hG0 List.not_mem_nil
          have hI := th_I.weak (a := h0) hI
          refine th_get hx hb hts inT11 hown hK hO rfl 0 (by decide) (hts _ (tb_c wd_345)) rfl rfl dX11_job_32 ?_
          have hI := th_I.close hI hG0 hO (ok_15 hq1718 hq1719 hq1721 hq1723 hq1725 hq1727 hq1729 hq1731 hq1733 hq1735 hq1737 hq1739 ⟨by omega, by omega⟩ k1747)
          obtain ⟨a1748, a1750, a1752, a1754, a1756, a1758, a1760, a1762, a1764, a1766, w1768, w1771, w1772, w1773, hO, hq1749, hq1751, hq1753, hq1755, hq1757, hq1759, hq1761, hq1763, hq1765, hq1767, ⟨k1769, k1770⟩, k1774⟩ := op_6 hI hq1718 List.not_mem_nil
          have hI := th_I.weak (a := a1717) hI
          refine th_getN hx hb hts inT6 hown hK hN hO rfl 7 (by decide) wn_77 rfl rfl dX11_job_35 ?_
          have hI := th_I.close hI hq1718 hO (ok_6 hq1749 hq1751 hq1753 hq1755 hq1757 hq1759 hq1761 hq1763 hq1765 hq1767 ⟨by omega, by omega⟩ k1774)
          obtain ⟨a1776, w1778, hO, hq1777, ⟨k1779, k1780⟩, k1781⟩ := op_4 hI hq1763 List.not_mem_nil
          have hI := th_I.weak (a := a1762) hI
          have k1782 : (nI (6 % 32)).toInt = ((6 % 32 : Nat) : Int) := nI_toInt (by omega)
          have k1783 := k1781.1
          refine th_cVs (As := []) (rest := []) (n := 0) (d := 0) ⟨hx, hb, hml, hown, hts⟩ (c_X4_isFull l E D s.heap a1762 (6 % 32) a1776 w1778 hO (by omega) (by omega) (by omega)) wd_481 wd_482 wd_483 wd_3 wd_484 (by decide +kernel) ⟨by rw [hR]; exact Nat.le_of_ble_eq_true rfl, by rw [hR]; exact Nat.le_of_ble_eq_true rfl⟩ hN hK hS ⟨_, hO⟩ rfl rfl hl.1 rfl (Nat.le_of_ble_eq_true rfl) dX11_job_38 ⟨Nat.zero_le _, Nat.zero_le _⟩ (fun r1775 locs hp hS => ?_)
          rcases hp with ⟨rfl, hp⟩ | ⟨rfl, hp⟩
          · skip
            try simp only [rg, not_and, Int.not_le] at hp
            have hp1784 := hp
            refine lv_if_eq (tgt := 51) hx hb dX11_job_41 (by decide) (fun c => absurd c (by decide)) (fun _ => ?_)
            refine lv_aload_n hx hb dX11_job_44 rfl (lv_at hl 0 rfl) ?_
            refine lv_bipush (v := (-5)) hx hb dX11_job_45 (by decide) ?_
            have hI := th_I.close hI hq1763 hO (ok_4 hq1777 ⟨by omega, by omega⟩ k1781)
            refine th_cVi (As := [.int (-5)]) (rest := []) (n := 1) (d := 0) ⟨hx, hb, hml, hown, hts⟩ (c_X11_refuse l E D G h0 (n) hG0 (-5)) wd_407 wd_409 wp_0 wd_1 wd_410 (by decide +kernel) ⟨by rw [hR]; exact Nat.le_of_ble_eq_true rfl, by rw [hR]; exact Nat.le_of_ble_eq_true rfl⟩ hI hN hK hS (rc_15 hI hG0 List.not_mem_nil) rfl rfl hl.1 rfl (Nat.le_of_ble_eq_true rfl) dX11_job_47 ⟨Nat.zero_le _, Nat.zero_le _⟩ (fun r1785 H locs hp hI hS => ?_)
            have hp := hp.symm
            subst hp
            have hpost : True := trivial
            rw [hQ]
            exact W.iret (v := (-5)) hx hb hr (fun t ht hW => ⟨⟨(-5), (), rfl, hpost, by rw [ht]; exact hI, hN.warm hW, va_K.moved hW.alike hK⟩, hS.F ht⟩) hS.2.2 dX11_job_50
          · skip
            have hp1786 := hp
            refine lv_if_eq (tgt := 51) hx hb dX11_job_41 (by decide) (fun _ => ?_) (fun c => absurd c (by decide))
            refine lv_aload_n hx hb dX11_job_51 rfl (lv_at hl 0 rfl) ?_
            have hI := th_I.close hI hq1763 hO (ok_4 hq1777 ⟨by omega, by omega⟩ k1781)
            obtain ⟨a1787, a1790, a1792, a1794, a1796, a1798, a1800, a1802, a1804, a1806, a1808, w1810, w1813, w1814, w1815, w1816, hO, hq1788, hq1789, hq1791, hq1793, hq1795, hq1797, hq1799, hq1801, hq1803, hq1805, hq1807, hq1809, ⟨k1811, k1812⟩, k1817⟩ := op_15 hI hG0 List.not_mem_nil
            have hI := th_I.weak (a := h0) hI
            refine th_get hx hb hts inT11 hown hK hO rfl 0 (by decide) (hts _ (tb_c wd_345)) rfl rfl dX11_job_52 ?_
            have hI := th_I.close hI hG0 hO (ok_15 hq1788 hq1789 hq1791 hq1793 hq1795 hq1797 hq1799 hq1801 hq1803 hq1805 hq1807 hq1809 ⟨by omega, by omega⟩ k1817)
            obtain ⟨a1818, a1820, a1822, a1824, a1826, a1828, a1830, a1832, a1834, a1836, w1838, w1841, w1842, w1843, hO, hq1819, hq1821, hq1823, hq1825, hq1827, hq1829, hq1831, hq1833, hq1835, hq1837, ⟨k1839, k1840⟩, k1844⟩ := op_6 hI hq1788 List.not_mem_nil
            have hI := th_I.weak (a := a1787) hI
            refine th_getN hx hb hts inT6 hown hK hN hO rfl 7 (by decide) wn_77 rfl rfl dX11_job_55 ?_
            refine lv_iload_n hx hb dX11_job_58 rfl (lv_at hl 1 rfl) ?_
            refine lv_iload_n hx hb dX11_job_59 rfl (lv_at hl 2 rfl) ?_
            refine lv_iload_n hx hb dX11_job_60 rfl (lv_at hl 3 rfl) ?_
            refine lv_iconst (v := 0) hx hb dX11_job_61 (by decide) ?_
            have hI := th_I.close hI hq1788 hO (ok_6 hq1819 hq1821 hq1823 hq1825 hq1827 hq1829 hq1831 hq1833 hq1835 hq1837 ⟨by omega, by omega⟩ k1844)
            refine th_cVi (As := [.int x1, .int x2, .int x3, .int 0]) (rest := []) (n := 4) (d := 1) ⟨hx, hb, hml, hown, hts⟩ (c_X4_put l E D G a1832 (6) hq1833 x1 x2 x3 0 (by decide)) wd_485 wd_486 wd_487 wd_3 wd_488 (by decide +kernel) ⟨by rw [hR]; exact Nat.le_of_ble_eq_true rfl, by rw [hR]; exact Nat.le_of_ble_eq_true rfl⟩ hI hN hK hS (rc_4 hI hq1833 List.not_mem_nil) rfl rfl hl.1 rfl (Nat.le_of_ble_eq_true rfl) dX11_job_62 ⟨Nat.zero_le _, Nat.zero_le _⟩ (fun r1845 H locs hp hI hS => ?_)
            refine lv_pop hx hb dX11_job_65 rfl ?_
            refine lv_aload_n hx hb dX11_job_66 rfl (lv_at hl 0 rfl) ?_
            refine th_cVv (As := []) (rest := []) (n := 0) (d := 1) ⟨hx, hb, hml, hown, hts⟩ (c_X11_turnLists l E D G h0 (n) hG0 ) wd_431 wd_433 wp_2 wd_1 wd_434 (by decide +kernel) ⟨by rw [hR]; exact Nat.le_of_ble_eq_true rfl, by rw [hR]; exact Nat.le_of_ble_eq_true rfl⟩ hI hN hK hS (rc_15 hI hG0 List.not_mem_nil) rfl rfl hl.1 rfl (Nat.le_of_ble_eq_true rfl) dX11_job_67 ⟨Nat.zero_le _, Nat.zero_le _⟩ (fun H locs hI hS => ?_)
            refine lv_aload_n hx hb dX11_job_70 rfl (lv_at hl 0 rfl) ?_
            refine lv_aload_n hx hb dX11_job_71 rfl (lv_at hl 0 rfl) ?_
            obtain ⟨a1847, a1850, a1852, a1854, a1856, a1858, a1860, a1862, a1864, a1866, a1868, w1870, w1873, w1874, w1875, w1876, hO, hq1848, hq1849, hq1851, hq1853, hq1855, hq1857, hq1859, hq1861, hq1863, hq1865, hq1867, hq1869, ⟨k1871, k1872⟩, k1877⟩ := op_15 hI hG0 List.not_mem_nil
            have hI := th_I.weak (a := h0) hI
            refine th_get hx hb hts inT11 hown hK hO rfl 0 (by decide) (hts _ (tb_c wd_345)) rfl rfl dX11_job_72 ?_
            have hI := th_I.close hI hG0 hO (ok_15 hq1848 hq1849 hq1851 hq1853 hq1855 hq1857 hq1859 hq1861 hq1863 hq1865 hq1867 hq1869 ⟨by omega, by omega⟩ k1877)
            obtain ⟨a1878, a1880, a1882, a1884, a1886, a1888, a1890, a1892, a1894, a1896, w1898, w1901, w1902, w1903, hO, hq1879, hq1881, hq1883, hq1885, hq1887, hq1889, hq1891, hq1893, hq1895, hq1897, ⟨k1899, k1900⟩, k1904⟩ := op_6 hI hq1848 List.not_mem_nil
            have hI := th_I.weak (a := a1847) hI
            refine th_getN hx hb hts inT6 hown hK hN hO rfl 7 (by decide) wn_77 rfl rfl dX11_job_75 ?_
            have hI := th_I.close hI hq1848 hO (ok_6 hq1879 hq1881 hq1883 hq1885 hq1887 hq1889 hq1891 hq1893 hq1895 hq1897 ⟨by omega, by omega⟩ k1904)
            obtain ⟨a1906, w1908, hO, hq1907, ⟨k1909, k1910⟩, k1911⟩ := op_4 hI hq1893 List.not_mem_nil
            have hI := th_I.weak (a := a1892) hI
            have k1912 : (nI (6 % 32)).toInt = ((6 % 32 : Nat) : Int) := nI_toInt (by omega)
            have k1913 := k1911.1
            refine th_cVs (As := []) (rest := [.ref h0]) (n := 0) (d := 0) ⟨hx, hb, hml, hown, hts⟩ (c_X4_size l E D H a1892 (6 % 32) a1906 w1908 hO (by omega) (by omega) (by omega)) wd_506 wd_507 wd_508 wd_3 wd_509 (by decide +kernel) ⟨by rw [hR]; exact Nat.le_of_ble_eq_true rfl, by rw [hR]; exact Nat.le_of_ble_eq_true rfl⟩ hN hK hS ⟨_, hO⟩ rfl rfl hl.1 rfl (Nat.le_of_ble_eq_true rfl) dX11_job_78 ⟨Nat.zero_le _, Nat.zero_le _⟩ (fun r1905 locs hp hS => ?_)
            have hp := hp.symm
            subst hp
            have hI := th_I.close hI hq1893 hO (ok_4 hq1907 ⟨by omega, by omega⟩ k1911)
            refine th_cVi (As := [.int w1908]) (rest := []) (n := 1) (d := 0) ⟨hx, hb, hml, hown, hts⟩ (c_X11_accept l E D G h0 (n) hG0 w1908) wd_447 wd_449 wp_3 wd_1 wd_450 (by decide +kernel) ⟨by rw [hR]; exact Nat.le_of_ble_eq_true rfl, by rw [hR]; exact Nat.le_of_ble_eq_true rfl⟩ hI hN hK hS (rc_15 hI hG0 List.not_mem_nil) rfl rfl hl.1 rfl (Nat.le_of_ble_eq_true rfl) dX11_job_81 ⟨Nat.zero_le _, Nat.zero_le _⟩ (fun r1914 H locs hp hI hS => ?_)
            have hp := hp.symm
            subst hp
            have hpost : True := trivial
            rw [hQ]
            exact W.iret (v := w1908) hx hb hr (fun t ht hW => ⟨⟨w1908, (), rfl, hpost, by rw [ht]; exact hI, hN.warm hW, va_K.moved hW.alike hK⟩, hS.F ht⟩) hS.2.2 dX11_job_84
        · skip
          try simp only [rg, not_and, Int.not_le] at hp
          have hp1915 := hp
          refine lv_if_ne (tgt := 31) hx hb dX11_job_22 (by decide) (fun c => absurd c (by decide)) (fun _ => ?_)
          exact J_25 s.heap locs ls  (lv_sub hl [0, 1, 2, 3] rfl)  hI hS
  · skip
    try simp only [rg, not_and, Int.not_le] at hp
    have hp1916 := hp
    refine lv_if_eq (tgt := 25) hx hb dX11_job_4 (by decide) (fun _ => ?_) (fun c => absurd c (by decide))
    exact J_25 s.heap locs ls  (lv_sub hl [0, 1, 2, 3] rfl)  hI hS
theorem dX11_hang_0g : (decode cX11_hang 0 = .ok (.aload_n 0, 1)) ∧ (decode cX11_hang 1 = .ok (.invokevirtual 191, 3)) ∧ (decode cX11_hang 4 = .ok (.aload_n 0, 1)) ∧ (decode cX11_hang 5 = .ok (.getfield 12, 3)) ∧ (decode cX11_hang 8 = .ok (.getfield 307, 3)) ∧ (decode cX11_hang 11 = .ok (.invokevirtual 295, 3)) ∧ (decode cX11_hang 14 = .ok (.ireturn, 1)) := by decide +kernel
theorem dX11_hang_0 : decode cX11_hang 0 = .ok (.aload_n 0, 1) := dX11_hang_0g.1
theorem dX11_hang_1 : decode cX11_hang 1 = .ok (.invokevirtual 191, 3) := dX11_hang_0g.2.1
theorem dX11_hang_4 : decode cX11_hang 4 = .ok (.aload_n 0, 1) := dX11_hang_0g.2.2.1
theorem dX11_hang_5 : decode cX11_hang 5 = .ok (.getfield 12, 3) := dX11_hang_0g.2.2.2.1
theorem dX11_hang_8 : decode cX11_hang 8 = .ok (.getfield 307, 3) := dX11_hang_0g.2.2.2.2.1
theorem dX11_hang_11 : decode cX11_hang 11 = .ok (.invokevirtual 295, 3) := dX11_hang_0g.2.2.2.2.2.1
theorem dX11_hang_14 : decode cX11_hang 14 = .ok (.ireturn, 1) := dX11_hang_0g.2.2.2.2.2.2
set_option maxHeartbeats 4000000 in
set_option maxRecDepth 100000 in
theorem c_X11_hang (l : Launch) (E : Nat → Nat) (D : va_G) (G : th_G) (h0 n : Nat) (hG0 : G h0 = some (15, n)) : Met l yX11_hang (tb (.code yX11_hang cX11_hang 1 (some .int))) (rm 2) (va_Pc [.ref h0] (th_P E D G)) (QI E D G (fun r => True)) 0 0 (th_A G) := by
  refine Met.ofW (cc := cX11_hang) (maxL := 1) (ret := (some .int)) (by decide) rfl ?_
  intro p e s m args below meth c s₁ B hml hv
  obtain ⟨hav, hI, hN, hK⟩ := hv
  have hx := B.exec
  have hb := B.bytes
  have hr := B.returns
  have hts := atoms_spec (ws := tb (.code yX11_hang cX11_hang 1 (some .int))) B.pre
  have hown : s.vm.findClass RX11 = some m.cls := findClass_of_methodNamed B.named
  have hlocks := B.notSynchronized
  have hS : va_S (th_A G) s.heap s.heap [] := va_S.rf
  have hl := lv_entry ([.ref h0]) (n := 1) (Nat.le_of_ble_eq_true rfl)
  rw [show entryFrame m args 1 = entryFrame m ([.ref h0] : List Value).toArray 1 from by rw [hav], lg_entry_eq]
  generalize (lg_sl ([.ref h0]) ++ List.replicate (1 - (lg_sl ([.ref h0])).length) Slot.unset).toArray = ls at hl ⊢
  have hl : lv_has ls 1 [(0, .ref h0)] := hl
  generalize hR : (headSpec (tb (.code yX11_hang cX11_hang 1 (some .int))) (rm 2)).room = R
  have hR := hR.symm
  generalize hQ : MQ below (QI E D G (fun r => True)) args s 0 0 (th_A G) = QF
  have hQ := hQ.symm
  refine lv_aload_n hx hb dX11_hang_0 rfl (lv_at hl 0 rfl) ?_
  refine th_cVv (As := []) (rest := []) (n := 0) (d := 1) ⟨hx, hb, hml, hown, hts⟩ (c_X11_turnLists l E D G h0 (n) hG0 ) wd_431 wd_433 wp_2 wd_1 wd_434 (by decide +kernel) ⟨by rw [hR]; exact Nat.le_of_ble_eq_true rfl, by rw [hR]; exact Nat.le_of_ble_eq_true rfl⟩ hI hN hK hS (rc_15 hI hG0 List.not_mem_nil) rfl rfl hl.1 rfl (Nat.le_of_ble_eq_true rfl) dX11_hang_1 ⟨Nat.zero_le _, Nat.zero_le _⟩ (fun H locs hI hS => ?_)
  refine lv_aload_n hx hb dX11_hang_4 rfl (lv_at hl 0 rfl) ?_
  obtain ⟨a2, a5, a7, a9, a11, a13, a15, a17, a19, a21, a23, w25, w28, w29, w30, w31, hO, hq3, hq4, hq6, hq8, hq10, hq12, hq14, hq16, hq18, hq20, hq22, hq24, ⟨k26, k27⟩, k32⟩ := op_15 hI hG0 List.not_mem_nil
  have hI := th_I.weak (a := h0) hI
  refine th_get hx hb hts inT11 hown hK hO rfl 0 (by decide) (hts _ (tb_c wd_345)) rfl rfl dX11_hang_5 ?_
  have hI := th_I.close hI hG0 hO (ok_15 hq3 hq4 hq6 hq8 hq10 hq12 hq14 hq16 hq18 hq20 hq22 hq24 ⟨by omega, by omega⟩ k32)
  obtain ⟨a33, a35, a37, a39, a41, a43, a45, a47, a49, a51, w53, w56, w57, w58, hO, hq34, hq36, hq38, hq40, hq42, hq44, hq46, hq48, hq50, hq52, ⟨k54, k55⟩, k59⟩ := op_6 hI hq3 List.not_mem_nil
  have hI := th_I.weak (a := a2) hI
  refine th_getN hx hb hts inT6 hown hK hN hO rfl 7 (by decide) wn_77 rfl rfl dX11_hang_8 ?_
  have hI := th_I.close hI hq3 hO (ok_6 hq34 hq36 hq38 hq40 hq42 hq44 hq46 hq48 hq50 hq52 ⟨by omega, by omega⟩ k59)
  refine th_cVi (As := []) (rest := []) (n := 0) (d := 0) ⟨hx, hb, hml, hown, hts⟩ (c_X4_clear l E D G a47 (6) hq48  (by decide)) wd_983 wd_984 wd_985 wd_3 wd_986 (by decide +kernel) ⟨by rw [hR]; exact Nat.le_of_ble_eq_true rfl, by rw [hR]; exact Nat.le_of_ble_eq_true rfl⟩ hI hN hK hS (rc_4 hI hq48 List.not_mem_nil) rfl rfl hl.1 rfl (Nat.le_of_ble_eq_true rfl) dX11_hang_11 ⟨Nat.zero_le _, Nat.zero_le _⟩ (fun r60 H locs hp hI hS => ?_)
  have hpost : True := trivial
  rw [hQ]
  exact W.iret (v := r60) hx hb hr (fun t ht hW => ⟨⟨r60, (), rfl, hpost, by rw [ht]; exact hI, hN.warm hW, va_K.moved hW.alike hK⟩, hS.F ht⟩) hS.2.2 dX11_hang_14
theorem dX11_lovers_0g : (decode cX11_lovers 0 = .ok (.iload_n 1, 1)) ∧ (decode cX11_lovers 1 = .ok (.invokestatic 106, 3)) ∧ (decode cX11_lovers 4 = .ok (.ifCond .eq 25, 3)) ∧ (decode cX11_lovers 7 = .ok (.iload_n 2, 1)) ∧ (decode cX11_lovers 8 = .ok (.invokestatic 106, 3)) ∧ (decode cX11_lovers 11 = .ok (.ifCond .eq 18, 3)) ∧ (decode cX11_lovers 14 = .ok (.iload_n 3, 1)) ∧ (decode cX11_lovers 15 = .ok (.invokestatic 226, 3)) ∧ (decode cX11_lovers 18 = .ok (.ifCond .eq 11, 3)) ∧ (decode cX11_lovers 21 = .ok (.iload 4, 2)) := by decide +kernel
theorem dX11_lovers_0 : decode cX11_lovers 0 = .ok (.iload_n 1, 1) := dX11_lovers_0g.1
theorem dX11_lovers_1 : decode cX11_lovers 1 = .ok (.invokestatic 106, 3) := dX11_lovers_0g.2.1
theorem dX11_lovers_4 : decode cX11_lovers 4 = .ok (.ifCond .eq 25, 3) := dX11_lovers_0g.2.2.1
theorem dX11_lovers_7 : decode cX11_lovers 7 = .ok (.iload_n 2, 1) := dX11_lovers_0g.2.2.2.1
theorem dX11_lovers_8 : decode cX11_lovers 8 = .ok (.invokestatic 106, 3) := dX11_lovers_0g.2.2.2.2.1
theorem dX11_lovers_11 : decode cX11_lovers 11 = .ok (.ifCond .eq 18, 3) := dX11_lovers_0g.2.2.2.2.2.1
theorem dX11_lovers_14 : decode cX11_lovers 14 = .ok (.iload_n 3, 1) := dX11_lovers_0g.2.2.2.2.2.2.1
theorem dX11_lovers_15 : decode cX11_lovers 15 = .ok (.invokestatic 226, 3) := dX11_lovers_0g.2.2.2.2.2.2.2.1
theorem dX11_lovers_18 : decode cX11_lovers 18 = .ok (.ifCond .eq 11, 3) := dX11_lovers_0g.2.2.2.2.2.2.2.2.1
theorem dX11_lovers_21 : decode cX11_lovers 21 = .ok (.iload 4, 2) := dX11_lovers_0g.2.2.2.2.2.2.2.2.2
theorem dX11_lovers_23g : (decode cX11_lovers 23 = .ok (.invokestatic 138, 3)) ∧ (decode cX11_lovers 26 = .ok (.ifCond .ne 5, 3)) ∧ (decode cX11_lovers 29 = .ok (.iconst (-1), 1)) ∧ (decode cX11_lovers 30 = .ok (.ireturn, 1)) ∧ (decode cX11_lovers 31 = .ok (.iload_n 1, 1)) ∧ (decode cX11_lovers 32 = .ok (.iload_n 2, 1)) ∧ (decode cX11_lovers 33 = .ok (.if_icmp .ne 7, 3)) ∧ (decode cX11_lovers 36 = .ok (.iload_n 3, 1)) ∧ (decode cX11_lovers 37 = .ok (.goto 15, 3)) ∧ (decode cX11_lovers 40 = .ok (.aload_n 0, 1)) := by decide +kernel
theorem dX11_lovers_23 : decode cX11_lovers 23 = .ok (.invokestatic 138, 3) := dX11_lovers_23g.1
theorem dX11_lovers_26 : decode cX11_lovers 26 = .ok (.ifCond .ne 5, 3) := dX11_lovers_23g.2.1
theorem dX11_lovers_29 : decode cX11_lovers 29 = .ok (.iconst (-1), 1) := dX11_lovers_23g.2.2.1
theorem dX11_lovers_30 : decode cX11_lovers 30 = .ok (.ireturn, 1) := dX11_lovers_23g.2.2.2.1
theorem dX11_lovers_31 : decode cX11_lovers 31 = .ok (.iload_n 1, 1) := dX11_lovers_23g.2.2.2.2.1
theorem dX11_lovers_32 : decode cX11_lovers 32 = .ok (.iload_n 2, 1) := dX11_lovers_23g.2.2.2.2.2.1
theorem dX11_lovers_33 : decode cX11_lovers 33 = .ok (.if_icmp .ne 7, 3) := dX11_lovers_23g.2.2.2.2.2.2.1
theorem dX11_lovers_36 : decode cX11_lovers 36 = .ok (.iload_n 3, 1) := dX11_lovers_23g.2.2.2.2.2.2.2.1
theorem dX11_lovers_37 : decode cX11_lovers 37 = .ok (.goto 15, 3) := dX11_lovers_23g.2.2.2.2.2.2.2.2.1
theorem dX11_lovers_40 : decode cX11_lovers 40 = .ok (.aload_n 0, 1) := dX11_lovers_23g.2.2.2.2.2.2.2.2.2
theorem dX11_lovers_41g : (decode cX11_lovers 41 = .ok (.getfield 78, 3)) ∧ (decode cX11_lovers 44 = .ok (.iload_n 1, 1)) ∧ (decode cX11_lovers 45 = .ok (.iload_n 2, 1)) ∧ (decode cX11_lovers 46 = .ok (.iload_n 3, 1)) ∧ (decode cX11_lovers 47 = .ok (.iload 4, 2)) ∧ (decode cX11_lovers 49 = .ok (.invokevirtual 313, 3)) ∧ (decode cX11_lovers 52 = .ok (.ireturn, 1)) := by decide +kernel
theorem dX11_lovers_41 : decode cX11_lovers 41 = .ok (.getfield 78, 3) := dX11_lovers_41g.1
theorem dX11_lovers_44 : decode cX11_lovers 44 = .ok (.iload_n 1, 1) := dX11_lovers_41g.2.1
theorem dX11_lovers_45 : decode cX11_lovers 45 = .ok (.iload_n 2, 1) := dX11_lovers_41g.2.2.1
theorem dX11_lovers_46 : decode cX11_lovers 46 = .ok (.iload_n 3, 1) := dX11_lovers_41g.2.2.2.1
theorem dX11_lovers_47 : decode cX11_lovers 47 = .ok (.iload 4, 2) := dX11_lovers_41g.2.2.2.2.1
theorem dX11_lovers_49 : decode cX11_lovers 49 = .ok (.invokevirtual 313, 3) := dX11_lovers_41g.2.2.2.2.2.1
theorem dX11_lovers_52 : decode cX11_lovers 52 = .ok (.ireturn, 1) := dX11_lovers_41g.2.2.2.2.2.2
set_option maxHeartbeats 4000000 in
set_option maxRecDepth 100000 in
theorem c_X11_lovers (l : Launch) (E : Nat → Nat) (D : va_G) (G : th_G) (h0 n : Nat) (hG0 : G h0 = some (15, n)) (x1 x2 x3 x4 : Int32) : Met l yX11_lovers (tb (.code yX11_lovers cX11_lovers 5 (some .int))) (rm 8) (va_Pc [.ref h0, .int x1, .int x2, .int x3, .int x4] (th_P E D G)) (QI E D G (fun r => True)) 0 0 (th_A G) := by
  refine Met.ofW (cc := cX11_lovers) (maxL := 5) (ret := (some .int)) (by decide) rfl ?_
  intro p e s m args below meth c s₁ B hml hv
  obtain ⟨hav, hI, hN, hK⟩ := hv
  have hx := B.exec
  have hb := B.bytes
  have hr := B.returns
  have hts := atoms_spec (ws := tb (.code yX11_lovers cX11_lovers 5 (some .int))) B.pre
  have hown : s.vm.findClass RX11 = some m.cls := findClass_of_methodNamed B.named
  have hlocks := B.notSynchronized
  have hS : va_S (th_A G) s.heap s.heap [] := va_S.rf
  have hl := lv_entry ([.ref h0, .int x1, .int x2, .int x3, .int x4]) (n := 5) (Nat.le_of_ble_eq_true rfl)
  rw [show entryFrame m args 5 = entryFrame m ([.ref h0, .int x1, .int x2, .int x3, .int x4] : List Value).toArray 5 from by rw [hav], lg_entry_eq]
  generalize (lg_sl ([.ref h0, .int x1, .int x2, .int x3, .int x4]) ++ List.replicate (5 - (lg_sl ([.ref h0, .int x1, .int x2, .int x3, .int x4])).length) Slot.unset).toArray = ls at hl ⊢
  have hl : lv_has ls 5 [(0, .ref h0), (1, .int x1), (2, .int x2), (3, .int x3), (4, .int x4)] := hl
  generalize hR : (headSpec (tb (.code yX11_lovers cX11_lovers 5 (some .int))) (rm 8)).room = R
  have hR := hR.symm
  generalize hQ : MQ below (QI E D G (fun r => True)) args s 0 0 (th_A G) = QF
  have hQ := hQ.symm
  have J_29 : ∀ (H : Heap) (locs : List Loc) (ls : Array Slot) , lv_has ls 5 [(0, .ref h0), (1, .int x1), (2, .int x2), (3, .int x3), (4, .int x4)] → th_I (okC E) D G [] H → va_S (th_A G) s.heap H locs → W p l e R s m args below meth c H locs 0 0 QF (F0 m 29 ls []) := by
    intro H locs ls  hl  hI hS
    refine lv_iconst (v := (-1)) hx hb dX11_lovers_29 (by decide) ?_
    have hpost : True := trivial
    rw [hQ]
    exact W.iret (v := (-1)) hx hb hr (fun t ht hW => ⟨⟨(-1), (), rfl, hpost, by rw [ht]; exact hI, hN.warm hW, va_K.moved hW.alike hK⟩, hS.F ht⟩) hS.2.2 dX11_lovers_30
  refine lv_iload_n hx hb dX11_lovers_0 rfl (lv_at hl 1 rfl) ?_
  refine th_cSs (As := [.int x1]) (rest := []) (n := 1) (d := 0) ⟨hx, hb, hml, hown, hts⟩ (c_X11_isCell l s.heap x1) wd_401 wd_402 wd_1 wd_403 (by decide +kernel) ⟨by rw [hR]; exact Nat.le_of_ble_eq_true rfl, by rw [hR]; exact Nat.le_of_ble_eq_true rfl⟩ hN hS rfl hl.1 rfl (Nat.le_of_ble_eq_true rfl) dX11_lovers_1 ⟨Nat.zero_le _, Nat.zero_le _⟩ (fun r377 locs hp hS => ?_)
  rcases hp with ⟨rfl, hp⟩ | ⟨rfl, hp⟩
  · skip
    try simp only [rg, not_and, Int.not_le] at hp
    have hp378 := hp
    refine lv_if_eq (tgt := 29) hx hb dX11_lovers_4 (by decide) (fun c => absurd c (by decide)) (fun _ => ?_)
    refine lv_iload_n hx hb dX11_lovers_7 rfl (lv_at hl 2 rfl) ?_
    refine th_cSs (As := [.int x2]) (rest := []) (n := 1) (d := 0) ⟨hx, hb, hml, hown, hts⟩ (c_X11_isCell l s.heap x2) wd_401 wd_402 wd_1 wd_403 (by decide +kernel) ⟨by rw [hR]; exact Nat.le_of_ble_eq_true rfl, by rw [hR]; exact Nat.le_of_ble_eq_true rfl⟩ hN hS rfl hl.1 rfl (Nat.le_of_ble_eq_true rfl) dX11_lovers_8 ⟨Nat.zero_le _, Nat.zero_le _⟩ (fun r379 locs hp hS => ?_)
    rcases hp with ⟨rfl, hp⟩ | ⟨rfl, hp⟩
    · skip
      try simp only [rg, not_and, Int.not_le] at hp
      have hp380 := hp
      refine lv_if_eq (tgt := 29) hx hb dX11_lovers_11 (by decide) (fun c => absurd c (by decide)) (fun _ => ?_)
      refine lv_iload_n hx hb dX11_lovers_14 rfl (lv_at hl 3 rfl) ?_
      refine th_cSs (As := [.int x3]) (rest := []) (n := 1) (d := 0) ⟨hx, hb, hml, hown, hts⟩ (c_X11_isMoment l s.heap x3) wd_826 wd_827 wd_1 wd_828 (by decide +kernel) ⟨by rw [hR]; exact Nat.le_of_ble_eq_true rfl, by rw [hR]; exact Nat.le_of_ble_eq_true rfl⟩ hN hS rfl hl.1 rfl (Nat.le_of_ble_eq_true rfl) dX11_lovers_15 ⟨Nat.zero_le _, Nat.zero_le _⟩ (fun r381 locs hp hS => ?_)
      rcases hp with ⟨rfl, hp⟩ | ⟨rfl, hp⟩
      · skip
        try simp only [rg, not_and, Int.not_le] at hp
        have hp382 := hp
        refine lv_if_eq (tgt := 29) hx hb dX11_lovers_18 (by decide) (fun c => absurd c (by decide)) (fun _ => ?_)
        refine lv_iload hx hb dX11_lovers_21 (lv_at hl 4 rfl) ?_
        refine th_cSs (As := [.int x4]) (rest := []) (n := 1) (d := 0) ⟨hx, hb, hml, hown, hts⟩ (c_X11_isFlag l s.heap x4) wd_469 wd_470 wd_1 wd_471 (by decide +kernel) ⟨by rw [hR]; exact Nat.le_of_ble_eq_true rfl, by rw [hR]; exact Nat.le_of_ble_eq_true rfl⟩ hN hS rfl hl.1 rfl (Nat.le_of_ble_eq_true rfl) dX11_lovers_23 ⟨Nat.zero_le _, Nat.zero_le _⟩ (fun r383 locs hp hS => ?_)
        rcases hp with ⟨rfl, hp⟩ | ⟨rfl, hp⟩
        · skip
          try simp only [rg, not_and, Int.not_le] at hp
          have hp384 := hp
          refine lv_if_ne (tgt := 31) hx hb dX11_lovers_26 (by decide) (fun _ => ?_) (fun c => absurd c (by decide))
          refine lv_iload_n hx hb dX11_lovers_31 rfl (lv_at hl 1 rfl) ?_
          refine lv_iload_n hx hb dX11_lovers_32 rfl (lv_at hl 2 rfl) ?_
          refine lv_icmp_ne (tgt := 40) hx hb dX11_lovers_33 (by decide) (fun c385 => ?_) (fun c385 => ?_)
          · skip
            have k386 := iv_ne (X := x1.toInt) (Y := x2.toInt) rfl rfl c385
            refine lv_aload_n hx hb dX11_lovers_40 rfl (lv_at hl 0 rfl) ?_
            obtain ⟨a387, a390, a392, a394, a396, a398, a400, a402, a404, a406, a408, w410, w413, w414, w415, w416, hO, hq388, hq389, hq391, hq393, hq395, hq397, hq399, hq401, hq403, hq405, hq407, hq409, ⟨k411, k412⟩, k417⟩ := op_15 hI hG0 List.not_mem_nil
            have hI := th_I.weak (a := h0) hI
            refine th_get hx hb hts inT11 hown hK hO rfl 10 (by decide) (hts _ (tb_c wd_355)) rfl rfl dX11_lovers_41 ?_
            refine lv_iload_n hx hb dX11_lovers_44 rfl (lv_at hl 1 rfl) ?_
            refine lv_iload_n hx hb dX11_lovers_45 rfl (lv_at hl 2 rfl) ?_
            refine lv_iload_n hx hb dX11_lovers_46 rfl (lv_at hl 3 rfl) ?_
            refine lv_iload hx hb dX11_lovers_47 (lv_at hl 4 rfl) ?_
            have hI := th_I.close hI hG0 hO (ok_15 hq388 hq389 hq391 hq393 hq395 hq397 hq399 hq401 hq403 hq405 hq407 hq409 ⟨by omega, by omega⟩ k417)
            refine th_cVi (As := [.int x1, .int x2, .int x3, .int x4]) (rest := []) (n := 4) (d := 7) ⟨hx, hb, hml, hown, hts⟩ (c_X8_answer l E D G a406 hq407 x1 x2 x3 x4 ⟨by omega, by omega⟩ ⟨by omega, by omega⟩) wd_1084 wd_1085 wd_1086 wd_11 wd_1087 (by decide +kernel) ⟨by rw [hR]; exact Nat.le_of_ble_eq_true rfl, by rw [hR]; exact Nat.le_of_ble_eq_true rfl⟩ hI hN hK hS (rc_13 hI hq407 List.not_mem_nil) rfl rfl hl.1 rfl (Nat.le_of_ble_eq_true rfl) dX11_lovers_49 ⟨Nat.zero_le _, Nat.zero_le _⟩ (fun r418 H locs hp hI hS => ?_)
            have hpost : True := trivial
            rw [hQ]
            exact W.iret (v := r418) hx hb hr (fun t ht hW => ⟨⟨r418, (), rfl, hpost, by rw [ht]; exact hI, hN.warm hW, va_K.moved hW.alike hK⟩, hS.F ht⟩) hS.2.2 dX11_lovers_52
          · skip
            have k419 := iv_eq (X := x1.toInt) (Y := x2.toInt) rfl rfl c385
            refine lv_iload_n hx hb dX11_lovers_36 rfl (lv_at hl 3 rfl) ?_
            refine lv_goto (tgt := 52) hx hb dX11_lovers_37 (by decide) ?_
            have hpost : True := trivial
            rw [hQ]
            exact W.iret (v := x3) hx hb hr (fun t ht hW => ⟨⟨x3, (), rfl, hpost, by rw [ht]; exact hI, hN.warm hW, va_K.moved hW.alike hK⟩, hS.F ht⟩) hS.2.2 dX11_lovers_52
        · skip
          try simp only [rg, not_and, Int.not_le] at hp
          have hp420 := hp
          refine lv_if_ne (tgt := 31) hx hb dX11_lovers_26 (by decide) (fun c => absurd c (by decide)) (fun _ => ?_)
          exact J_29 s.heap locs ls  (lv_sub hl [0, 1, 2, 3, 4] rfl)  hI hS
      · skip
        try simp only [rg, not_and, Int.not_le] at hp
        have hp421 := hp
        refine lv_if_eq (tgt := 29) hx hb dX11_lovers_18 (by decide) (fun _ => ?_) (fun c => absurd c (by decide))
        exact J_29 s.heap locs ls  (lv_sub hl [0, 1, 2, 3, 4] rfl)  hI hS
    · skip
      try simp only [rg, not_and, Int.not_le] at hp
      have hp422 := hp
      refine lv_if_eq (tgt := 29) hx hb dX11_lovers_11 (by decide) (fun _ => ?_) (fun c => absurd c (by decide))
      exact J_29 s.heap locs ls  (lv_sub hl [0, 1, 2, 3, 4] rfl)  hI hS
  · skip
    try simp only [rg, not_and, Int.not_le] at hp
    have hp423 := hp
    refine lv_if_eq (tgt := 29) hx hb dX11_lovers_4 (by decide) (fun _ => ?_) (fun c => absurd c (by decide))
    exact J_29 s.heap locs ls  (lv_sub hl [0, 1, 2, 3, 4] rfl)  hI hS
theorem dX11_duck_0g : (decode cX11_duck 0 = .ok (.iload_n 1, 1)) ∧ (decode cX11_duck 1 = .ok (.invokestatic 106, 3)) ∧ (decode cX11_duck 4 = .ok (.ifCond .eq 32, 3)) ∧ (decode cX11_duck 7 = .ok (.iload_n 2, 1)) ∧ (decode cX11_duck 8 = .ok (.ifCond .lt 28, 3)) ∧ (decode cX11_duck 11 = .ok (.iload_n 2, 1)) ∧ (decode cX11_duck 12 = .ok (.iconst 4, 1)) ∧ (decode cX11_duck 13 = .ok (.if_icmp .ge 23, 3)) ∧ (decode cX11_duck 16 = .ok (.iload_n 3, 1)) ∧ (decode cX11_duck 17 = .ok (.invokestatic 138, 3)) := by decide +kernel
theorem dX11_duck_0 : decode cX11_duck 0 = .ok (.iload_n 1, 1) := dX11_duck_0g.1
theorem dX11_duck_1 : decode cX11_duck 1 = .ok (.invokestatic 106, 3) := dX11_duck_0g.2.1
theorem dX11_duck_4 : decode cX11_duck 4 = .ok (.ifCond .eq 32, 3) := dX11_duck_0g.2.2.1
theorem dX11_duck_7 : decode cX11_duck 7 = .ok (.iload_n 2, 1) := dX11_duck_0g.2.2.2.1
theorem dX11_duck_8 : decode cX11_duck 8 = .ok (.ifCond .lt 28, 3) := dX11_duck_0g.2.2.2.2.1
theorem dX11_duck_11 : decode cX11_duck 11 = .ok (.iload_n 2, 1) := dX11_duck_0g.2.2.2.2.2.1
theorem dX11_duck_12 : decode cX11_duck 12 = .ok (.iconst 4, 1) := dX11_duck_0g.2.2.2.2.2.2.1
theorem dX11_duck_13 : decode cX11_duck 13 = .ok (.if_icmp .ge 23, 3) := dX11_duck_0g.2.2.2.2.2.2.2.1
theorem dX11_duck_16 : decode cX11_duck 16 = .ok (.iload_n 3, 1) := dX11_duck_0g.2.2.2.2.2.2.2.2.1
theorem dX11_duck_17 : decode cX11_duck 17 = .ok (.invokestatic 138, 3) := dX11_duck_0g.2.2.2.2.2.2.2.2.2
theorem dX11_duck_20g : (decode cX11_duck 20 = .ok (.ifCond .eq 16, 3)) ∧ (decode cX11_duck 23 = .ok (.aload_n 0, 1)) ∧ (decode cX11_duck 24 = .ok (.getfield 51, 3)) ∧ (decode cX11_duck 27 = .ok (.iload_n 1, 1)) ∧ (decode cX11_duck 28 = .ok (.iload_n 2, 1)) ∧ (decode cX11_duck 29 = .ok (.iload_n 3, 1)) ∧ (decode cX11_duck 30 = .ok (.invokevirtual 316, 3)) ∧ (decode cX11_duck 33 = .ok (.goto 4, 3)) ∧ (decode cX11_duck 36 = .ok (.iconst (-1), 1)) ∧ (decode cX11_duck 37 = .ok (.ireturn, 1)) := by decide +kernel
theorem dX11_duck_20 : decode cX11_duck 20 = .ok (.ifCond .eq 16, 3) := dX11_duck_20g.1
theorem dX11_duck_23 : decode cX11_duck 23 = .ok (.aload_n 0, 1) := dX11_duck_20g.2.1
theorem dX11_duck_24 : decode cX11_duck 24 = .ok (.getfield 51, 3) := dX11_duck_20g.2.2.1
theorem dX11_duck_27 : decode cX11_duck 27 = .ok (.iload_n 1, 1) := dX11_duck_20g.2.2.2.1
theorem dX11_duck_28 : decode cX11_duck 28 = .ok (.iload_n 2, 1) := dX11_duck_20g.2.2.2.2.1
theorem dX11_duck_29 : decode cX11_duck 29 = .ok (.iload_n 3, 1) := dX11_duck_20g.2.2.2.2.2.1
theorem dX11_duck_30 : decode cX11_duck 30 = .ok (.invokevirtual 316, 3) := dX11_duck_20g.2.2.2.2.2.2.1
theorem dX11_duck_33 : decode cX11_duck 33 = .ok (.goto 4, 3) := dX11_duck_20g.2.2.2.2.2.2.2.1
theorem dX11_duck_36 : decode cX11_duck 36 = .ok (.iconst (-1), 1) := dX11_duck_20g.2.2.2.2.2.2.2.2.1
theorem dX11_duck_37 : decode cX11_duck 37 = .ok (.ireturn, 1) := dX11_duck_20g.2.2.2.2.2.2.2.2.2
set_option maxHeartbeats 4000000 in
set_option maxRecDepth 100000 in
theorem c_X11_duck (l : Launch) (E : Nat → Nat) (D : va_G) (G : th_G) (h0 n : Nat) (hG0 : G h0 = some (15, n)) (x1 x2 x3 : Int32) : Met l yX11_duck (tb (.code yX11_duck cX11_duck 4 (some .int))) (rm 7) (va_Pc [.ref h0, .int x1, .int x2, .int x3] (th_P E D G)) (QI E D G (fun r => True)) 0 0 (th_A G) := by
  refine Met.ofW (cc := cX11_duck) (maxL := 4) (ret := (some .int)) (by decide) rfl ?_
  intro p e s m args below meth c s₁ B hml hv
  obtain ⟨hav, hI, hN, hK⟩ := hv
  have hx := B.exec
  have hb := B.bytes
  have hr := B.returns
  have hts := atoms_spec (ws := tb (.code yX11_duck cX11_duck 4 (some .int))) B.pre
  have hown : s.vm.findClass RX11 = some m.cls := findClass_of_methodNamed B.named
  have hlocks := B.notSynchronized
  have hS : va_S (th_A G) s.heap s.heap [] := va_S.rf
  have hl := lv_entry ([.ref h0, .int x1, .int x2, .int x3]) (n := 4) (Nat.le_of_ble_eq_true rfl)
  rw [show entryFrame m args 4 = entryFrame m ([.ref h0, .int x1, .int x2, .int x3] : List Value).toArray 4 from by rw [hav], lg_entry_eq]
  generalize (lg_sl ([.ref h0, .int x1, .int x2, .int x3]) ++ List.replicate (4 - (lg_sl ([.ref h0, .int x1, .int x2, .int x3])).length) Slot.unset).toArray = ls at hl ⊢
  have hl : lv_has ls 4 [(0, .ref h0), (1, .int x1), (2, .int x2), (3, .int x3)] := hl
  generalize hR : (headSpec (tb (.code yX11_duck cX11_duck 4 (some .int))) (rm 7)).room = R
  have hR := hR.symm
  generalize hQ : MQ below (QI E D G (fun r => True)) args s 0 0 (th_A G) = QF
  have hQ := hQ.symm
  refine lv_iload_n hx hb dX11_duck_0 rfl (lv_at hl 1 rfl) ?_
  refine th_cSs (As := [.int x1]) (rest := []) (n := 1) (d := 0) ⟨hx, hb, hml, hown, hts⟩ (c_X11_isCell l s.heap x1) wd_401 wd_402 wd_1 wd_403 (by decide +kernel) ⟨by rw [hR]; exact Nat.le_of_ble_eq_true rfl, by rw [hR]; exact Nat.le_of_ble_eq_true rfl⟩ hN hS rfl hl.1 rfl (Nat.le_of_ble_eq_true rfl) dX11_duck_1 ⟨Nat.zero_le _, Nat.zero_le _⟩ (fun r1 locs hp hS => ?_)
  rcases hp with ⟨rfl, hp⟩ | ⟨rfl, hp⟩
  · skip
    try simp only [rg, not_and, Int.not_le] at hp
    have hp2 := hp
    refine lv_if_eq (tgt := 36) hx hb dX11_duck_4 (by decide) (fun c => absurd c (by decide)) (fun _ => ?_)
    refine lv_iload_n hx hb dX11_duck_7 rfl (lv_at hl 2 rfl) ?_
    have k3 := iv_lo x2
    have k4 := iv_hi x2
    refine lv_if_lt (tgt := 36) hx hb dX11_duck_8 (by decide) (fun c5 => ?_) (fun c5 => ?_)
    · skip
      have k6 := iv_lt (X := x2.toInt) (Y := (0)) rfl (by decide) c5
      refine lv_iconst (v := (-1)) hx hb dX11_duck_36 (by decide) ?_
      have hpost : True := trivial
      rw [hQ]
      exact W.iret (v := (-1)) hx hb hr (fun t ht hW => ⟨⟨(-1), (), rfl, hpost, by rw [ht]; exact hI, hN.warm hW, va_K.moved hW.alike hK⟩, hS.F ht⟩) hS.2.2 dX11_duck_37
    · skip
      have k7 := iv_nlt (X := x2.toInt) (Y := (0)) rfl (by decide) c5
      refine lv_iload_n hx hb dX11_duck_11 rfl (lv_at hl 2 rfl) ?_
      refine lv_iconst (v := 4) hx hb dX11_duck_12 (by decide) ?_
      refine lv_icmp_ge (tgt := 36) hx hb dX11_duck_13 (by decide) (fun c8 => ?_) (fun c8 => ?_)
      · skip
        have k9 := iv_le (X := (4)) (Y := x2.toInt) (by decide) rfl c8
        refine lv_iconst (v := (-1)) hx hb dX11_duck_36 (by decide) ?_
        have hpost : True := trivial
        rw [hQ]
        exact W.iret (v := (-1)) hx hb hr (fun t ht hW => ⟨⟨(-1), (), rfl, hpost, by rw [ht]; exact hI, hN.warm hW, va_K.moved hW.alike hK⟩, hS.F ht⟩) hS.2.2 dX11_duck_37
      · skip
        have k10 := iv_nle (X := (4)) (Y := x2.toInt) (by decide) rfl c8
        refine lv_iload_n hx hb dX11_duck_16 rfl (lv_at hl 3 rfl) ?_
        refine th_cSs (As := [.int x3]) (rest := []) (n := 1) (d := 0) ⟨hx, hb, hml, hown, hts⟩ (c_X11_isFlag l s.heap x3) wd_469 wd_470 wd_1 wd_471 (by decide +kernel) ⟨by rw [hR]; exact Nat.le_of_ble_eq_true rfl, by rw [hR]; exact Nat.le_of_ble_eq_true rfl⟩ hN hS rfl hl.1 rfl (Nat.le_of_ble_eq_true rfl) dX11_duck_17 ⟨Nat.zero_le _, Nat.zero_le _⟩ (fun r11 locs hp hS => ?_)
        rcases hp with ⟨rfl, hp⟩ | ⟨rfl, hp⟩
        · skip
          try simp only [rg, not_and, Int.not_le] at hp
          have hp12 := hp
          refine lv_if_eq (tgt := 36) hx hb dX11_duck_20 (by decide) (fun c => absurd c (by decide)) (fun _ => ?_)
          refine lv_aload_n hx hb dX11_duck_23 rfl (lv_at hl 0 rfl) ?_
          obtain ⟨a13, a16, a18, a20, a22, a24, a26, a28, a30, a32, a34, w36, w39, w40, w41, w42, hO, hq14, hq15, hq17, hq19, hq21, hq23, hq25, hq27, hq29, hq31, hq33, hq35, ⟨k37, k38⟩, k43⟩ := op_15 hI hG0 List.not_mem_nil
          have hI := th_I.weak (a := h0) hI
          refine th_get hx hb hts inT11 hown hK hO rfl 7 (by decide) (hts _ (tb_c wd_352)) rfl rfl dX11_duck_24 ?_
          refine lv_iload_n hx hb dX11_duck_27 rfl (lv_at hl 1 rfl) ?_
          refine lv_iload_n hx hb dX11_duck_28 rfl (lv_at hl 2 rfl) ?_
          refine lv_iload_n hx hb dX11_duck_29 rfl (lv_at hl 3 rfl) ?_
          have hI := th_I.close hI hG0 hO (ok_15 hq14 hq15 hq17 hq19 hq21 hq23 hq25 hq27 hq29 hq31 hq33 hq35 ⟨by omega, by omega⟩ k43)
          refine th_cVi (As := [.int x1, .int x2, .int x3]) (rest := []) (n := 3) (d := 6) ⟨hx, hb, hml, hown, hts⟩ (c_X9_paddle l E D G a26 hq27 x1 x2 x3) wd_1098 wd_1099 wd_1100 wd_8 wd_1101 (by decide +kernel) ⟨by rw [hR]; exact Nat.le_of_ble_eq_true rfl, by rw [hR]; exact Nat.le_of_ble_eq_true rfl⟩ hI hN hK hS (rc_10 hI hq27 List.not_mem_nil) rfl rfl hl.1 rfl (Nat.le_of_ble_eq_true rfl) dX11_duck_30 ⟨Nat.zero_le _, Nat.zero_le _⟩ (fun r44 H locs hp hI hS => ?_)
          refine lv_goto (tgt := 37) hx hb dX11_duck_33 (by decide) ?_
          have hpost : True := trivial
          rw [hQ]
          exact W.iret (v := r44) hx hb hr (fun t ht hW => ⟨⟨r44, (), rfl, hpost, by rw [ht]; exact hI, hN.warm hW, va_K.moved hW.alike hK⟩, hS.F ht⟩) hS.2.2 dX11_duck_37
        · skip
          try simp only [rg, not_and, Int.not_le] at hp
          have hp45 := hp
          refine lv_if_eq (tgt := 36) hx hb dX11_duck_20 (by decide) (fun _ => ?_) (fun c => absurd c (by decide))
          refine lv_iconst (v := (-1)) hx hb dX11_duck_36 (by decide) ?_
          have hpost : True := trivial
          rw [hQ]
          exact W.iret (v := (-1)) hx hb hr (fun t ht hW => ⟨⟨(-1), (), rfl, hpost, by rw [ht]; exact hI, hN.warm hW, va_K.moved hW.alike hK⟩, hS.F ht⟩) hS.2.2 dX11_duck_37
  · skip
    try simp only [rg, not_and, Int.not_le] at hp
    have hp46 := hp
    refine lv_if_eq (tgt := 36) hx hb dX11_duck_4 (by decide) (fun _ => ?_) (fun c => absurd c (by decide))
    refine lv_iconst (v := (-1)) hx hb dX11_duck_36 (by decide) ?_
    have hpost : True := trivial
    rw [hQ]
    exact W.iret (v := (-1)) hx hb hr (fun t ht hW => ⟨⟨(-1), (), rfl, hpost, by rw [ht]; exact hI, hN.warm hW, va_K.moved hW.alike hK⟩, hS.F ht⟩) hS.2.2 dX11_duck_37
theorem dX11_matters_0g : (decode cX11_matters 0 = .ok (.iload_n 1, 1)) ∧ (decode cX11_matters 1 = .ok (.invokestatic 106, 3)) ∧ (decode cX11_matters 4 = .ok (.ifCond .eq 17, 3)) ∧ (decode cX11_matters 7 = .ok (.iload_n 2, 1)) ∧ (decode cX11_matters 8 = .ok (.iload_n 3, 1)) ∧ (decode cX11_matters 9 = .ok (.invokestatic 134, 3)) ∧ (decode cX11_matters 12 = .ok (.ifCond .eq 9, 3)) ∧ (decode cX11_matters 15 = .ok (.iload 4, 2)) ∧ (decode cX11_matters 17 = .ok (.iconst (-1), 1)) ∧ (decode cX11_matters 18 = .ok (.if_icmp .ge 5, 3)) := by decide +kernel
theorem dX11_matters_0 : decode cX11_matters 0 = .ok (.iload_n 1, 1) := dX11_matters_0g.1
theorem dX11_matters_1 : decode cX11_matters 1 = .ok (.invokestatic 106, 3) := dX11_matters_0g.2.1
theorem dX11_matters_4 : decode cX11_matters 4 = .ok (.ifCond .eq 17, 3) := dX11_matters_0g.2.2.1
theorem dX11_matters_7 : decode cX11_matters 7 = .ok (.iload_n 2, 1) := dX11_matters_0g.2.2.2.1
theorem dX11_matters_8 : decode cX11_matters 8 = .ok (.iload_n 3, 1) := dX11_matters_0g.2.2.2.2.1
theorem dX11_matters_9 : decode cX11_matters 9 = .ok (.invokestatic 134, 3) := dX11_matters_0g.2.2.2.2.2.1
theorem dX11_matters_12 : decode cX11_matters 12 = .ok (.ifCond .eq 9, 3) := dX11_matters_0g.2.2.2.2.2.2.1
theorem dX11_matters_15 : decode cX11_matters 15 = .ok (.iload 4, 2) := dX11_matters_0g.2.2.2.2.2.2.2.1
theorem dX11_matters_17 : decode cX11_matters 17 = .ok (.iconst (-1), 1) := dX11_matters_0g.2.2.2.2.2.2.2.2.1
theorem dX11_matters_18 : decode cX11_matters 18 = .ok (.if_icmp .ge 5, 3) := dX11_matters_0g.2.2.2.2.2.2.2.2.2
theorem dX11_matters_21g : (decode cX11_matters 21 = .ok (.iconst (-1), 1)) ∧ (decode cX11_matters 22 = .ok (.ireturn, 1)) ∧ (decode cX11_matters 23 = .ok (.aload_n 0, 1)) ∧ (decode cX11_matters 24 = .ok (.getfield 51, 3)) ∧ (decode cX11_matters 27 = .ok (.iload_n 1, 1)) ∧ (decode cX11_matters 28 = .ok (.iload_n 2, 1)) ∧ (decode cX11_matters 29 = .ok (.iload_n 3, 1)) ∧ (decode cX11_matters 30 = .ok (.iload 4, 2)) ∧ (decode cX11_matters 32 = .ok (.invokevirtual 319, 3)) ∧ (decode cX11_matters 35 = .ok (.ireturn, 1)) := by decide +kernel
theorem dX11_matters_21 : decode cX11_matters 21 = .ok (.iconst (-1), 1) := dX11_matters_21g.1
theorem dX11_matters_22 : decode cX11_matters 22 = .ok (.ireturn, 1) := dX11_matters_21g.2.1
theorem dX11_matters_23 : decode cX11_matters 23 = .ok (.aload_n 0, 1) := dX11_matters_21g.2.2.1
theorem dX11_matters_24 : decode cX11_matters 24 = .ok (.getfield 51, 3) := dX11_matters_21g.2.2.2.1
theorem dX11_matters_27 : decode cX11_matters 27 = .ok (.iload_n 1, 1) := dX11_matters_21g.2.2.2.2.1
theorem dX11_matters_28 : decode cX11_matters 28 = .ok (.iload_n 2, 1) := dX11_matters_21g.2.2.2.2.2.1
theorem dX11_matters_29 : decode cX11_matters 29 = .ok (.iload_n 3, 1) := dX11_matters_21g.2.2.2.2.2.2.1
theorem dX11_matters_30 : decode cX11_matters 30 = .ok (.iload 4, 2) := dX11_matters_21g.2.2.2.2.2.2.2.1
theorem dX11_matters_32 : decode cX11_matters 32 = .ok (.invokevirtual 319, 3) := dX11_matters_21g.2.2.2.2.2.2.2.2.1
theorem dX11_matters_35 : decode cX11_matters 35 = .ok (.ireturn, 1) := dX11_matters_21g.2.2.2.2.2.2.2.2.2
set_option maxHeartbeats 4000000 in
set_option maxRecDepth 100000 in
theorem c_X11_matters (l : Launch) (E : Nat → Nat) (D : va_G) (G : th_G) (h0 n : Nat) (hG0 : G h0 = some (15, n)) (x1 x2 x3 x4 : Int32) : Met l yX11_matters (tb (.code yX11_matters cX11_matters 5 (some .int))) (rm 7) (va_Pc [.ref h0, .int x1, .int x2, .int x3, .int x4] (th_P E D G)) (QI E D G (fun r => True)) 0 0 (th_A G) := by
  refine Met.ofW (cc := cX11_matters) (maxL := 5) (ret := (some .int)) (by decide) rfl ?_
  intro p e s m args below meth c s₁ B hml hv
  obtain ⟨hav, hI, hN, hK⟩ := hv
  have hx := B.exec
  have hb := B.bytes
  have hr := B.returns
  have hts := atoms_spec (ws := tb (.code yX11_matters cX11_matters 5 (some .int))) B.pre
  have hown : s.vm.findClass RX11 = some m.cls := findClass_of_methodNamed B.named
  have hlocks := B.notSynchronized
  have hS : va_S (th_A G) s.heap s.heap [] := va_S.rf
  have hl := lv_entry ([.ref h0, .int x1, .int x2, .int x3, .int x4]) (n := 5) (Nat.le_of_ble_eq_true rfl)
  rw [show entryFrame m args 5 = entryFrame m ([.ref h0, .int x1, .int x2, .int x3, .int x4] : List Value).toArray 5 from by rw [hav], lg_entry_eq]
  generalize (lg_sl ([.ref h0, .int x1, .int x2, .int x3, .int x4]) ++ List.replicate (5 - (lg_sl ([.ref h0, .int x1, .int x2, .int x3, .int x4])).length) Slot.unset).toArray = ls at hl ⊢
  have hl : lv_has ls 5 [(0, .ref h0), (1, .int x1), (2, .int x2), (3, .int x3), (4, .int x4)] := hl
  generalize hR : (headSpec (tb (.code yX11_matters cX11_matters 5 (some .int))) (rm 7)).room = R
  have hR := hR.symm
  generalize hQ : MQ below (QI E D G (fun r => True)) args s 0 0 (th_A G) = QF
  have hQ := hQ.symm
  have J_21 : ∀ (H : Heap) (locs : List Loc) (ls : Array Slot) , lv_has ls 5 [(0, .ref h0), (1, .int x1), (2, .int x2), (3, .int x3), (4, .int x4)] → th_I (okC E) D G [] H → va_S (th_A G) s.heap H locs → W p l e R s m args below meth c H locs 0 0 QF (F0 m 21 ls []) := by
    intro H locs ls  hl  hI hS
    refine lv_iconst (v := (-1)) hx hb dX11_matters_21 (by decide) ?_
    have hpost : True := trivial
    rw [hQ]
    exact W.iret (v := (-1)) hx hb hr (fun t ht hW => ⟨⟨(-1), (), rfl, hpost, by rw [ht]; exact hI, hN.warm hW, va_K.moved hW.alike hK⟩, hS.F ht⟩) hS.2.2 dX11_matters_22
  refine lv_iload_n hx hb dX11_matters_0 rfl (lv_at hl 1 rfl) ?_
  refine th_cSs (As := [.int x1]) (rest := []) (n := 1) (d := 0) ⟨hx, hb, hml, hown, hts⟩ (c_X11_isCell l s.heap x1) wd_401 wd_402 wd_1 wd_403 (by decide +kernel) ⟨by rw [hR]; exact Nat.le_of_ble_eq_true rfl, by rw [hR]; exact Nat.le_of_ble_eq_true rfl⟩ hN hS rfl hl.1 rfl (Nat.le_of_ble_eq_true rfl) dX11_matters_1 ⟨Nat.zero_le _, Nat.zero_le _⟩ (fun r345 locs hp hS => ?_)
  rcases hp with ⟨rfl, hp⟩ | ⟨rfl, hp⟩
  · skip
    try simp only [rg, not_and, Int.not_le] at hp
    have hp346 := hp
    refine lv_if_eq (tgt := 21) hx hb dX11_matters_4 (by decide) (fun c => absurd c (by decide)) (fun _ => ?_)
    refine lv_iload_n hx hb dX11_matters_7 rfl (lv_at hl 2 rfl) ?_
    refine lv_iload_n hx hb dX11_matters_8 rfl (lv_at hl 3 rfl) ?_
    refine th_cSs (As := [.int x2, .int x3]) (rest := []) (n := 2) (d := 1) ⟨hx, hb, hml, hown, hts⟩ (c_X11_isSpan l s.heap x2 x3) wd_463 wd_464 wd_1 wd_465 (by decide +kernel) ⟨by rw [hR]; exact Nat.le_of_ble_eq_true rfl, by rw [hR]; exact Nat.le_of_ble_eq_true rfl⟩ hN hS rfl hl.1 rfl (Nat.le_of_ble_eq_true rfl) dX11_matters_9 ⟨Nat.zero_le _, Nat.zero_le _⟩ (fun r347 locs hp hS => ?_)
    rcases hp with ⟨rfl, hp⟩ | ⟨rfl, hp⟩
    · skip
      try simp only [rg, not_and, Int.not_le] at hp
      have hp348 := hp
      refine lv_if_eq (tgt := 21) hx hb dX11_matters_12 (by decide) (fun c => absurd c (by decide)) (fun _ => ?_)
      refine lv_iload hx hb dX11_matters_15 (lv_at hl 4 rfl) ?_
      refine lv_iconst (v := (-1)) hx hb dX11_matters_17 (by decide) ?_
      have k349 := iv_lo x4
      have k350 := iv_hi x4
      refine lv_icmp_ge (tgt := 23) hx hb dX11_matters_18 (by decide) (fun c351 => ?_) (fun c351 => ?_)
      · skip
        have k352 := iv_le (X := (-1)) (Y := x4.toInt) (by decide) rfl c351
        refine lv_aload_n hx hb dX11_matters_23 rfl (lv_at hl 0 rfl) ?_
        obtain ⟨a353, a356, a358, a360, a362, a364, a366, a368, a370, a372, a374, w376, w379, w380, w381, w382, hO, hq354, hq355, hq357, hq359, hq361, hq363, hq365, hq367, hq369, hq371, hq373, hq375, ⟨k377, k378⟩, k383⟩ := op_15 hI hG0 List.not_mem_nil
        have hI := th_I.weak (a := h0) hI
        refine th_get hx hb hts inT11 hown hK hO rfl 7 (by decide) (hts _ (tb_c wd_352)) rfl rfl dX11_matters_24 ?_
        refine lv_iload_n hx hb dX11_matters_27 rfl (lv_at hl 1 rfl) ?_
        refine lv_iload_n hx hb dX11_matters_28 rfl (lv_at hl 2 rfl) ?_
        refine lv_iload_n hx hb dX11_matters_29 rfl (lv_at hl 3 rfl) ?_
        refine lv_iload hx hb dX11_matters_30 (lv_at hl 4 rfl) ?_
        have hI := th_I.close hI hG0 hO (ok_15 hq354 hq355 hq357 hq359 hq361 hq363 hq365 hq367 hq369 hq371 hq373 hq375 ⟨by omega, by omega⟩ k383)
        refine th_cVi (As := [.int x1, .int x2, .int x3, .int x4]) (rest := []) (n := 4) (d := 6) ⟨hx, hb, hml, hown, hts⟩ (c_X9_turningHours l E D G a366 hq367 x1 x2 x3 x4) wd_1109 wd_1110 wd_1111 wd_8 wd_1112 (by decide +kernel) ⟨by rw [hR]; exact Nat.le_of_ble_eq_true rfl, by rw [hR]; exact Nat.le_of_ble_eq_true rfl⟩ hI hN hK hS (rc_10 hI hq367 List.not_mem_nil) rfl rfl hl.1 rfl (Nat.le_of_ble_eq_true rfl) dX11_matters_32 ⟨Nat.zero_le _, Nat.zero_le _⟩ (fun r384 H locs hp hI hS => ?_)
        have hpost : True := trivial
        rw [hQ]
        exact W.iret (v := r384) hx hb hr (fun t ht hW => ⟨⟨r384, (), rfl, hpost, by rw [ht]; exact hI, hN.warm hW, va_K.moved hW.alike hK⟩, hS.F ht⟩) hS.2.2 dX11_matters_35
      · skip
        have k385 := iv_nle (X := (-1)) (Y := x4.toInt) (by decide) rfl c351
        exact J_21 s.heap locs ls  (lv_sub hl [0, 1, 2, 3, 4] rfl)  hI hS
    · skip
      try simp only [rg, not_and, Int.not_le] at hp
      have hp386 := hp
      refine lv_if_eq (tgt := 21) hx hb dX11_matters_12 (by decide) (fun _ => ?_) (fun c => absurd c (by decide))
      exact J_21 s.heap locs ls  (lv_sub hl [0, 1, 2, 3, 4] rfl)  hI hS
  · skip
    try simp only [rg, not_and, Int.not_le] at hp
    have hp387 := hp
    refine lv_if_eq (tgt := 21) hx hb dX11_matters_4 (by decide) (fun _ => ?_) (fun c => absurd c (by decide))
    exact J_21 s.heap locs ls  (lv_sub hl [0, 1, 2, 3, 4] rfl)  hI hS
theorem dX11_wish_0g : (decode cX11_wish 0 = .ok (.iload_n 1, 1)) ∧ (decode cX11_wish 1 = .ok (.invokestatic 106, 3)) ∧ (decode cX11_wish 4 = .ok (.ifCond .eq 19, 3)) ∧ (decode cX11_wish 7 = .ok (.iload_n 3, 1)) ∧ (decode cX11_wish 8 = .ok (.invokestatic 240, 3)) ∧ (decode cX11_wish 11 = .ok (.ifCond .eq 12, 3)) ∧ (decode cX11_wish 14 = .ok (.iload_n 2, 1)) ∧ (decode cX11_wish 15 = .ok (.iload 4, 2)) ∧ (decode cX11_wish 17 = .ok (.invokestatic 134, 3)) ∧ (decode cX11_wish 20 = .ok (.ifCond .ne 9, 3)) := by decide +kernel
theorem dX11_wish_0 : decode cX11_wish 0 = .ok (.iload_n 1, 1) := dX11_wish_0g.1
theorem dX11_wish_1 : decode cX11_wish 1 = .ok (.invokestatic 106, 3) := dX11_wish_0g.2.1
theorem dX11_wish_4 : decode cX11_wish 4 = .ok (.ifCond .eq 19, 3) := dX11_wish_0g.2.2.1
theorem dX11_wish_7 : decode cX11_wish 7 = .ok (.iload_n 3, 1) := dX11_wish_0g.2.2.2.1
theorem dX11_wish_8 : decode cX11_wish 8 = .ok (.invokestatic 240, 3) := dX11_wish_0g.2.2.2.2.1
theorem dX11_wish_11 : decode cX11_wish 11 = .ok (.ifCond .eq 12, 3) := dX11_wish_0g.2.2.2.2.2.1
theorem dX11_wish_14 : decode cX11_wish 14 = .ok (.iload_n 2, 1) := dX11_wish_0g.2.2.2.2.2.2.1
theorem dX11_wish_15 : decode cX11_wish 15 = .ok (.iload 4, 2) := dX11_wish_0g.2.2.2.2.2.2.2.1
theorem dX11_wish_17 : decode cX11_wish 17 = .ok (.invokestatic 134, 3) := dX11_wish_0g.2.2.2.2.2.2.2.2.1
theorem dX11_wish_20 : decode cX11_wish 20 = .ok (.ifCond .ne 9, 3) := dX11_wish_0g.2.2.2.2.2.2.2.2.2
theorem dX11_wish_23g : (decode cX11_wish 23 = .ok (.aload_n 0, 1)) ∧ (decode cX11_wish 24 = .ok (.iconst (-1), 1)) ∧ (decode cX11_wish 25 = .ok (.invokevirtual 113, 3)) ∧ (decode cX11_wish 28 = .ok (.ireturn, 1)) ∧ (decode cX11_wish 29 = .ok (.aload_n 0, 1)) ∧ (decode cX11_wish 30 = .ok (.getfield 12, 3)) ∧ (decode cX11_wish 33 = .ok (.getfield 322, 3)) ∧ (decode cX11_wish 36 = .ok (.invokevirtual 149, 3)) ∧ (decode cX11_wish 39 = .ok (.ifCond .eq 10, 3)) ∧ (decode cX11_wish 42 = .ok (.aload_n 0, 1)) := by decide +kernel
theorem dX11_wish_23 : decode cX11_wish 23 = .ok (.aload_n 0, 1) := dX11_wish_23g.1
theorem dX11_wish_24 : decode cX11_wish 24 = .ok (.iconst (-1), 1) := dX11_wish_23g.2.1
theorem dX11_wish_25 : decode cX11_wish 25 = .ok (.invokevirtual 113, 3) := dX11_wish_23g.2.2.1
theorem dX11_wish_28 : decode cX11_wish 28 = .ok (.ireturn, 1) := dX11_wish_23g.2.2.2.1
theorem dX11_wish_29 : decode cX11_wish 29 = .ok (.aload_n 0, 1) := dX11_wish_23g.2.2.2.2.1
theorem dX11_wish_30 : decode cX11_wish 30 = .ok (.getfield 12, 3) := dX11_wish_23g.2.2.2.2.2.1
theorem dX11_wish_33 : decode cX11_wish 33 = .ok (.getfield 322, 3) := dX11_wish_23g.2.2.2.2.2.2.1
theorem dX11_wish_36 : decode cX11_wish 36 = .ok (.invokevirtual 149, 3) := dX11_wish_23g.2.2.2.2.2.2.2.1
theorem dX11_wish_39 : decode cX11_wish 39 = .ok (.ifCond .eq 10, 3) := dX11_wish_23g.2.2.2.2.2.2.2.2.1
theorem dX11_wish_42 : decode cX11_wish 42 = .ok (.aload_n 0, 1) := dX11_wish_23g.2.2.2.2.2.2.2.2.2
theorem dX11_wish_43g : (decode cX11_wish 43 = .ok (.bipush (-5), 2)) ∧ (decode cX11_wish 45 = .ok (.invokevirtual 113, 3)) ∧ (decode cX11_wish 48 = .ok (.ireturn, 1)) ∧ (decode cX11_wish 49 = .ok (.aload_n 0, 1)) ∧ (decode cX11_wish 50 = .ok (.getfield 12, 3)) ∧ (decode cX11_wish 53 = .ok (.getfield 322, 3)) ∧ (decode cX11_wish 56 = .ok (.iload_n 1, 1)) ∧ (decode cX11_wish 57 = .ok (.iload_n 2, 1)) ∧ (decode cX11_wish 58 = .ok (.iload_n 3, 1)) ∧ (decode cX11_wish 59 = .ok (.iload 4, 2)) := by decide +kernel
theorem dX11_wish_43 : decode cX11_wish 43 = .ok (.bipush (-5), 2) := dX11_wish_43g.1
theorem dX11_wish_45 : decode cX11_wish 45 = .ok (.invokevirtual 113, 3) := dX11_wish_43g.2.1
theorem dX11_wish_48 : decode cX11_wish 48 = .ok (.ireturn, 1) := dX11_wish_43g.2.2.1
theorem dX11_wish_49 : decode cX11_wish 49 = .ok (.aload_n 0, 1) := dX11_wish_43g.2.2.2.1
theorem dX11_wish_50 : decode cX11_wish 50 = .ok (.getfield 12, 3) := dX11_wish_43g.2.2.2.2.1
theorem dX11_wish_53 : decode cX11_wish 53 = .ok (.getfield 322, 3) := dX11_wish_43g.2.2.2.2.2.1
theorem dX11_wish_56 : decode cX11_wish 56 = .ok (.iload_n 1, 1) := dX11_wish_43g.2.2.2.2.2.2.1
theorem dX11_wish_57 : decode cX11_wish 57 = .ok (.iload_n 2, 1) := dX11_wish_43g.2.2.2.2.2.2.2.1
theorem dX11_wish_58 : decode cX11_wish 58 = .ok (.iload_n 3, 1) := dX11_wish_43g.2.2.2.2.2.2.2.2.1
theorem dX11_wish_59 : decode cX11_wish 59 = .ok (.iload 4, 2) := dX11_wish_43g.2.2.2.2.2.2.2.2.2
theorem dX11_wish_61g : (decode cX11_wish 61 = .ok (.invokevirtual 155, 3)) ∧ (decode cX11_wish 64 = .ok (.pop, 1)) ∧ (decode cX11_wish 65 = .ok (.aload_n 0, 1)) ∧ (decode cX11_wish 66 = .ok (.invokevirtual 191, 3)) ∧ (decode cX11_wish 69 = .ok (.aload_n 0, 1)) ∧ (decode cX11_wish 70 = .ok (.aload_n 0, 1)) ∧ (decode cX11_wish 71 = .ok (.getfield 12, 3)) ∧ (decode cX11_wish 74 = .ok (.getfield 322, 3)) ∧ (decode cX11_wish 77 = .ok (.invokevirtual 166, 3)) ∧ (decode cX11_wish 80 = .ok (.invokevirtual 127, 3)) := by decide +kernel
theorem dX11_wish_61 : decode cX11_wish 61 = .ok (.invokevirtual 155, 3) := dX11_wish_61g.1
theorem dX11_wish_64 : decode cX11_wish 64 = .ok (.pop, 1) := dX11_wish_61g.2.1
theorem dX11_wish_65 : decode cX11_wish 65 = .ok (.aload_n 0, 1) := dX11_wish_61g.2.2.1
theorem dX11_wish_66 : decode cX11_wish 66 = .ok (.invokevirtual 191, 3) := dX11_wish_61g.2.2.2.1
theorem dX11_wish_69 : decode cX11_wish 69 = .ok (.aload_n 0, 1) := dX11_wish_61g.2.2.2.2.1
theorem dX11_wish_70 : decode cX11_wish 70 = .ok (.aload_n 0, 1) := dX11_wish_61g.2.2.2.2.2.1
theorem dX11_wish_71 : decode cX11_wish 71 = .ok (.getfield 12, 3) := dX11_wish_61g.2.2.2.2.2.2.1
theorem dX11_wish_74 : decode cX11_wish 74 = .ok (.getfield 322, 3) := dX11_wish_61g.2.2.2.2.2.2.2.1
theorem dX11_wish_77 : decode cX11_wish 77 = .ok (.invokevirtual 166, 3) := dX11_wish_61g.2.2.2.2.2.2.2.2.1
theorem dX11_wish_80 : decode cX11_wish 80 = .ok (.invokevirtual 127, 3) := dX11_wish_61g.2.2.2.2.2.2.2.2.2
theorem dX11_wish_83 : decode cX11_wish 83 = .ok (.ireturn, 1) := by decide +kernel
set_option maxHeartbeats 4000000 in
set_option maxRecDepth 100000 in
theorem c_X11_wish (l : Launch) (E : Nat → Nat) (D : va_G) (G : th_G) (h0 n : Nat) (hG0 : G h0 = some (15, n)) (x1 x2 x3 x4 : Int32) : Met l yX11_wish (tb (.code yX11_wish cX11_wish 5 (some .int))) (rm 2) (va_Pc [.ref h0, .int x1, .int x2, .int x3, .int x4] (th_P E D G)) (QI E D G (fun r => True)) 0 0 (th_A G) := by
  refine Met.ofW (cc := cX11_wish) (maxL := 5) (ret := (some .int)) (by decide) rfl ?_
  intro p e s m args below meth c s₁ B hml hv
  obtain ⟨hav, hI, hN, hK⟩ := hv
  have hx := B.exec
  have hb := B.bytes
  have hr := B.returns
  have hts := atoms_spec (ws := tb (.code yX11_wish cX11_wish 5 (some .int))) B.pre
  have hown : s.vm.findClass RX11 = some m.cls := findClass_of_methodNamed B.named
  have hlocks := B.notSynchronized
  have hS : va_S (th_A G) s.heap s.heap [] := va_S.rf
  have hl := lv_entry ([.ref h0, .int x1, .int x2, .int x3, .int x4]) (n := 5) (Nat.le_of_ble_eq_true rfl)
  rw [show entryFrame m args 5 = entryFrame m ([.ref h0, .int x1, .int x2, .int x3, .int x4] : List Value).toArray 5 from by rw [hav], lg_entry_eq]
  generalize (lg_sl ([.ref h0, .int x1, .int x2, .int x3, .int x4]) ++ List.replicate (5 - (lg_sl ([.ref h0, .int x1, .int x2, .int x3, .int x4])).length) Slot.unset).toArray = ls at hl ⊢
  have hl : lv_has ls 5 [(0, .ref h0), (1, .int x1), (2, .int x2), (3, .int x3), (4, .int x4)] := hl
  generalize hR : (headSpec (tb (.code yX11_wish cX11_wish 5 (some .int))) (rm 2)).room = R
  have hR := hR.symm
  generalize hQ : MQ below (QI E D G (fun r => True)) args s 0 0 (th_A G) = QF
  have hQ := hQ.symm
  have J_23 : ∀ (H : Heap) (locs : List Loc) (ls : Array Slot) , lv_has ls 5 [(0, .ref h0), (1, .int x1), (2, .int x2), (3, .int x3), (4, .int x4)] → th_I (okC E) D G [] H → va_S (th_A G) s.heap H locs → W p l e R s m args below meth c H locs 0 0 QF (F0 m 23 ls []) := by
    intro H locs ls  hl  hI hS
    refine lv_aload_n hx hb dX11_wish_23 rfl (lv_at hl 0 rfl) ?_
    refine lv_iconst (v := (-1)) hx hb dX11_wish_24 (by decide) ?_
    refine th_cVi (As := [.int (-1)]) (rest := []) (n := 1) (d := 0) ⟨hx, hb, hml, hown, hts⟩ (c_X11_refuse l E D G h0 (n) hG0 (-1)) wd_407 wd_409 wp_0 wd_1 wd_410 (by decide +kernel) ⟨by rw [hR]; exact Nat.le_of_ble_eq_true rfl, by rw [hR]; exact Nat.le_of_ble_eq_true rfl⟩ hI hN hK hS (rc_15 hI hG0 List.not_mem_nil) rfl rfl hl.1 rfl (Nat.le_of_ble_eq_true rfl) dX11_wish_25 ⟨Nat.zero_le _, Nat.zero_le _⟩ (fun r1664 H locs hp hI hS => ?_)
    have hp := hp.symm
    subst hp
    have hpost : True := trivial
    rw [hQ]
    exact W.iret (v := (-1)) hx hb hr (fun t ht hW => ⟨⟨(-1), (), rfl, hpost, by rw [ht]; exact hI, hN.warm hW, va_K.moved hW.alike hK⟩, hS.F ht⟩) hS.2.2 dX11_wish_28
  refine lv_iload_n hx hb dX11_wish_0 rfl (lv_at hl 1 rfl) ?_
  refine th_cSs (As := [.int x1]) (rest := []) (n := 1) (d := 0) ⟨hx, hb, hml, hown, hts⟩ (c_X11_isCell l s.heap x1) wd_401 wd_402 wd_1 wd_403 (by decide +kernel) ⟨by rw [hR]; exact Nat.le_of_ble_eq_true rfl, by rw [hR]; exact Nat.le_of_ble_eq_true rfl⟩ hN hS rfl hl.1 rfl (Nat.le_of_ble_eq_true rfl) dX11_wish_1 ⟨Nat.zero_le _, Nat.zero_le _⟩ (fun r1665 locs hp hS => ?_)
  rcases hp with ⟨rfl, hp⟩ | ⟨rfl, hp⟩
  · skip
    try simp only [rg, not_and, Int.not_le] at hp
    have hp1666 := hp
    refine lv_if_eq (tgt := 23) hx hb dX11_wish_4 (by decide) (fun c => absurd c (by decide)) (fun _ => ?_)
    refine lv_iload_n hx hb dX11_wish_7 rfl (lv_at hl 3 rfl) ?_
    refine th_cSs (As := [.int x3]) (rest := []) (n := 1) (d := 0) ⟨hx, hb, hml, hown, hts⟩ (c_X11_isPlace l s.heap x3) wd_847 wd_848 wd_1 wd_849 (by decide +kernel) ⟨by rw [hR]; exact Nat.le_of_ble_eq_true rfl, by rw [hR]; exact Nat.le_of_ble_eq_true rfl⟩ hN hS rfl hl.1 rfl (Nat.le_of_ble_eq_true rfl) dX11_wish_8 ⟨Nat.zero_le _, Nat.zero_le _⟩ (fun r1667 locs hp hS => ?_)
    rcases hp with ⟨rfl, hp⟩ | ⟨rfl, hp⟩
    · skip
      try simp only [rg, not_and, Int.not_le] at hp
      have hp1668 := hp
      refine lv_if_eq (tgt := 23) hx hb dX11_wish_11 (by decide) (fun c => absurd c (by decide)) (fun _ => ?_)
      refine lv_iload_n hx hb dX11_wish_14 rfl (lv_at hl 2 rfl) ?_
      refine lv_iload hx hb dX11_wish_15 (lv_at hl 4 rfl) ?_
      refine th_cSs (As := [.int x2, .int x4]) (rest := []) (n := 2) (d := 1) ⟨hx, hb, hml, hown, hts⟩ (c_X11_isSpan l s.heap x2 x4) wd_463 wd_464 wd_1 wd_465 (by decide +kernel) ⟨by rw [hR]; exact Nat.le_of_ble_eq_true rfl, by rw [hR]; exact Nat.le_of_ble_eq_true rfl⟩ hN hS rfl hl.1 rfl (Nat.le_of_ble_eq_true rfl) dX11_wish_17 ⟨Nat.zero_le _, Nat.zero_le _⟩ (fun r1669 locs hp hS => ?_)
      rcases hp with ⟨rfl, hp⟩ | ⟨rfl, hp⟩
      · skip
        try simp only [rg, not_and, Int.not_le] at hp
        have hp1670 := hp
        refine lv_if_ne (tgt := 29) hx hb dX11_wish_20 (by decide) (fun _ => ?_) (fun c => absurd c (by decide))
        refine lv_aload_n hx hb dX11_wish_29 rfl (lv_at hl 0 rfl) ?_
        obtain ⟨a1671, a1674, a1676, a1678, a1680, a1682, a1684, a1686, a1688, a1690, a1692, w1694, w1697, w1698, w1699, w1700, hO, hq1672, hq1673, hq1675, hq1677, hq1679, hq1681, hq1683, hq1685, hq1687, hq1689, hq1691, hq1693, ⟨k1695, k1696⟩, k1701⟩ := op_15 hI hG0 List.not_mem_nil
        have hI := th_I.weak (a := h0) hI
        refine th_get hx hb hts inT11 hown hK hO rfl 0 (by decide) (hts _ (tb_c wd_345)) rfl rfl dX11_wish_30 ?_
        have hI := th_I.close hI hG0 hO (ok_15 hq1672 hq1673 hq1675 hq1677 hq1679 hq1681 hq1683 hq1685 hq1687 hq1689 hq1691 hq1693 ⟨by omega, by omega⟩ k1701)
        obtain ⟨a1702, a1704, a1706, a1708, a1710, a1712, a1714, a1716, a1718, a1720, w1722, w1725, w1726, w1727, hO, hq1703, hq1705, hq1707, hq1709, hq1711, hq1713, hq1715, hq1717, hq1719, hq1721, ⟨k1723, k1724⟩, k1728⟩ := op_6 hI hq1672 List.not_mem_nil
        have hI := th_I.weak (a := a1671) hI
        refine th_getN hx hb hts inT6 hown hK hN hO rfl 8 (by decide) wn_80 rfl rfl dX11_wish_33 ?_
        have hI := th_I.close hI hq1672 hO (ok_6 hq1703 hq1705 hq1707 hq1709 hq1711 hq1713 hq1715 hq1717 hq1719 hq1721 ⟨by omega, by omega⟩ k1728)
        obtain ⟨a1730, w1732, hO, hq1731, ⟨k1733, k1734⟩, k1735⟩ := op_4 hI hq1719 List.not_mem_nil
        have hI := th_I.weak (a := a1718) hI
        have k1736 : (nI (6 % 32)).toInt = ((6 % 32 : Nat) : Int) := nI_toInt (by omega)
        have k1737 := k1735.1
        refine th_cVs (As := []) (rest := []) (n := 0) (d := 0) ⟨hx, hb, hml, hown, hts⟩ (c_X4_isFull l E D s.heap a1718 (6 % 32) a1730 w1732 hO (by omega) (by omega) (by omega)) wd_481 wd_482 wd_483 wd_3 wd_484 (by decide +kernel) ⟨by rw [hR]; exact Nat.le_of_ble_eq_true rfl, by rw [hR]; exact Nat.le_of_ble_eq_true rfl⟩ hN hK hS ⟨_, hO⟩ rfl rfl hl.1 rfl (Nat.le_of_ble_eq_true rfl) dX11_wish_36 ⟨Nat.zero_le _, Nat.zero_le _⟩ (fun r1729 locs hp hS => ?_)
        rcases hp with ⟨rfl, hp⟩ | ⟨rfl, hp⟩
        · skip
          try simp only [rg, not_and, Int.not_le] at hp
          have hp1738 := hp
          refine lv_if_eq (tgt := 49) hx hb dX11_wish_39 (by decide) (fun c => absurd c (by decide)) (fun _ => ?_)
          refine lv_aload_n hx hb dX11_wish_42 rfl (lv_at hl 0 rfl) ?_
          refine lv_bipush (v := (-5)) hx hb dX11_wish_43 (by decide) ?_
          have hI := th_I.close hI hq1719 hO (ok_4 hq1731 ⟨by omega, by omega⟩ k1735)
          refine th_cVi (As := [.int (-5)]) (rest := []) (n := 1) (d := 0) ⟨hx, hb, hml, hown, hts⟩ (c_X11_refuse l E D G h0 (n) hG0 (-5)) wd_407 wd_409 wp_0 wd_1 wd_410 (by decide +kernel) ⟨by rw [hR]; exact Nat.le_of_ble_eq_true rfl, by rw [hR]; exact Nat.le_of_ble_eq_true rfl⟩ hI hN hK hS (rc_15 hI hG0 List.not_mem_nil) rfl rfl hl.1 rfl (Nat.le_of_ble_eq_true rfl) dX11_wish_45 ⟨Nat.zero_le _, Nat.zero_le _⟩ (fun r1739 H locs hp hI hS => ?_)
          have hp := hp.symm
          subst hp
          have hpost : True := trivial
          rw [hQ]
          exact W.iret (v := (-5)) hx hb hr (fun t ht hW => ⟨⟨(-5), (), rfl, hpost, by rw [ht]; exact hI, hN.warm hW, va_K.moved hW.alike hK⟩, hS.F ht⟩) hS.2.2 dX11_wish_48
        · skip
          have hp1740 := hp
          refine lv_if_eq (tgt := 49) hx hb dX11_wish_39 (by decide) (fun _ => ?_) (fun c => absurd c (by decide))
          refine lv_aload_n hx hb dX11_wish_49 rfl (lv_at hl 0 rfl) ?_
          have hI := th_I.close hI hq1719 hO (ok_4 hq1731 ⟨by omega, by omega⟩ k1735)
          obtain ⟨a1741, a1744, a1746, a1748, a1750, a1752, a1754, a1756, a1758, a1760, a1762, w1764, w1767, w1768, w1769, w1770, hO, hq1742, hq1743, hq1745, hq1747, hq1749, hq1751, hq1753, hq1755, hq1757, hq1759, hq1761, hq1763, ⟨k1765, k1766⟩, k1771⟩ := op_15 hI hG0 List.not_mem_nil
          have hI := th_I.weak (a := h0) hI
          refine th_get hx hb hts inT11 hown hK hO rfl 0 (by decide) (hts _ (tb_c wd_345)) rfl rfl dX11_wish_50 ?_
          have hI := th_I.close hI hG0 hO (ok_15 hq1742 hq1743 hq1745 hq1747 hq1749 hq1751 hq1753 hq1755 hq1757 hq1759 hq1761 hq1763 ⟨by omega, by omega⟩ k1771)
          obtain ⟨a1772, a1774, a1776, a1778, a1780, a1782, a1784, a1786, a1788, a1790, w1792, w1795, w1796, w1797, hO, hq1773, hq1775, hq1777, hq1779, hq1781, hq1783, hq1785, hq1787, hq1789, hq1791, ⟨k1793, k1794⟩, k1798⟩ := op_6 hI hq1742 List.not_mem_nil
          have hI := th_I.weak (a := a1741) hI
          refine th_getN hx hb hts inT6 hown hK hN hO rfl 8 (by decide) wn_80 rfl rfl dX11_wish_53 ?_
          refine lv_iload_n hx hb dX11_wish_56 rfl (lv_at hl 1 rfl) ?_
          refine lv_iload_n hx hb dX11_wish_57 rfl (lv_at hl 2 rfl) ?_
          refine lv_iload_n hx hb dX11_wish_58 rfl (lv_at hl 3 rfl) ?_
          refine lv_iload hx hb dX11_wish_59 (lv_at hl 4 rfl) ?_
          have hI := th_I.close hI hq1742 hO (ok_6 hq1773 hq1775 hq1777 hq1779 hq1781 hq1783 hq1785 hq1787 hq1789 hq1791 ⟨by omega, by omega⟩ k1798)
          refine th_cVi (As := [.int x1, .int x2, .int x3, .int x4]) (rest := []) (n := 4) (d := 1) ⟨hx, hb, hml, hown, hts⟩ (c_X4_put l E D G a1788 (6) hq1789 x1 x2 x3 x4 (by decide)) wd_485 wd_486 wd_487 wd_3 wd_488 (by decide +kernel) ⟨by rw [hR]; exact Nat.le_of_ble_eq_true rfl, by rw [hR]; exact Nat.le_of_ble_eq_true rfl⟩ hI hN hK hS (rc_4 hI hq1789 List.not_mem_nil) rfl rfl hl.1 rfl (Nat.le_of_ble_eq_true rfl) dX11_wish_61 ⟨Nat.zero_le _, Nat.zero_le _⟩ (fun r1799 H locs hp hI hS => ?_)
          refine lv_pop hx hb dX11_wish_64 rfl ?_
          refine lv_aload_n hx hb dX11_wish_65 rfl (lv_at hl 0 rfl) ?_
          refine th_cVv (As := []) (rest := []) (n := 0) (d := 1) ⟨hx, hb, hml, hown, hts⟩ (c_X11_turnLists l E D G h0 (n) hG0 ) wd_431 wd_433 wp_2 wd_1 wd_434 (by decide +kernel) ⟨by rw [hR]; exact Nat.le_of_ble_eq_true rfl, by rw [hR]; exact Nat.le_of_ble_eq_true rfl⟩ hI hN hK hS (rc_15 hI hG0 List.not_mem_nil) rfl rfl hl.1 rfl (Nat.le_of_ble_eq_true rfl) dX11_wish_66 ⟨Nat.zero_le _, Nat.zero_le _⟩ (fun H locs hI hS => ?_)
          refine lv_aload_n hx hb dX11_wish_69 rfl (lv_at hl 0 rfl) ?_
          refine lv_aload_n hx hb dX11_wish_70 rfl (lv_at hl 0 rfl) ?_
          obtain ⟨a1801, a1804, a1806, a1808, a1810, a1812, a1814, a1816, a1818, a1820, a1822, w1824, w1827, w1828, w1829, w1830, hO, hq1802, hq1803, hq1805, hq1807, hq1809, hq1811, hq1813, hq1815, hq1817, hq1819, hq1821, hq1823, ⟨k1825, k1826⟩, k1831⟩ := op_15 hI hG0 List.not_mem_nil
          have hI := th_I.weak (a := h0) hI
          refine th_get hx hb hts inT11 hown hK hO rfl 0 (by decide) (hts _ (tb_c wd_345)) rfl rfl dX11_wish_71 ?_
          have hI := th_I.close hI hG0 hO (ok_15 hq1802 hq1803 hq1805 hq1807 hq1809 hq1811 hq1813 hq1815 hq1817 hq1819 hq1821 hq1823 ⟨by omega, by omega⟩ k1831)
          obtain ⟨a1832, a1834, a1836, a1838, a1840, a1842, a1844, a1846, a1848, a1850, w1852, w1855, w1856, w1857, hO, hq1833, hq1835, hq1837, hq1839, hq1841, hq1843, hq1845, hq1847, hq1849, hq1851, ⟨k1853, k1854⟩, k1858⟩ := op_6 hI hq1802 List.not_mem_nil
          have hI := th_I.weak (a := a1801) hI
          refine th_getN hx hb hts inT6 hown hK hN hO rfl 8 (by decide) wn_80 rfl rfl dX11_wish_74 ?_
          have hI := th_I.close hI hq1802 hO (ok_6 hq1833 hq1835 hq1837 hq1839 hq1841 hq1843 hq1845 hq1847 hq1849 hq1851 ⟨by omega, by omega⟩ k1858)
          obtain ⟨a1860, w1862, hO, hq1861, ⟨k1863, k1864⟩, k1865⟩ := op_4 hI hq1849 List.not_mem_nil
          have hI := th_I.weak (a := a1848) hI
          have k1866 : (nI (6 % 32)).toInt = ((6 % 32 : Nat) : Int) := nI_toInt (by omega)
          have k1867 := k1865.1
          refine th_cVs (As := []) (rest := [.ref h0]) (n := 0) (d := 0) ⟨hx, hb, hml, hown, hts⟩ (c_X4_size l E D H a1848 (6 % 32) a1860 w1862 hO (by omega) (by omega) (by omega)) wd_506 wd_507 wd_508 wd_3 wd_509 (by decide +kernel) ⟨by rw [hR]; exact Nat.le_of_ble_eq_true rfl, by rw [hR]; exact Nat.le_of_ble_eq_true rfl⟩ hN hK hS ⟨_, hO⟩ rfl rfl hl.1 rfl (Nat.le_of_ble_eq_true rfl) dX11_wish_77 ⟨Nat.zero_le _, Nat.zero_le _⟩ (fun r1859 locs hp hS => ?_)
          have hp := hp.symm
          subst hp
          have hI := th_I.close hI hq1849 hO (ok_4 hq1861 ⟨by omega, by omega⟩ k1865)
          refine th_cVi (As := [.int w1862]) (rest := []) (n := 1) (d := 0) ⟨hx, hb, hml, hown, hts⟩ (c_X11_accept l E D G h0 (n) hG0 w1862) wd_447 wd_449 wp_3 wd_1 wd_450 (by decide +kernel) ⟨by rw [hR]; exact Nat.le_of_ble_eq_true rfl, by rw [hR]; exact Nat.le_of_ble_eq_true rfl⟩ hI hN hK hS (rc_15 hI hG0 List.not_mem_nil) rfl rfl hl.1 rfl (Nat.le_of_ble_eq_true rfl) dX11_wish_80 ⟨Nat.zero_le _, Nat.zero_le _⟩ (fun r1868 H locs hp hI hS => ?_)
          have hp := hp.symm
          subst hp
          have hpost : True := trivial
          rw [hQ]
          exact W.iret (v := w1862) hx hb hr (fun t ht hW => ⟨⟨w1862, (), rfl, hpost, by rw [ht]; exact hI, hN.warm hW, va_K.moved hW.alike hK⟩, hS.F ht⟩) hS.2.2 dX11_wish_83
      · skip
        try simp only [rg, not_and, Int.not_le] at hp
        have hp1869 := hp
        refine lv_if_ne (tgt := 29) hx hb dX11_wish_20 (by decide) (fun c => absurd c (by decide)) (fun _ => ?_)
        exact J_23 s.heap locs ls  (lv_sub hl [0, 1, 2, 3, 4] rfl)  hI hS
    · skip
      try simp only [rg, not_and, Int.not_le] at hp
      have hp1870 := hp
      refine lv_if_eq (tgt := 23) hx hb dX11_wish_11 (by decide) (fun _ => ?_) (fun c => absurd c (by decide))
      exact J_23 s.heap locs ls  (lv_sub hl [0, 1, 2, 3, 4] rfl)  hI hS
  · skip
    try simp only [rg, not_and, Int.not_le] at hp
    have hp1871 := hp
    refine lv_if_eq (tgt := 23) hx hb dX11_wish_4 (by decide) (fun _ => ?_) (fun c => absurd c (by decide))
    exact J_23 s.heap locs ls  (lv_sub hl [0, 1, 2, 3, 4] rfl)  hI hS
theorem dX11_drop_0g : (decode cX11_drop 0 = .ok (.aload_n 0, 1)) ∧ (decode cX11_drop 1 = .ok (.invokevirtual 191, 3)) ∧ (decode cX11_drop 4 = .ok (.aload_n 0, 1)) ∧ (decode cX11_drop 5 = .ok (.getfield 12, 3)) ∧ (decode cX11_drop 8 = .ok (.getfield 322, 3)) ∧ (decode cX11_drop 11 = .ok (.invokevirtual 295, 3)) ∧ (decode cX11_drop 14 = .ok (.ireturn, 1)) := by decide +kernel
theorem dX11_drop_0 : decode cX11_drop 0 = .ok (.aload_n 0, 1) := dX11_drop_0g.1
theorem dX11_drop_1 : decode cX11_drop 1 = .ok (.invokevirtual 191, 3) := dX11_drop_0g.2.1
theorem dX11_drop_4 : decode cX11_drop 4 = .ok (.aload_n 0, 1) := dX11_drop_0g.2.2.1
theorem dX11_drop_5 : decode cX11_drop 5 = .ok (.getfield 12, 3) := dX11_drop_0g.2.2.2.1
theorem dX11_drop_8 : decode cX11_drop 8 = .ok (.getfield 322, 3) := dX11_drop_0g.2.2.2.2.1
theorem dX11_drop_11 : decode cX11_drop 11 = .ok (.invokevirtual 295, 3) := dX11_drop_0g.2.2.2.2.2.1
theorem dX11_drop_14 : decode cX11_drop 14 = .ok (.ireturn, 1) := dX11_drop_0g.2.2.2.2.2.2
set_option maxHeartbeats 4000000 in
set_option maxRecDepth 100000 in
theorem c_X11_drop (l : Launch) (E : Nat → Nat) (D : va_G) (G : th_G) (h0 n : Nat) (hG0 : G h0 = some (15, n)) : Met l yX11_drop (tb (.code yX11_drop cX11_drop 1 (some .int))) (rm 2) (va_Pc [.ref h0] (th_P E D G)) (QI E D G (fun r => True)) 0 0 (th_A G) := by
  refine Met.ofW (cc := cX11_drop) (maxL := 1) (ret := (some .int)) (by decide) rfl ?_
  intro p e s m args below meth c s₁ B hml hv
  obtain ⟨hav, hI, hN, hK⟩ := hv
  have hx := B.exec
  have hb := B.bytes
  have hr := B.returns
  have hts := atoms_spec (ws := tb (.code yX11_drop cX11_drop 1 (some .int))) B.pre
  have hown : s.vm.findClass RX11 = some m.cls := findClass_of_methodNamed B.named
  have hlocks := B.notSynchronized
  have hS : va_S (th_A G) s.heap s.heap [] := va_S.rf
  have hl := lv_entry ([.ref h0]) (n := 1) (Nat.le_of_ble_eq_true rfl)
  rw [show entryFrame m args 1 = entryFrame m ([.ref h0] : List Value).toArray 1 from by rw [hav], lg_entry_eq]
  generalize (lg_sl ([.ref h0]) ++ List.replicate (1 - (lg_sl ([.ref h0])).length) Slot.unset).toArray = ls at hl ⊢
  have hl : lv_has ls 1 [(0, .ref h0)] := hl
  generalize hR : (headSpec (tb (.code yX11_drop cX11_drop 1 (some .int))) (rm 2)).room = R
  have hR := hR.symm
  generalize hQ : MQ below (QI E D G (fun r => True)) args s 0 0 (th_A G) = QF
  have hQ := hQ.symm
  refine lv_aload_n hx hb dX11_drop_0 rfl (lv_at hl 0 rfl) ?_
  refine th_cVv (As := []) (rest := []) (n := 0) (d := 1) ⟨hx, hb, hml, hown, hts⟩ (c_X11_turnLists l E D G h0 (n) hG0 ) wd_431 wd_433 wp_2 wd_1 wd_434 (by decide +kernel) ⟨by rw [hR]; exact Nat.le_of_ble_eq_true rfl, by rw [hR]; exact Nat.le_of_ble_eq_true rfl⟩ hI hN hK hS (rc_15 hI hG0 List.not_mem_nil) rfl rfl hl.1 rfl (Nat.le_of_ble_eq_true rfl) dX11_drop_1 ⟨Nat.zero_le _, Nat.zero_le _⟩ (fun H locs hI hS => ?_)
  refine lv_aload_n hx hb dX11_drop_4 rfl (lv_at hl 0 rfl) ?_
  obtain ⟨a2, a5, a7, a9, a11, a13, a15, a17, a19, a21, a23, w25, w28, w29, w30, w31, hO, hq3, hq4, hq6, hq8, hq10, hq12, hq14, hq16, hq18, hq20, hq22, hq24, ⟨k26, k27⟩, k32⟩ := op_15 hI hG0 List.not_mem_nil
  have hI := th_I.weak (a := h0) hI
  refine th_get hx hb hts inT11 hown hK hO rfl 0 (by decide) (hts _ (tb_c wd_345)) rfl rfl dX11_drop_5 ?_
  have hI := th_I.close hI hG0 hO (ok_15 hq3 hq4 hq6 hq8 hq10 hq12 hq14 hq16 hq18 hq20 hq22 hq24 ⟨by omega, by omega⟩ k32)
  obtain ⟨a33, a35, a37, a39, a41, a43, a45, a47, a49, a51, w53, w56, w57, w58, hO, hq34, hq36, hq38, hq40, hq42, hq44, hq46, hq48, hq50, hq52, ⟨k54, k55⟩, k59⟩ := op_6 hI hq3 List.not_mem_nil
  have hI := th_I.weak (a := a2) hI
  refine th_getN hx hb hts inT6 hown hK hN hO rfl 8 (by decide) wn_80 rfl rfl dX11_drop_8 ?_
  have hI := th_I.close hI hq3 hO (ok_6 hq34 hq36 hq38 hq40 hq42 hq44 hq46 hq48 hq50 hq52 ⟨by omega, by omega⟩ k59)
  refine th_cVi (As := []) (rest := []) (n := 0) (d := 0) ⟨hx, hb, hml, hown, hts⟩ (c_X4_clear l E D G a49 (6) hq50  (by decide)) wd_983 wd_984 wd_985 wd_3 wd_986 (by decide +kernel) ⟨by rw [hR]; exact Nat.le_of_ble_eq_true rfl, by rw [hR]; exact Nat.le_of_ble_eq_true rfl⟩ hI hN hK hS (rc_4 hI hq50 List.not_mem_nil) rfl rfl hl.1 rfl (Nat.le_of_ble_eq_true rfl) dX11_drop_11 ⟨Nat.zero_le _, Nat.zero_le _⟩ (fun r60 H locs hp hI hS => ?_)
  have hpost : True := trivial
  rw [hQ]
  exact W.iret (v := r60) hx hb hr (fun t ht hW => ⟨⟨r60, (), rfl, hpost, by rw [ht]; exact hI, hN.warm hW, va_K.moved hW.alike hK⟩, hS.F ht⟩) hS.2.2 dX11_drop_14
theorem dX11_granted_0g : (decode cX11_granted 0 = .ok (.aload_n 0, 1)) ∧ (decode cX11_granted 1 = .ok (.getfield 85, 3)) ∧ (decode cX11_granted 4 = .ok (.invokevirtual 325, 3)) ∧ (decode cX11_granted 7 = .ok (.ireturn, 1)) := by decide +kernel
theorem dX11_granted_0 : decode cX11_granted 0 = .ok (.aload_n 0, 1) := dX11_granted_0g.1
theorem dX11_granted_1 : decode cX11_granted 1 = .ok (.getfield 85, 3) := dX11_granted_0g.2.1
theorem dX11_granted_4 : decode cX11_granted 4 = .ok (.invokevirtual 325, 3) := dX11_granted_0g.2.2.1
theorem dX11_granted_7 : decode cX11_granted 7 = .ok (.ireturn, 1) := dX11_granted_0g.2.2.2
set_option maxHeartbeats 4000000 in
set_option maxRecDepth 100000 in
theorem c_X11_granted (l : Launch) (E : Nat → Nat) (D : va_G) (G : th_G) (h0 n : Nat) (hG0 : G h0 = some (15, n)) : Met l yX11_granted (tb (.code yX11_granted cX11_granted 1 (some .int))) (rm 7) (va_Pc [.ref h0] (th_P E D G)) (QI E D G (fun r => True)) 0 0 (th_A G) := by
  refine Met.ofW (cc := cX11_granted) (maxL := 1) (ret := (some .int)) (by decide) rfl ?_
  intro p e s m args below meth c s₁ B hml hv
  obtain ⟨hav, hI, hN, hK⟩ := hv
  have hx := B.exec
  have hb := B.bytes
  have hr := B.returns
  have hts := atoms_spec (ws := tb (.code yX11_granted cX11_granted 1 (some .int))) B.pre
  have hown : s.vm.findClass RX11 = some m.cls := findClass_of_methodNamed B.named
  have hlocks := B.notSynchronized
  have hS : va_S (th_A G) s.heap s.heap [] := va_S.rf
  have hl := lv_entry ([.ref h0]) (n := 1) (Nat.le_of_ble_eq_true rfl)
  rw [show entryFrame m args 1 = entryFrame m ([.ref h0] : List Value).toArray 1 from by rw [hav], lg_entry_eq]
  generalize (lg_sl ([.ref h0]) ++ List.replicate (1 - (lg_sl ([.ref h0])).length) Slot.unset).toArray = ls at hl ⊢
  have hl : lv_has ls 1 [(0, .ref h0)] := hl
  generalize hR : (headSpec (tb (.code yX11_granted cX11_granted 1 (some .int))) (rm 7)).room = R
  have hR := hR.symm
  generalize hQ : MQ below (QI E D G (fun r => True)) args s 0 0 (th_A G) = QF
  have hQ := hQ.symm
  refine lv_aload_n hx hb dX11_granted_0 rfl (lv_at hl 0 rfl) ?_
  obtain ⟨a1, a4, a6, a8, a10, a12, a14, a16, a18, a20, a22, w24, w27, w28, w29, w30, hO, hq2, hq3, hq5, hq7, hq9, hq11, hq13, hq15, hq17, hq19, hq21, hq23, ⟨k25, k26⟩, k31⟩ := op_15 hI hG0 List.not_mem_nil
  have hI := th_I.weak (a := h0) hI
  refine th_get hx hb hts inT11 hown hK hO rfl 11 (by decide) (hts _ (tb_c wd_356)) rfl rfl dX11_granted_1 ?_
  have hI := th_I.close hI hG0 hO (ok_15 hq2 hq3 hq5 hq7 hq9 hq11 hq13 hq15 hq17 hq19 hq21 hq23 ⟨by omega, by omega⟩ k31)
  refine th_cVi (As := []) (rest := []) (n := 0) (d := 6) ⟨hx, hb, hml, hown, hts⟩ (c_X10_grantedNow l E D G a22 hq23 ) wd_1134 wd_1135 wd_1136 wd_12 wd_1137 (by decide +kernel) ⟨by rw [hR]; exact Nat.le_of_ble_eq_true rfl, by rw [hR]; exact Nat.le_of_ble_eq_true rfl⟩ hI hN hK hS (rc_14 hI hq23 List.not_mem_nil) rfl rfl hl.1 rfl (Nat.le_of_ble_eq_true rfl) dX11_granted_4 ⟨Nat.zero_le _, Nat.zero_le _⟩ (fun r32 H locs hp hI hS => ?_)
  have hpost : True := trivial
  rw [hQ]
  exact W.iret (v := r32) hx hb hr (fun t ht hW => ⟨⟨r32, (), rfl, hpost, by rw [ht]; exact hI, hN.warm hW, va_K.moved hW.alike hK⟩, hS.F ht⟩) hS.2.2 dX11_granted_7
theorem dX11_best_0g : (decode cX11_best 0 = .ok (.iload_n 1, 1)) ∧ (decode cX11_best 1 = .ok (.invokestatic 117, 3)) ∧ (decode cX11_best 4 = .ok (.ifCond .ne 5, 3)) ∧ (decode cX11_best 7 = .ok (.iconst (-1), 1)) ∧ (decode cX11_best 8 = .ok (.ireturn, 1)) ∧ (decode cX11_best 9 = .ok (.aload_n 0, 1)) ∧ (decode cX11_best 10 = .ok (.getfield 85, 3)) ∧ (decode cX11_best 13 = .ok (.iload_n 1, 1)) ∧ (decode cX11_best 14 = .ok (.invokevirtual 328, 3)) ∧ (decode cX11_best 17 = .ok (.aload_n 0, 1)) := by decide +kernel
theorem dX11_best_0 : decode cX11_best 0 = .ok (.iload_n 1, 1) := dX11_best_0g.1
theorem dX11_best_1 : decode cX11_best 1 = .ok (.invokestatic 117, 3) := dX11_best_0g.2.1
theorem dX11_best_4 : decode cX11_best 4 = .ok (.ifCond .ne 5, 3) := dX11_best_0g.2.2.1
theorem dX11_best_7 : decode cX11_best 7 = .ok (.iconst (-1), 1) := dX11_best_0g.2.2.2.1
theorem dX11_best_8 : decode cX11_best 8 = .ok (.ireturn, 1) := dX11_best_0g.2.2.2.2.1
theorem dX11_best_9 : decode cX11_best 9 = .ok (.aload_n 0, 1) := dX11_best_0g.2.2.2.2.2.1
theorem dX11_best_10 : decode cX11_best 10 = .ok (.getfield 85, 3) := dX11_best_0g.2.2.2.2.2.2.1
theorem dX11_best_13 : decode cX11_best 13 = .ok (.iload_n 1, 1) := dX11_best_0g.2.2.2.2.2.2.2.1
theorem dX11_best_14 : decode cX11_best 14 = .ok (.invokevirtual 328, 3) := dX11_best_0g.2.2.2.2.2.2.2.2.1
theorem dX11_best_17 : decode cX11_best 17 = .ok (.aload_n 0, 1) := dX11_best_0g.2.2.2.2.2.2.2.2.2
theorem dX11_best_18g : (decode cX11_best 18 = .ok (.getfield 85, 3)) ∧ (decode cX11_best 21 = .ok (.iload_n 2, 1)) ∧ (decode cX11_best 22 = .ok (.invokevirtual 331, 3)) ∧ (decode cX11_best 25 = .ok (.ireturn, 1)) := by decide +kernel
theorem dX11_best_18 : decode cX11_best 18 = .ok (.getfield 85, 3) := dX11_best_18g.1
theorem dX11_best_21 : decode cX11_best 21 = .ok (.iload_n 2, 1) := dX11_best_18g.2.1
theorem dX11_best_22 : decode cX11_best 22 = .ok (.invokevirtual 331, 3) := dX11_best_18g.2.2.1
theorem dX11_best_25 : decode cX11_best 25 = .ok (.ireturn, 1) := dX11_best_18g.2.2.2
set_option maxHeartbeats 4000000 in
set_option maxRecDepth 100000 in
theorem c_X11_best (l : Launch) (E : Nat → Nat) (D : va_G) (G : th_G) (h0 n : Nat) (hG0 : G h0 = some (15, n)) (x1 x2 : Int32) : Met l yX11_best (tb (.code yX11_best cX11_best 3 (some .int))) (rm 8) (va_Pc [.ref h0, .int x1, .int x2] (th_P E D G)) (QI E D G (fun r => True)) 0 0 (th_A G) := by
  refine Met.ofW (cc := cX11_best) (maxL := 3) (ret := (some .int)) (by decide) rfl ?_
  intro p e s m args below meth c s₁ B hml hv
  obtain ⟨hav, hI, hN, hK⟩ := hv
  have hx := B.exec
  have hb := B.bytes
  have hr := B.returns
  have hts := atoms_spec (ws := tb (.code yX11_best cX11_best 3 (some .int))) B.pre
  have hown : s.vm.findClass RX11 = some m.cls := findClass_of_methodNamed B.named
  have hlocks := B.notSynchronized
  have hS : va_S (th_A G) s.heap s.heap [] := va_S.rf
  have hl := lv_entry ([.ref h0, .int x1, .int x2]) (n := 3) (Nat.le_of_ble_eq_true rfl)
  rw [show entryFrame m args 3 = entryFrame m ([.ref h0, .int x1, .int x2] : List Value).toArray 3 from by rw [hav], lg_entry_eq]
  generalize (lg_sl ([.ref h0, .int x1, .int x2]) ++ List.replicate (3 - (lg_sl ([.ref h0, .int x1, .int x2])).length) Slot.unset).toArray = ls at hl ⊢
  have hl : lv_has ls 3 [(0, .ref h0), (1, .int x1), (2, .int x2)] := hl
  generalize hR : (headSpec (tb (.code yX11_best cX11_best 3 (some .int))) (rm 8)).room = R
  have hR := hR.symm
  generalize hQ : MQ below (QI E D G (fun r => True)) args s 0 0 (th_A G) = QF
  have hQ := hQ.symm
  refine lv_iload_n hx hb dX11_best_0 rfl (lv_at hl 1 rfl) ?_
  refine th_cSs (As := [.int x1]) (rest := []) (n := 1) (d := 0) ⟨hx, hb, hml, hown, hts⟩ (c_X11_isPump l s.heap x1) wd_411 wd_412 wd_1 wd_413 (by decide +kernel) ⟨by rw [hR]; exact Nat.le_of_ble_eq_true rfl, by rw [hR]; exact Nat.le_of_ble_eq_true rfl⟩ hN hS rfl hl.1 rfl (Nat.le_of_ble_eq_true rfl) dX11_best_1 ⟨Nat.zero_le _, Nat.zero_le _⟩ (fun r1 locs hp hS => ?_)
  rcases hp with ⟨rfl, hp⟩ | ⟨rfl, hp⟩
  · skip
    try simp only [rg, not_and, Int.not_le] at hp
    have hp2 := hp
    refine lv_if_ne (tgt := 9) hx hb dX11_best_4 (by decide) (fun _ => ?_) (fun c => absurd c (by decide))
    refine lv_aload_n hx hb dX11_best_9 rfl (lv_at hl 0 rfl) ?_
    obtain ⟨a3, a6, a8, a10, a12, a14, a16, a18, a20, a22, a24, w26, w29, w30, w31, w32, hO, hq4, hq5, hq7, hq9, hq11, hq13, hq15, hq17, hq19, hq21, hq23, hq25, ⟨k27, k28⟩, k33⟩ := op_15 hI hG0 List.not_mem_nil
    have hI := th_I.weak (a := h0) hI
    refine th_get hx hb hts inT11 hown hK hO rfl 11 (by decide) (hts _ (tb_c wd_356)) rfl rfl dX11_best_10 ?_
    refine lv_iload_n hx hb dX11_best_13 rfl (lv_at hl 1 rfl) ?_
    have hI := th_I.close hI hG0 hO (ok_15 hq4 hq5 hq7 hq9 hq11 hq13 hq15 hq17 hq19 hq21 hq23 hq25 ⟨by omega, by omega⟩ k33)
    refine th_cVv (As := [.int x1]) (rest := []) (n := 1) (d := 7) ⟨hx, hb, hml, hown, hts⟩ (c_X10_tune l E D G a24 hq25 x1) wd_1145 wd_1146 wd_1147 wd_12 wd_1148 (by decide +kernel) ⟨by rw [hR]; exact Nat.le_of_ble_eq_true rfl, by rw [hR]; exact Nat.le_of_ble_eq_true rfl⟩ hI hN hK hS (rc_14 hI hq25 List.not_mem_nil) rfl rfl hl.1 rfl (Nat.le_of_ble_eq_true rfl) dX11_best_14 ⟨Nat.zero_le _, Nat.zero_le _⟩ (fun H locs hI hS => ?_)
    refine lv_aload_n hx hb dX11_best_17 rfl (lv_at hl 0 rfl) ?_
    obtain ⟨a35, a38, a40, a42, a44, a46, a48, a50, a52, a54, a56, w58, w61, w62, w63, w64, hO, hq36, hq37, hq39, hq41, hq43, hq45, hq47, hq49, hq51, hq53, hq55, hq57, ⟨k59, k60⟩, k65⟩ := op_15 hI hG0 List.not_mem_nil
    have hI := th_I.weak (a := h0) hI
    refine th_get hx hb hts inT11 hown hK hO rfl 11 (by decide) (hts _ (tb_c wd_356)) rfl rfl dX11_best_18 ?_
    refine lv_iload_n hx hb dX11_best_21 rfl (lv_at hl 2 rfl) ?_
    have hI := th_I.close hI hG0 hO (ok_15 hq36 hq37 hq39 hq41 hq43 hq45 hq47 hq49 hq51 hq53 hq55 hq57 ⟨by omega, by omega⟩ k65)
    refine th_cVi (As := [.int x2]) (rest := []) (n := 1) (d := 0) ⟨hx, hb, hml, hown, hts⟩ (c_X10_tuned l E D G a56 hq57 x2) wd_1168 wd_1169 wd_1170 wd_12 wd_1171 (by decide +kernel) ⟨by rw [hR]; exact Nat.le_of_ble_eq_true rfl, by rw [hR]; exact Nat.le_of_ble_eq_true rfl⟩ hI hN hK hS (rc_14 hI hq57 List.not_mem_nil) rfl rfl hl.1 rfl (Nat.le_of_ble_eq_true rfl) dX11_best_22 ⟨Nat.zero_le _, Nat.zero_le _⟩ (fun r66 H locs hp hI hS => ?_)
    have hpost : True := trivial
    rw [hQ]
    exact W.iret (v := r66) hx hb hr (fun t ht hW => ⟨⟨r66, (), rfl, hpost, by rw [ht]; exact hI, hN.warm hW, va_K.moved hW.alike hK⟩, hS.F ht⟩) hS.2.2 dX11_best_25
  · skip
    try simp only [rg, not_and, Int.not_le] at hp
    have hp67 := hp
    refine lv_if_ne (tgt := 9) hx hb dX11_best_4 (by decide) (fun c => absurd c (by decide)) (fun _ => ?_)
    refine lv_iconst (v := (-1)) hx hb dX11_best_7 (by decide) ?_
    have hpost : True := trivial
    rw [hQ]
    exact W.iret (v := (-1)) hx hb hr (fun t ht hW => ⟨⟨(-1), (), rfl, hpost, by rw [ht]; exact hI, hN.warm hW, va_K.moved hW.alike hK⟩, hS.F ht⟩) hS.2.2 dX11_best_8
theorem dX11_set_0g : (decode cX11_set 0 = .ok (.iload_n 1, 1)) ∧ (decode cX11_set 1 = .ok (.invokestatic 117, 3)) ∧ (decode cX11_set 4 = .ok (.ifCond .ne 10, 3)) ∧ (decode cX11_set 7 = .ok (.aload_n 0, 1)) ∧ (decode cX11_set 8 = .ok (.bipush (-2), 2)) ∧ (decode cX11_set 10 = .ok (.invokevirtual 113, 3)) ∧ (decode cX11_set 13 = .ok (.ireturn, 1)) ∧ (decode cX11_set 14 = .ok (.aload_n 0, 1)) ∧ (decode cX11_set 15 = .ok (.getfield 85, 3)) ∧ (decode cX11_set 18 = .ok (.iload_n 1, 1)) := by decide +kernel
theorem dX11_set_0 : decode cX11_set 0 = .ok (.iload_n 1, 1) := dX11_set_0g.1
theorem dX11_set_1 : decode cX11_set 1 = .ok (.invokestatic 117, 3) := dX11_set_0g.2.1
theorem dX11_set_4 : decode cX11_set 4 = .ok (.ifCond .ne 10, 3) := dX11_set_0g.2.2.1
theorem dX11_set_7 : decode cX11_set 7 = .ok (.aload_n 0, 1) := dX11_set_0g.2.2.2.1
theorem dX11_set_8 : decode cX11_set 8 = .ok (.bipush (-2), 2) := dX11_set_0g.2.2.2.2.1
theorem dX11_set_10 : decode cX11_set 10 = .ok (.invokevirtual 113, 3) := dX11_set_0g.2.2.2.2.2.1
theorem dX11_set_13 : decode cX11_set 13 = .ok (.ireturn, 1) := dX11_set_0g.2.2.2.2.2.2.1
theorem dX11_set_14 : decode cX11_set 14 = .ok (.aload_n 0, 1) := dX11_set_0g.2.2.2.2.2.2.2.1
theorem dX11_set_15 : decode cX11_set 15 = .ok (.getfield 85, 3) := dX11_set_0g.2.2.2.2.2.2.2.2.1
theorem dX11_set_18 : decode cX11_set 18 = .ok (.iload_n 1, 1) := dX11_set_0g.2.2.2.2.2.2.2.2.2
theorem dX11_set_19g : (decode cX11_set 19 = .ok (.invokevirtual 328, 3)) ∧ (decode cX11_set 22 = .ok (.aload_n 0, 1)) ∧ (decode cX11_set 23 = .ok (.getfield 85, 3)) ∧ (decode cX11_set 26 = .ok (.iconst 1, 1)) ∧ (decode cX11_set 27 = .ok (.invokevirtual 331, 3)) ∧ (decode cX11_set 30 = .ok (.istore_n 2, 1)) ∧ (decode cX11_set 31 = .ok (.aload_n 0, 1)) ∧ (decode cX11_set 32 = .ok (.getfield 12, 3)) ∧ (decode cX11_set 35 = .ok (.iload_n 1, 1)) ∧ (decode cX11_set 36 = .ok (.iload_n 2, 1)) := by decide +kernel
theorem dX11_set_19 : decode cX11_set 19 = .ok (.invokevirtual 328, 3) := dX11_set_19g.1
theorem dX11_set_22 : decode cX11_set 22 = .ok (.aload_n 0, 1) := dX11_set_19g.2.1
theorem dX11_set_23 : decode cX11_set 23 = .ok (.getfield 85, 3) := dX11_set_19g.2.2.1
theorem dX11_set_26 : decode cX11_set 26 = .ok (.iconst 1, 1) := dX11_set_19g.2.2.2.1
theorem dX11_set_27 : decode cX11_set 27 = .ok (.invokevirtual 331, 3) := dX11_set_19g.2.2.2.2.1
theorem dX11_set_30 : decode cX11_set 30 = .ok (.istore_n 2, 1) := dX11_set_19g.2.2.2.2.2.1
theorem dX11_set_31 : decode cX11_set 31 = .ok (.aload_n 0, 1) := dX11_set_19g.2.2.2.2.2.2.1
theorem dX11_set_32 : decode cX11_set 32 = .ok (.getfield 12, 3) := dX11_set_19g.2.2.2.2.2.2.2.1
theorem dX11_set_35 : decode cX11_set 35 = .ok (.iload_n 1, 1) := dX11_set_19g.2.2.2.2.2.2.2.2.1
theorem dX11_set_36 : decode cX11_set 36 = .ok (.iload_n 2, 1) := dX11_set_19g.2.2.2.2.2.2.2.2.2
theorem dX11_set_37g : (decode cX11_set 37 = .ok (.iload_n 2, 1)) ∧ (decode cX11_set 38 = .ok (.aload_n 0, 1)) ∧ (decode cX11_set 39 = .ok (.getfield 85, 3)) ∧ (decode cX11_set 42 = .ok (.iconst 2, 1)) ∧ (decode cX11_set 43 = .ok (.invokevirtual 331, 3)) ∧ (decode cX11_set 46 = .ok (.iadd, 1)) ∧ (decode cX11_set 47 = .ok (.bipush 24, 2)) ∧ (decode cX11_set 49 = .ok (.irem, 1)) ∧ (decode cX11_set 50 = .ok (.invokevirtual 334, 3)) ∧ (decode cX11_set 53 = .ok (.aload_n 0, 1)) := by decide +kernel
theorem dX11_set_37 : decode cX11_set 37 = .ok (.iload_n 2, 1) := dX11_set_37g.1
theorem dX11_set_38 : decode cX11_set 38 = .ok (.aload_n 0, 1) := dX11_set_37g.2.1
theorem dX11_set_39 : decode cX11_set 39 = .ok (.getfield 85, 3) := dX11_set_37g.2.2.1
theorem dX11_set_42 : decode cX11_set 42 = .ok (.iconst 2, 1) := dX11_set_37g.2.2.2.1
theorem dX11_set_43 : decode cX11_set 43 = .ok (.invokevirtual 331, 3) := dX11_set_37g.2.2.2.2.1
theorem dX11_set_46 : decode cX11_set 46 = .ok (.iadd, 1) := dX11_set_37g.2.2.2.2.2.1
theorem dX11_set_47 : decode cX11_set 47 = .ok (.bipush 24, 2) := dX11_set_37g.2.2.2.2.2.2.1
theorem dX11_set_49 : decode cX11_set 49 = .ok (.irem, 1) := dX11_set_37g.2.2.2.2.2.2.2.1
theorem dX11_set_50 : decode cX11_set 50 = .ok (.invokevirtual 334, 3) := dX11_set_37g.2.2.2.2.2.2.2.2.1
theorem dX11_set_53 : decode cX11_set 53 = .ok (.aload_n 0, 1) := dX11_set_37g.2.2.2.2.2.2.2.2.2
theorem dX11_set_54g : (decode cX11_set 54 = .ok (.invokevirtual 124, 3)) ∧ (decode cX11_set 57 = .ok (.aload_n 0, 1)) ∧ (decode cX11_set 58 = .ok (.aload_n 0, 1)) ∧ (decode cX11_set 59 = .ok (.getfield 85, 3)) ∧ (decode cX11_set 62 = .ok (.iconst 0, 1)) ∧ (decode cX11_set 63 = .ok (.invokevirtual 331, 3)) ∧ (decode cX11_set 66 = .ok (.invokevirtual 127, 3)) ∧ (decode cX11_set 69 = .ok (.ireturn, 1)) := by decide +kernel
theorem dX11_set_54 : decode cX11_set 54 = .ok (.invokevirtual 124, 3) := dX11_set_54g.1
theorem dX11_set_57 : decode cX11_set 57 = .ok (.aload_n 0, 1) := dX11_set_54g.2.1
theorem dX11_set_58 : decode cX11_set 58 = .ok (.aload_n 0, 1) := dX11_set_54g.2.2.1
theorem dX11_set_59 : decode cX11_set 59 = .ok (.getfield 85, 3) := dX11_set_54g.2.2.2.1
theorem dX11_set_62 : decode cX11_set 62 = .ok (.iconst 0, 1) := dX11_set_54g.2.2.2.2.1
theorem dX11_set_63 : decode cX11_set 63 = .ok (.invokevirtual 331, 3) := dX11_set_54g.2.2.2.2.2.1
theorem dX11_set_66 : decode cX11_set 66 = .ok (.invokevirtual 127, 3) := dX11_set_54g.2.2.2.2.2.2.1
theorem dX11_set_69 : decode cX11_set 69 = .ok (.ireturn, 1) := dX11_set_54g.2.2.2.2.2.2.2
set_option maxHeartbeats 4000000 in
set_option maxRecDepth 100000 in
theorem c_X11_set (l : Launch) (E : Nat → Nat) (D : va_G) (G : th_G) (h0 n : Nat) (hG0 : G h0 = some (15, n)) (x1 : Int32) : Met l yX11_set (tb (.code yX11_set cX11_set 3 (some .int))) (rm 8) (va_Pc [.ref h0, .int x1] (th_P E D G)) (QI E D G (fun r => True)) 0 0 (th_A G) := by
  refine Met.ofW (cc := cX11_set) (maxL := 3) (ret := (some .int)) (by decide) rfl ?_
  intro p e s m args below meth c s₁ B hml hv
  obtain ⟨hav, hI, hN, hK⟩ := hv
  have hx := B.exec
  have hb := B.bytes
  have hr := B.returns
  have hts := atoms_spec (ws := tb (.code yX11_set cX11_set 3 (some .int))) B.pre
  have hown : s.vm.findClass RX11 = some m.cls := findClass_of_methodNamed B.named
  have hlocks := B.notSynchronized
  have hS : va_S (th_A G) s.heap s.heap [] := va_S.rf
  have hl := lv_entry ([.ref h0, .int x1]) (n := 3) (Nat.le_of_ble_eq_true rfl)
  rw [show entryFrame m args 3 = entryFrame m ([.ref h0, .int x1] : List Value).toArray 3 from by rw [hav], lg_entry_eq]
  generalize (lg_sl ([.ref h0, .int x1]) ++ List.replicate (3 - (lg_sl ([.ref h0, .int x1])).length) Slot.unset).toArray = ls at hl ⊢
  have hl : lv_has ls 3 [(0, .ref h0), (1, .int x1)] := hl
  generalize hR : (headSpec (tb (.code yX11_set cX11_set 3 (some .int))) (rm 8)).room = R
  have hR := hR.symm
  generalize hQ : MQ below (QI E D G (fun r => True)) args s 0 0 (th_A G) = QF
  have hQ := hQ.symm
  refine lv_iload_n hx hb dX11_set_0 rfl (lv_at hl 1 rfl) ?_
  refine th_cSs (As := [.int x1]) (rest := []) (n := 1) (d := 0) ⟨hx, hb, hml, hown, hts⟩ (c_X11_isPump l s.heap x1) wd_411 wd_412 wd_1 wd_413 (by decide +kernel) ⟨by rw [hR]; exact Nat.le_of_ble_eq_true rfl, by rw [hR]; exact Nat.le_of_ble_eq_true rfl⟩ hN hS rfl hl.1 rfl (Nat.le_of_ble_eq_true rfl) dX11_set_1 ⟨Nat.zero_le _, Nat.zero_le _⟩ (fun r1 locs hp hS => ?_)
  rcases hp with ⟨rfl, hp⟩ | ⟨rfl, hp⟩
  · skip
    try simp only [rg, not_and, Int.not_le] at hp
    have hp2 := hp
    refine lv_if_ne (tgt := 14) hx hb dX11_set_4 (by decide) (fun _ => ?_) (fun c => absurd c (by decide))
    refine lv_aload_n hx hb dX11_set_14 rfl (lv_at hl 0 rfl) ?_
    obtain ⟨a3, a6, a8, a10, a12, a14, a16, a18, a20, a22, a24, w26, w29, w30, w31, w32, hO, hq4, hq5, hq7, hq9, hq11, hq13, hq15, hq17, hq19, hq21, hq23, hq25, ⟨k27, k28⟩, k33⟩ := op_15 hI hG0 List.not_mem_nil
    have hI := th_I.weak (a := h0) hI
    refine th_get hx hb hts inT11 hown hK hO rfl 11 (by decide) (hts _ (tb_c wd_356)) rfl rfl dX11_set_15 ?_
    refine lv_iload_n hx hb dX11_set_18 rfl (lv_at hl 1 rfl) ?_
    have hI := th_I.close hI hG0 hO (ok_15 hq4 hq5 hq7 hq9 hq11 hq13 hq15 hq17 hq19 hq21 hq23 hq25 ⟨by omega, by omega⟩ k33)
    refine th_cVv (As := [.int x1]) (rest := []) (n := 1) (d := 7) ⟨hx, hb, hml, hown, hts⟩ (c_X10_tune l E D G a24 hq25 x1) wd_1145 wd_1146 wd_1147 wd_12 wd_1148 (by decide +kernel) ⟨by rw [hR]; exact Nat.le_of_ble_eq_true rfl, by rw [hR]; exact Nat.le_of_ble_eq_true rfl⟩ hI hN hK hS (rc_14 hI hq25 List.not_mem_nil) rfl rfl hl.1 rfl (Nat.le_of_ble_eq_true rfl) dX11_set_19 ⟨Nat.zero_le _, Nat.zero_le _⟩ (fun H locs hI hS => ?_)
    refine lv_aload_n hx hb dX11_set_22 rfl (lv_at hl 0 rfl) ?_
    obtain ⟨a35, a38, a40, a42, a44, a46, a48, a50, a52, a54, a56, w58, w61, w62, w63, w64, hO, hq36, hq37, hq39, hq41, hq43, hq45, hq47, hq49, hq51, hq53, hq55, hq57, ⟨k59, k60⟩, k65⟩ := op_15 hI hG0 List.not_mem_nil
    have hI := th_I.weak (a := h0) hI
    refine th_get hx hb hts inT11 hown hK hO rfl 11 (by decide) (hts _ (tb_c wd_356)) rfl rfl dX11_set_23 ?_
    refine lv_iconst (v := 1) hx hb dX11_set_26 (by decide) ?_
    have hI := th_I.close hI hG0 hO (ok_15 hq36 hq37 hq39 hq41 hq43 hq45 hq47 hq49 hq51 hq53 hq55 hq57 ⟨by omega, by omega⟩ k65)
    refine th_cVi (As := [.int 1]) (rest := []) (n := 1) (d := 0) ⟨hx, hb, hml, hown, hts⟩ (c_X10_tuned l E D G a56 hq57 1) wd_1168 wd_1169 wd_1170 wd_12 wd_1171 (by decide +kernel) ⟨by rw [hR]; exact Nat.le_of_ble_eq_true rfl, by rw [hR]; exact Nat.le_of_ble_eq_true rfl⟩ hI hN hK hS (rc_14 hI hq57 List.not_mem_nil) rfl rfl hl.1 rfl (Nat.le_of_ble_eq_true rfl) dX11_set_27 ⟨Nat.zero_le _, Nat.zero_le _⟩ (fun r66 H locs hp hI hS => ?_)
    refine lv_istore_n (lv' := [(2, .int r66), (0, .ref h0), (1, .int x1)]) hx hb dX11_set_30 rfl hl (by decide) rfl (fun ls hl => ?_)
    refine lv_aload_n hx hb dX11_set_31 rfl (lv_at hl 1 rfl) ?_
    obtain ⟨a67, a70, a72, a74, a76, a78, a80, a82, a84, a86, a88, w90, w93, w94, w95, w96, hO, hq68, hq69, hq71, hq73, hq75, hq77, hq79, hq81, hq83, hq85, hq87, hq89, ⟨k91, k92⟩, k97⟩ := op_15 hI hG0 List.not_mem_nil
    have hI := th_I.weak (a := h0) hI
    refine th_get hx hb hts inT11 hown hK hO rfl 0 (by decide) (hts _ (tb_c wd_345)) rfl rfl dX11_set_32 ?_
    refine lv_iload_n hx hb dX11_set_35 rfl (lv_at hl 2 rfl) ?_
    refine lv_iload_n hx hb dX11_set_36 rfl (lv_at hl 0 rfl) ?_
    refine lv_iload_n hx hb dX11_set_37 rfl (lv_at hl 0 rfl) ?_
    refine lv_aload_n hx hb dX11_set_38 rfl (lv_at hl 1 rfl) ?_
    refine th_get hx hb hts inT11 hown hK hO rfl 11 (by decide) (hts _ (tb_c wd_356)) rfl rfl dX11_set_39 ?_
    refine lv_iconst (v := 2) hx hb dX11_set_42 (by decide) ?_
    have hI := th_I.close hI hG0 hO (ok_15 hq68 hq69 hq71 hq73 hq75 hq77 hq79 hq81 hq83 hq85 hq87 hq89 ⟨by omega, by omega⟩ k97)
    refine th_cVi (As := [.int 2]) (rest := [.int r66, .int r66, .int x1, .ref a67]) (n := 1) (d := 0) ⟨hx, hb, hml, hown, hts⟩ (c_X10_tuned l E D G a88 hq89 2) wd_1168 wd_1169 wd_1170 wd_12 wd_1171 (by decide +kernel) ⟨by rw [hR]; exact Nat.le_of_ble_eq_true rfl, by rw [hR]; exact Nat.le_of_ble_eq_true rfl⟩ hI hN hK hS (rc_14 hI hq89 List.not_mem_nil) rfl rfl hl.1 rfl (Nat.le_of_ble_eq_true rfl) dX11_set_43 ⟨Nat.zero_le _, Nat.zero_le _⟩ (fun r98 H locs hp hI hS => ?_)
    refine lv_iadd hx hb dX11_set_46 ?_
    refine lv_topi (fun v99 e100 => ?_)
    try have tv99 : v99.toInt = r66.toInt + r98.toInt := iv_add rfl rfl e100 (by omega) (by omega)
    refine lv_bipush (v := 24) hx hb dX11_set_47 (by decide) ?_
    refine lv_irem hx hb dX11_set_49 (by decide) ?_
    refine lv_topi (fun v101 e102 => ?_)
    refine th_cVv (As := [.int x1, .int r66, .int v101]) (rest := []) (n := 3) (d := 1) ⟨hx, hb, hml, hown, hts⟩ (c_X6_tellClocks l E D G a67 hq68 x1 r66 v101) wd_1176 wd_420 wd_421 wd_2 wd_422 (by decide +kernel) ⟨by rw [hR]; exact Nat.le_of_ble_eq_true rfl, by rw [hR]; exact Nat.le_of_ble_eq_true rfl⟩ hI hN hK hS (rc_6 hI hq68 List.not_mem_nil) rfl rfl hl.1 rfl (Nat.le_of_ble_eq_true rfl) dX11_set_50 ⟨Nat.zero_le _, Nat.zero_le _⟩ (fun H locs hI hS => ?_)
    refine lv_aload_n hx hb dX11_set_53 rfl (lv_at hl 1 rfl) ?_
    refine th_cVv (As := []) (rest := []) (n := 0) (d := 2) ⟨hx, hb, hml, hown, hts⟩ (c_X11_turnRiver l E D G h0 (n) hG0 ) wd_423 wd_425 wp_1 wd_1 wd_426 (by decide +kernel) ⟨by rw [hR]; exact Nat.le_of_ble_eq_true rfl, by rw [hR]; exact Nat.le_of_ble_eq_true rfl⟩ hI hN hK hS (rc_15 hI hG0 List.not_mem_nil) rfl rfl hl.1 rfl (Nat.le_of_ble_eq_true rfl) dX11_set_54 ⟨Nat.zero_le _, Nat.zero_le _⟩ (fun H locs hI hS => ?_)
    refine lv_aload_n hx hb dX11_set_57 rfl (lv_at hl 1 rfl) ?_
    refine lv_aload_n hx hb dX11_set_58 rfl (lv_at hl 1 rfl) ?_
    obtain ⟨a105, a108, a110, a112, a114, a116, a118, a120, a122, a124, a126, w128, w131, w132, w133, w134, hO, hq106, hq107, hq109, hq111, hq113, hq115, hq117, hq119, hq121, hq123, hq125, hq127, ⟨k129, k130⟩, k135⟩ := op_15 hI hG0 List.not_mem_nil
    have hI := th_I.weak (a := h0) hI
    refine th_get hx hb hts inT11 hown hK hO rfl 11 (by decide) (hts _ (tb_c wd_356)) rfl rfl dX11_set_59 ?_
    refine lv_iconst (v := 0) hx hb dX11_set_62 (by decide) ?_
    have hI := th_I.close hI hG0 hO (ok_15 hq106 hq107 hq109 hq111 hq113 hq115 hq117 hq119 hq121 hq123 hq125 hq127 ⟨by omega, by omega⟩ k135)
    refine th_cVi (As := [.int 0]) (rest := [.ref h0]) (n := 1) (d := 0) ⟨hx, hb, hml, hown, hts⟩ (c_X10_tuned l E D G a126 hq127 0) wd_1168 wd_1169 wd_1170 wd_12 wd_1171 (by decide +kernel) ⟨by rw [hR]; exact Nat.le_of_ble_eq_true rfl, by rw [hR]; exact Nat.le_of_ble_eq_true rfl⟩ hI hN hK hS (rc_14 hI hq127 List.not_mem_nil) rfl rfl hl.1 rfl (Nat.le_of_ble_eq_true rfl) dX11_set_63 ⟨Nat.zero_le _, Nat.zero_le _⟩ (fun r136 H locs hp hI hS => ?_)
    refine th_cVi (As := [.int r136]) (rest := []) (n := 1) (d := 0) ⟨hx, hb, hml, hown, hts⟩ (c_X11_accept l E D G h0 (n) hG0 r136) wd_447 wd_449 wp_3 wd_1 wd_450 (by decide +kernel) ⟨by rw [hR]; exact Nat.le_of_ble_eq_true rfl, by rw [hR]; exact Nat.le_of_ble_eq_true rfl⟩ hI hN hK hS (rc_15 hI hG0 List.not_mem_nil) rfl rfl hl.1 rfl (Nat.le_of_ble_eq_true rfl) dX11_set_66 ⟨Nat.zero_le _, Nat.zero_le _⟩ (fun r137 H locs hp hI hS => ?_)
    have hp := hp.symm
    subst hp
    have hpost : True := trivial
    rw [hQ]
    exact W.iret (v := r136) hx hb hr (fun t ht hW => ⟨⟨r136, (), rfl, hpost, by rw [ht]; exact hI, hN.warm hW, va_K.moved hW.alike hK⟩, hS.F ht⟩) hS.2.2 dX11_set_69
  · skip
    try simp only [rg, not_and, Int.not_le] at hp
    have hp138 := hp
    refine lv_if_ne (tgt := 14) hx hb dX11_set_4 (by decide) (fun c => absurd c (by decide)) (fun _ => ?_)
    refine lv_aload_n hx hb dX11_set_7 rfl (lv_at hl 0 rfl) ?_
    refine lv_bipush (v := (-2)) hx hb dX11_set_8 (by decide) ?_
    refine th_cVi (As := [.int (-2)]) (rest := []) (n := 1) (d := 0) ⟨hx, hb, hml, hown, hts⟩ (c_X11_refuse l E D G h0 (n) hG0 (-2)) wd_407 wd_409 wp_0 wd_1 wd_410 (by decide +kernel) ⟨by rw [hR]; exact Nat.le_of_ble_eq_true rfl, by rw [hR]; exact Nat.le_of_ble_eq_true rfl⟩ hI hN hK hS (rc_15 hI hG0 List.not_mem_nil) rfl rfl hl.1 rfl (Nat.le_of_ble_eq_true rfl) dX11_set_10 ⟨Nat.zero_le _, Nat.zero_le _⟩ (fun r139 H locs hp hI hS => ?_)
    have hp := hp.symm
    subst hp
    have hpost : True := trivial
    rw [hQ]
    exact W.iret (v := (-2)) hx hb hr (fun t ht hW => ⟨⟨(-2), (), rfl, hpost, by rw [ht]; exact hI, hN.warm hW, va_K.moved hW.alike hK⟩, hS.F ht⟩) hS.2.2 dX11_set_13
theorem dX11_week_0g : (decode cX11_week 0 = .ok (.iload_n 1, 1)) ∧ (decode cX11_week 1 = .ok (.ifCond .lt 20, 3)) ∧ (decode cX11_week 4 = .ok (.iload_n 1, 1)) ∧ (decode cX11_week 5 = .ok (.ldc_w 337, 3)) ∧ (decode cX11_week 8 = .ok (.if_icmp .gt 13, 3)) ∧ (decode cX11_week 11 = .ok (.iload_n 2, 1)) ∧ (decode cX11_week 12 = .ok (.ifCond .lt 9, 3)) ∧ (decode cX11_week 15 = .ok (.iload_n 2, 1)) ∧ (decode cX11_week 16 = .ok (.bipush 100, 2)) ∧ (decode cX11_week 18 = .ok (.if_icmp .le 9, 3)) := by decide +kernel
theorem dX11_week_0 : decode cX11_week 0 = .ok (.iload_n 1, 1) := dX11_week_0g.1
theorem dX11_week_1 : decode cX11_week 1 = .ok (.ifCond .lt 20, 3) := dX11_week_0g.2.1
theorem dX11_week_4 : decode cX11_week 4 = .ok (.iload_n 1, 1) := dX11_week_0g.2.2.1
theorem dX11_week_5 : decode cX11_week 5 = .ok (.ldc_w 337, 3) := dX11_week_0g.2.2.2.1
theorem dX11_week_8 : decode cX11_week 8 = .ok (.if_icmp .gt 13, 3) := dX11_week_0g.2.2.2.2.1
theorem dX11_week_11 : decode cX11_week 11 = .ok (.iload_n 2, 1) := dX11_week_0g.2.2.2.2.2.1
theorem dX11_week_12 : decode cX11_week 12 = .ok (.ifCond .lt 9, 3) := dX11_week_0g.2.2.2.2.2.2.1
theorem dX11_week_15 : decode cX11_week 15 = .ok (.iload_n 2, 1) := dX11_week_0g.2.2.2.2.2.2.2.1
theorem dX11_week_16 : decode cX11_week 16 = .ok (.bipush 100, 2) := dX11_week_0g.2.2.2.2.2.2.2.2.1
theorem dX11_week_18 : decode cX11_week 18 = .ok (.if_icmp .le 9, 3) := dX11_week_0g.2.2.2.2.2.2.2.2.2
theorem dX11_week_21g : (decode cX11_week 21 = .ok (.aload_n 0, 1)) ∧ (decode cX11_week 22 = .ok (.iconst (-1), 1)) ∧ (decode cX11_week 23 = .ok (.invokevirtual 113, 3)) ∧ (decode cX11_week 26 = .ok (.ireturn, 1)) ∧ (decode cX11_week 27 = .ok (.aload_n 0, 1)) ∧ (decode cX11_week 28 = .ok (.iconst 1, 1)) ∧ (decode cX11_week 29 = .ok (.putfield 102, 3)) ∧ (decode cX11_week 32 = .ok (.aload_n 0, 1)) ∧ (decode cX11_week 33 = .ok (.aload_n 0, 1)) ∧ (decode cX11_week 34 = .ok (.getfield 51, 3)) := by decide +kernel
theorem dX11_week_21 : decode cX11_week 21 = .ok (.aload_n 0, 1) := dX11_week_21g.1
theorem dX11_week_22 : decode cX11_week 22 = .ok (.iconst (-1), 1) := dX11_week_21g.2.1
theorem dX11_week_23 : decode cX11_week 23 = .ok (.invokevirtual 113, 3) := dX11_week_21g.2.2.1
theorem dX11_week_26 : decode cX11_week 26 = .ok (.ireturn, 1) := dX11_week_21g.2.2.2.1
theorem dX11_week_27 : decode cX11_week 27 = .ok (.aload_n 0, 1) := dX11_week_21g.2.2.2.2.1
theorem dX11_week_28 : decode cX11_week 28 = .ok (.iconst 1, 1) := dX11_week_21g.2.2.2.2.2.1
theorem dX11_week_29 : decode cX11_week 29 = .ok (.putfield 102, 3) := dX11_week_21g.2.2.2.2.2.2.1
theorem dX11_week_32 : decode cX11_week 32 = .ok (.aload_n 0, 1) := dX11_week_21g.2.2.2.2.2.2.2.1
theorem dX11_week_33 : decode cX11_week 33 = .ok (.aload_n 0, 1) := dX11_week_21g.2.2.2.2.2.2.2.2.1
theorem dX11_week_34 : decode cX11_week 34 = .ok (.getfield 51, 3) := dX11_week_21g.2.2.2.2.2.2.2.2.2
theorem dX11_week_37g : (decode cX11_week 37 = .ok (.iload_n 1, 1)) ∧ (decode cX11_week 38 = .ok (.iload_n 2, 1)) ∧ (decode cX11_week 39 = .ok (.aload_n 0, 1)) ∧ (decode cX11_week 40 = .ok (.getfield 27, 3)) ∧ (decode cX11_week 43 = .ok (.invokevirtual 338, 3)) ∧ (decode cX11_week 46 = .ok (.invokevirtual 127, 3)) ∧ (decode cX11_week 49 = .ok (.ireturn, 1)) := by decide +kernel
theorem dX11_week_37 : decode cX11_week 37 = .ok (.iload_n 1, 1) := dX11_week_37g.1
theorem dX11_week_38 : decode cX11_week 38 = .ok (.iload_n 2, 1) := dX11_week_37g.2.1
theorem dX11_week_39 : decode cX11_week 39 = .ok (.aload_n 0, 1) := dX11_week_37g.2.2.1
theorem dX11_week_40 : decode cX11_week 40 = .ok (.getfield 27, 3) := dX11_week_37g.2.2.2.1
theorem dX11_week_43 : decode cX11_week 43 = .ok (.invokevirtual 338, 3) := dX11_week_37g.2.2.2.2.1
theorem dX11_week_46 : decode cX11_week 46 = .ok (.invokevirtual 127, 3) := dX11_week_37g.2.2.2.2.2.1
theorem dX11_week_49 : decode cX11_week 49 = .ok (.ireturn, 1) := dX11_week_37g.2.2.2.2.2.2
set_option maxHeartbeats 4000000 in
set_option maxRecDepth 100000 in
theorem c_X11_week (l : Launch) (E : Nat → Nat) (D : va_G) (G : th_G) (h0 n : Nat) (hG0 : G h0 = some (15, n)) (x1 x2 : Int32) : Met l yX11_week (tb (.code yX11_week cX11_week 3 (some .int))) (rm 8) (va_Pc [.ref h0, .int x1, .int x2] (th_P E D G)) (QI E D G (fun r => True)) 0 0 (th_A G) := by
  refine Met.ofW (cc := cX11_week) (maxL := 3) (ret := (some .int)) (by decide) rfl ?_
  intro p e s m args below meth c s₁ B hml hv
  obtain ⟨hav, hI, hN, hK⟩ := hv
  have hx := B.exec
  have hb := B.bytes
  have hr := B.returns
  have hts := atoms_spec (ws := tb (.code yX11_week cX11_week 3 (some .int))) B.pre
  have hown : s.vm.findClass RX11 = some m.cls := findClass_of_methodNamed B.named
  have hlocks := B.notSynchronized
  have hS : va_S (th_A G) s.heap s.heap [] := va_S.rf
  have hl := lv_entry ([.ref h0, .int x1, .int x2]) (n := 3) (Nat.le_of_ble_eq_true rfl)
  rw [show entryFrame m args 3 = entryFrame m ([.ref h0, .int x1, .int x2] : List Value).toArray 3 from by rw [hav], lg_entry_eq]
  generalize (lg_sl ([.ref h0, .int x1, .int x2]) ++ List.replicate (3 - (lg_sl ([.ref h0, .int x1, .int x2])).length) Slot.unset).toArray = ls at hl ⊢
  have hl : lv_has ls 3 [(0, .ref h0), (1, .int x1), (2, .int x2)] := hl
  generalize hR : (headSpec (tb (.code yX11_week cX11_week 3 (some .int))) (rm 8)).room = R
  have hR := hR.symm
  generalize hQ : MQ below (QI E D G (fun r => True)) args s 0 0 (th_A G) = QF
  have hQ := hQ.symm
  have J_21 : ∀ (H : Heap) (locs : List Loc) (ls : Array Slot) , lv_has ls 3 [(0, .ref h0), (1, .int x1), (2, .int x2)] → th_I (okC E) D G [] H → va_S (th_A G) s.heap H locs → W p l e R s m args below meth c H locs 0 0 QF (F0 m 21 ls []) := by
    intro H locs ls  hl  hI hS
    refine lv_aload_n hx hb dX11_week_21 rfl (lv_at hl 0 rfl) ?_
    refine lv_iconst (v := (-1)) hx hb dX11_week_22 (by decide) ?_
    refine th_cVi (As := [.int (-1)]) (rest := []) (n := 1) (d := 0) ⟨hx, hb, hml, hown, hts⟩ (c_X11_refuse l E D G h0 (n) hG0 (-1)) wd_407 wd_409 wp_0 wd_1 wd_410 (by decide +kernel) ⟨by rw [hR]; exact Nat.le_of_ble_eq_true rfl, by rw [hR]; exact Nat.le_of_ble_eq_true rfl⟩ hI hN hK hS (rc_15 hI hG0 List.not_mem_nil) rfl rfl hl.1 rfl (Nat.le_of_ble_eq_true rfl) dX11_week_23 ⟨Nat.zero_le _, Nat.zero_le _⟩ (fun r400 H locs hp hI hS => ?_)
    have hp := hp.symm
    subst hp
    have hpost : True := trivial
    rw [hQ]
    exact W.iret (v := (-1)) hx hb hr (fun t ht hW => ⟨⟨(-1), (), rfl, hpost, by rw [ht]; exact hI, hN.warm hW, va_K.moved hW.alike hK⟩, hS.F ht⟩) hS.2.2 dX11_week_26
  refine lv_iload_n hx hb dX11_week_0 rfl (lv_at hl 1 rfl) ?_
  have k401 := iv_lo x1
  have k402 := iv_hi x1
  refine lv_if_lt (tgt := 21) hx hb dX11_week_1 (by decide) (fun c403 => ?_) (fun c403 => ?_)
  · skip
    have k404 := iv_lt (X := x1.toInt) (Y := (0)) rfl (by decide) c403
    exact J_21 s.heap [] ls  (lv_sub hl [0, 1, 2] rfl)  hI hS
  · skip
    have k405 := iv_nlt (X := x1.toInt) (Y := (0)) rfl (by decide) c403
    refine lv_iload_n hx hb dX11_week_4 rfl (lv_at hl 1 rfl) ?_
    refine lv_ldcw hx hb hown (hts _ (tb_c wd_1181)) dX11_week_5 ?_
    refine lv_icmp_gt (tgt := 21) hx hb dX11_week_8 (by decide) (fun c406 => ?_) (fun c406 => ?_)
    · skip
      have k407 := iv_lt (X := (1000000)) (Y := x1.toInt) (by decide) rfl c406
      exact J_21 s.heap [] ls  (lv_sub hl [0, 1, 2] rfl)  hI hS
    · skip
      have k408 := iv_nlt (X := (1000000)) (Y := x1.toInt) (by decide) rfl c406
      refine lv_iload_n hx hb dX11_week_11 rfl (lv_at hl 2 rfl) ?_
      have k409 := iv_lo x2
      have k410 := iv_hi x2
      refine lv_if_lt (tgt := 21) hx hb dX11_week_12 (by decide) (fun c411 => ?_) (fun c411 => ?_)
      · skip
        have k412 := iv_lt (X := x2.toInt) (Y := (0)) rfl (by decide) c411
        exact J_21 s.heap [] ls  (lv_sub hl [0, 1, 2] rfl)  hI hS
      · skip
        have k413 := iv_nlt (X := x2.toInt) (Y := (0)) rfl (by decide) c411
        refine lv_iload_n hx hb dX11_week_15 rfl (lv_at hl 2 rfl) ?_
        refine lv_bipush (v := 100) hx hb dX11_week_16 (by decide) ?_
        refine lv_icmp_le (tgt := 27) hx hb dX11_week_18 (by decide) (fun c414 => ?_) (fun c414 => ?_)
        · skip
          have k415 := iv_le (X := x2.toInt) (Y := (100)) rfl (by decide) c414
          refine lv_aload_n hx hb dX11_week_27 rfl (lv_at hl 0 rfl) ?_
          refine lv_iconst (v := 1) hx hb dX11_week_28 (by decide) ?_
          obtain ⟨a416, a419, a421, a423, a425, a427, a429, a431, a433, a435, a437, w439, w442, w443, w444, w445, hO, hq417, hq418, hq420, hq422, hq424, hq426, hq428, hq430, hq432, hq434, hq436, hq438, ⟨k440, k441⟩, k446⟩ := op_15 hI hG0 List.not_mem_nil
          have hI := th_I.weak (a := h0) hI
          refine th_put (ty := .boolean) hx hb hts inT11 tyX11 tyX11_ok nmX11 hown hK hO hS ⟨_, hG0⟩ rfl 16 (by decide) (hts _ (tb_c wd_361)) rfl rfl (by decide +kernel) (by decide) rfl (Nat.le_of_ble_eq_true rfl) dX11_week_29 (fun H locs hO oq hS => ?_)
          have hI := th_I.moved hI oq
          have hO : va_at D vwCl (h0, .inr (11, [.ref a416, .ref n, .ref a419, .ref a421, .ref a423, .ref a425, .ref a427, .ref a429, .ref a431, .ref a433, .ref a435, .ref a437, .int w439, .int w442, .int w443, .int w444, .int 1])) H := hO
          refine lv_aload_n hx hb dX11_week_32 rfl (lv_at hl 0 rfl) ?_
          refine lv_aload_n hx hb dX11_week_33 rfl (lv_at hl 0 rfl) ?_
          refine th_get hx hb hts inT11 hown hK hO rfl 7 (by decide) (hts _ (tb_c wd_352)) rfl rfl dX11_week_34 ?_
          refine lv_iload_n hx hb dX11_week_37 rfl (lv_at hl 1 rfl) ?_
          refine lv_iload_n hx hb dX11_week_38 rfl (lv_at hl 2 rfl) ?_
          refine lv_aload_n hx hb dX11_week_39 rfl (lv_at hl 0 rfl) ?_
          refine th_get hx hb hts inT11 hown hK hO rfl 4 (by decide) (hts _ (tb_c wd_349)) rfl rfl dX11_week_40 ?_
          have hI := th_I.close hI hG0 hO (ok_15 hq417 hq418 hq420 hq422 hq424 hq426 hq428 hq430 hq432 hq434 hq436 hq438 ⟨by omega, by omega⟩ k446)
          refine th_cVi (As := [.int x1, .int x2, .ref a423]) (rest := [.ref h0]) (n := 3) (d := 7) ⟨hx, hb, hml, hown, hts⟩ (c_X9_drawWeek l E D G a429 hq430 x1 x2 a423 hq424) wd_1182 wd_1183 wd_1184 wd_8 wd_1185 (by decide +kernel) ⟨by rw [hR]; exact Nat.le_of_ble_eq_true rfl, by rw [hR]; exact Nat.le_of_ble_eq_true rfl⟩ hI hN hK hS (rc_10 hI hq430 List.not_mem_nil) rfl rfl hl.1 rfl (Nat.le_of_ble_eq_true rfl) dX11_week_43 ⟨Nat.zero_le _, Nat.zero_le _⟩ (fun r447 H locs hp hI hS => ?_)
          refine th_cVi (As := [.int r447]) (rest := []) (n := 1) (d := 0) ⟨hx, hb, hml, hown, hts⟩ (c_X11_accept l E D G h0 (n) hG0 r447) wd_447 wd_449 wp_3 wd_1 wd_450 (by decide +kernel) ⟨by rw [hR]; exact Nat.le_of_ble_eq_true rfl, by rw [hR]; exact Nat.le_of_ble_eq_true rfl⟩ hI hN hK hS (rc_15 hI hG0 List.not_mem_nil) rfl rfl hl.1 rfl (Nat.le_of_ble_eq_true rfl) dX11_week_46 ⟨Nat.zero_le _, Nat.zero_le _⟩ (fun r448 H locs hp hI hS => ?_)
          have hp := hp.symm
          subst hp
          have hpost : True := trivial
          rw [hQ]
          exact W.iret (v := r447) hx hb hr (fun t ht hW => ⟨⟨r447, (), rfl, hpost, by rw [ht]; exact hI, hN.warm hW, va_K.moved hW.alike hK⟩, hS.F ht⟩) hS.2.2 dX11_week_49
        · skip
          have k449 := iv_nle (X := x2.toInt) (Y := (100)) rfl (by decide) c414
          exact J_21 s.heap [] ls  (lv_sub hl [0, 1, 2] rfl)  hI hS
theorem dX11_drawn_0g : (decode cX11_drawn 0 = .ok (.aload_n 0, 1)) ∧ (decode cX11_drawn 1 = .ok (.getfield 102, 3)) ∧ (decode cX11_drawn 4 = .ok (.ifCond .eq 19, 3)) ∧ (decode cX11_drawn 7 = .ok (.iload_n 1, 1)) ∧ (decode cX11_drawn 8 = .ok (.invokestatic 106, 3)) ∧ (decode cX11_drawn 11 = .ok (.ifCond .eq 12, 3)) ∧ (decode cX11_drawn 14 = .ok (.aload_n 0, 1)) ∧ (decode cX11_drawn 15 = .ok (.getfield 27, 3)) ∧ (decode cX11_drawn 18 = .ok (.iload_n 1, 1)) ∧ (decode cX11_drawn 19 = .ok (.iaload, 1)) := by decide +kernel
theorem dX11_drawn_0 : decode cX11_drawn 0 = .ok (.aload_n 0, 1) := dX11_drawn_0g.1
theorem dX11_drawn_1 : decode cX11_drawn 1 = .ok (.getfield 102, 3) := dX11_drawn_0g.2.1
theorem dX11_drawn_4 : decode cX11_drawn 4 = .ok (.ifCond .eq 19, 3) := dX11_drawn_0g.2.2.1
theorem dX11_drawn_7 : decode cX11_drawn 7 = .ok (.iload_n 1, 1) := dX11_drawn_0g.2.2.2.1
theorem dX11_drawn_8 : decode cX11_drawn 8 = .ok (.invokestatic 106, 3) := dX11_drawn_0g.2.2.2.2.1
theorem dX11_drawn_11 : decode cX11_drawn 11 = .ok (.ifCond .eq 12, 3) := dX11_drawn_0g.2.2.2.2.2.1
theorem dX11_drawn_14 : decode cX11_drawn 14 = .ok (.aload_n 0, 1) := dX11_drawn_0g.2.2.2.2.2.2.1
theorem dX11_drawn_15 : decode cX11_drawn 15 = .ok (.getfield 27, 3) := dX11_drawn_0g.2.2.2.2.2.2.2.1
theorem dX11_drawn_18 : decode cX11_drawn 18 = .ok (.iload_n 1, 1) := dX11_drawn_0g.2.2.2.2.2.2.2.2.1
theorem dX11_drawn_19 : decode cX11_drawn 19 = .ok (.iaload, 1) := dX11_drawn_0g.2.2.2.2.2.2.2.2.2
theorem dX11_drawn_20g : (decode cX11_drawn 20 = .ok (.goto 4, 3)) ∧ (decode cX11_drawn 23 = .ok (.iconst (-1), 1)) ∧ (decode cX11_drawn 24 = .ok (.ireturn, 1)) := by decide +kernel
theorem dX11_drawn_20 : decode cX11_drawn 20 = .ok (.goto 4, 3) := dX11_drawn_20g.1
theorem dX11_drawn_23 : decode cX11_drawn 23 = .ok (.iconst (-1), 1) := dX11_drawn_20g.2.1
theorem dX11_drawn_24 : decode cX11_drawn 24 = .ok (.ireturn, 1) := dX11_drawn_20g.2.2
set_option maxHeartbeats 4000000 in
set_option maxRecDepth 100000 in
theorem c_X11_drawn (l : Launch) (E : Nat → Nat) (D : va_G) (G : th_G) (h0 n : Nat) (hG0 : G h0 = some (15, n)) (x1 : Int32) : Met l yX11_drawn (tb (.code yX11_drawn cX11_drawn 2 (some .int))) (rm 1) (va_Pc [.ref h0, .int x1] (th_P E D G)) (QI E D G (fun r => True)) 0 0 (th_A G) := by
  refine Met.ofW (cc := cX11_drawn) (maxL := 2) (ret := (some .int)) (by decide) rfl ?_
  intro p e s m args below meth c s₁ B hml hv
  obtain ⟨hav, hI, hN, hK⟩ := hv
  have hx := B.exec
  have hb := B.bytes
  have hr := B.returns
  have hts := atoms_spec (ws := tb (.code yX11_drawn cX11_drawn 2 (some .int))) B.pre
  have hown : s.vm.findClass RX11 = some m.cls := findClass_of_methodNamed B.named
  have hlocks := B.notSynchronized
  have hS : va_S (th_A G) s.heap s.heap [] := va_S.rf
  have hl := lv_entry ([.ref h0, .int x1]) (n := 2) (Nat.le_of_ble_eq_true rfl)
  rw [show entryFrame m args 2 = entryFrame m ([.ref h0, .int x1] : List Value).toArray 2 from by rw [hav], lg_entry_eq]
  generalize (lg_sl ([.ref h0, .int x1]) ++ List.replicate (2 - (lg_sl ([.ref h0, .int x1])).length) Slot.unset).toArray = ls at hl ⊢
  have hl : lv_has ls 2 [(0, .ref h0), (1, .int x1)] := hl
  generalize hR : (headSpec (tb (.code yX11_drawn cX11_drawn 2 (some .int))) (rm 1)).room = R
  have hR := hR.symm
  generalize hQ : MQ below (QI E D G (fun r => True)) args s 0 0 (th_A G) = QF
  have hQ := hQ.symm
  refine lv_aload_n hx hb dX11_drawn_0 rfl (lv_at hl 0 rfl) ?_
  obtain ⟨a1, a4, a6, a8, a10, a12, a14, a16, a18, a20, a22, w24, w27, w28, w29, w30, hO, hq2, hq3, hq5, hq7, hq9, hq11, hq13, hq15, hq17, hq19, hq21, hq23, ⟨k25, k26⟩, k31⟩ := op_15 hI hG0 List.not_mem_nil
  have hI := th_I.weak (a := h0) hI
  refine th_get hx hb hts inT11 hown hK hO rfl 16 (by decide) (hts _ (tb_c wd_361)) rfl rfl dX11_drawn_1 ?_
  have k32 := iv_lo w30
  have k33 := iv_hi w30
  refine lv_if_eq (tgt := 23) hx hb dX11_drawn_4 (by decide) (fun c34 => ?_) (fun c34 => ?_)
  · skip
    have k35 := iv_eq (X := w30.toInt) (Y := (0)) rfl (by decide) c34
    refine lv_iconst (v := (-1)) hx hb dX11_drawn_23 (by decide) ?_
    have hI := th_I.close hI hG0 hO (ok_15 hq2 hq3 hq5 hq7 hq9 hq11 hq13 hq15 hq17 hq19 hq21 hq23 ⟨by omega, by omega⟩ k31)
    have hpost : True := trivial
    rw [hQ]
    exact W.iret (v := (-1)) hx hb hr (fun t ht hW => ⟨⟨(-1), (), rfl, hpost, by rw [ht]; exact hI, hN.warm hW, va_K.moved hW.alike hK⟩, hS.F ht⟩) hS.2.2 dX11_drawn_24
  · skip
    have k36 := iv_ne (X := w30.toInt) (Y := (0)) rfl (by decide) c34
    refine lv_iload_n hx hb dX11_drawn_7 rfl (lv_at hl 1 rfl) ?_
    refine th_cSs (As := [.int x1]) (rest := []) (n := 1) (d := 0) ⟨hx, hb, hml, hown, hts⟩ (c_X11_isCell l s.heap x1) wd_401 wd_402 wd_1 wd_403 (by decide +kernel) ⟨by rw [hR]; exact Nat.le_of_ble_eq_true rfl, by rw [hR]; exact Nat.le_of_ble_eq_true rfl⟩ hN hS rfl hl.1 rfl (Nat.le_of_ble_eq_true rfl) dX11_drawn_8 ⟨Nat.zero_le _, Nat.zero_le _⟩ (fun r37 locs hp hS => ?_)
    rcases hp with ⟨rfl, hp⟩ | ⟨rfl, hp⟩
    · skip
      try simp only [rg, not_and, Int.not_le] at hp
      have hp38 := hp
      refine lv_if_eq (tgt := 23) hx hb dX11_drawn_11 (by decide) (fun c => absurd c (by decide)) (fun _ => ?_)
      refine lv_aload_n hx hb dX11_drawn_14 rfl (lv_at hl 0 rfl) ?_
      refine th_get hx hb hts inT11 hown hK hO rfl 4 (by decide) (hts _ (tb_c wd_349)) rfl rfl dX11_drawn_15 ?_
      refine lv_iload_n hx hb dX11_drawn_18 rfl (lv_at hl 1 rfl) ?_
      obtain ⟨_, hA39⟩ := op_0 hI hq9 (th_ne hG0 hq9 (show (15 : Nat) ≠ 0 by decide))
      refine th_iald hx hb hK hA39 0 rfl (iv_in (X := x1.toInt) rfl (by omega) (by omega)) dX11_drawn_19 (fun v40 _ => ?_)
      refine lv_goto (tgt := 24) hx hb dX11_drawn_20 (by decide) ?_
      have hI := th_I.close hI hG0 hO (ok_15 hq2 hq3 hq5 hq7 hq9 hq11 hq13 hq15 hq17 hq19 hq21 hq23 ⟨by omega, by omega⟩ k31)
      have hpost : True := trivial
      rw [hQ]
      exact W.iret (v := v40) hx hb hr (fun t ht hW => ⟨⟨v40, (), rfl, hpost, by rw [ht]; exact hI, hN.warm hW, va_K.moved hW.alike hK⟩, hS.F ht⟩) hS.2.2 dX11_drawn_24
    · skip
      try simp only [rg, not_and, Int.not_le] at hp
      have hp41 := hp
      refine lv_if_eq (tgt := 23) hx hb dX11_drawn_11 (by decide) (fun _ => ?_) (fun c => absurd c (by decide))
      refine lv_iconst (v := (-1)) hx hb dX11_drawn_23 (by decide) ?_
      have hI := th_I.close hI hG0 hO (ok_15 hq2 hq3 hq5 hq7 hq9 hq11 hq13 hq15 hq17 hq19 hq21 hq23 ⟨by omega, by omega⟩ k31)
      have hpost : True := trivial
      rw [hQ]
      exact W.iret (v := (-1)) hx hb hr (fun t ht hW => ⟨⟨(-1), (), rfl, hpost, by rw [ht]; exact hI, hN.warm hW, va_K.moved hW.alike hK⟩, hS.F ht⟩) hS.2.2 dX11_drawn_24
theorem dX11_count_0g : (decode cX11_count 0 = .ok (.iload_n 1, 1)) ∧ (decode cX11_count 1 = .ok (.bipush 10, 2)) ∧ (decode cX11_count 3 = .ok (.if_icmp .lt 19, 3)) ∧ (decode cX11_count 6 = .ok (.iload_n 1, 1)) ∧ (decode cX11_count 7 = .ok (.bipush 14, 2)) ∧ (decode cX11_count 9 = .ok (.if_icmp .gt 13, 3)) ∧ (decode cX11_count 12 = .ok (.aload_n 0, 1)) ∧ (decode cX11_count 13 = .ok (.getfield 24, 3)) ∧ (decode cX11_count 16 = .ok (.iload_n 1, 1)) ∧ (decode cX11_count 17 = .ok (.bipush 10, 2)) := by decide +kernel
theorem dX11_count_0 : decode cX11_count 0 = .ok (.iload_n 1, 1) := dX11_count_0g.1
theorem dX11_count_1 : decode cX11_count 1 = .ok (.bipush 10, 2) := dX11_count_0g.2.1
theorem dX11_count_3 : decode cX11_count 3 = .ok (.if_icmp .lt 19, 3) := dX11_count_0g.2.2.1
theorem dX11_count_6 : decode cX11_count 6 = .ok (.iload_n 1, 1) := dX11_count_0g.2.2.2.1
theorem dX11_count_7 : decode cX11_count 7 = .ok (.bipush 14, 2) := dX11_count_0g.2.2.2.2.1
theorem dX11_count_9 : decode cX11_count 9 = .ok (.if_icmp .gt 13, 3) := dX11_count_0g.2.2.2.2.2.1
theorem dX11_count_12 : decode cX11_count 12 = .ok (.aload_n 0, 1) := dX11_count_0g.2.2.2.2.2.2.1
theorem dX11_count_13 : decode cX11_count 13 = .ok (.getfield 24, 3) := dX11_count_0g.2.2.2.2.2.2.2.1
theorem dX11_count_16 : decode cX11_count 16 = .ok (.iload_n 1, 1) := dX11_count_0g.2.2.2.2.2.2.2.2.1
theorem dX11_count_17 : decode cX11_count 17 = .ok (.bipush 10, 2) := dX11_count_0g.2.2.2.2.2.2.2.2.2
theorem dX11_count_19g : (decode cX11_count 19 = .ok (.isub, 1)) ∧ (decode cX11_count 20 = .ok (.iaload, 1)) ∧ (decode cX11_count 21 = .ok (.ireturn, 1)) ∧ (decode cX11_count 22 = .ok (.iload_n 1, 1)) ∧ (decode cX11_count 23 = .ok (.tableswitch 183 0 15 #[77, 85, 93, 104, 115, 126, 137, 148, 159, 170, 183, 183, 183, 183, 183, 175], 77)) ∧ (decode cX11_count 100 = .ok (.aload_n 0, 1)) ∧ (decode cX11_count 101 = .ok (.getfield 12, 3)) ∧ (decode cX11_count 104 = .ok (.getfield 194, 3)) ∧ (decode cX11_count 107 = .ok (.ireturn, 1)) ∧ (decode cX11_count 108 = .ok (.aload_n 0, 1)) := by decide +kernel
theorem dX11_count_19 : decode cX11_count 19 = .ok (.isub, 1) := dX11_count_19g.1
theorem dX11_count_20 : decode cX11_count 20 = .ok (.iaload, 1) := dX11_count_19g.2.1
theorem dX11_count_21 : decode cX11_count 21 = .ok (.ireturn, 1) := dX11_count_19g.2.2.1
theorem dX11_count_22 : decode cX11_count 22 = .ok (.iload_n 1, 1) := dX11_count_19g.2.2.2.1
theorem dX11_count_23 : decode cX11_count 23 = .ok (.tableswitch 183 0 15 #[77, 85, 93, 104, 115, 126, 137, 148, 159, 170, 183, 183, 183, 183, 183, 175], 77) := dX11_count_19g.2.2.2.2.1
theorem dX11_count_100 : decode cX11_count 100 = .ok (.aload_n 0, 1) := dX11_count_19g.2.2.2.2.2.1
theorem dX11_count_101 : decode cX11_count 101 = .ok (.getfield 12, 3) := dX11_count_19g.2.2.2.2.2.2.1
theorem dX11_count_104 : decode cX11_count 104 = .ok (.getfield 194, 3) := dX11_count_19g.2.2.2.2.2.2.2.1
theorem dX11_count_107 : decode cX11_count 107 = .ok (.ireturn, 1) := dX11_count_19g.2.2.2.2.2.2.2.2.1
theorem dX11_count_108 : decode cX11_count 108 = .ok (.aload_n 0, 1) := dX11_count_19g.2.2.2.2.2.2.2.2.2
theorem dX11_count_109g : (decode cX11_count 109 = .ok (.getfield 12, 3)) ∧ (decode cX11_count 112 = .ok (.invokevirtual 345, 3)) ∧ (decode cX11_count 115 = .ok (.ireturn, 1)) ∧ (decode cX11_count 116 = .ok (.aload_n 0, 1)) ∧ (decode cX11_count 117 = .ok (.getfield 12, 3)) ∧ (decode cX11_count 120 = .ok (.getfield 145, 3)) ∧ (decode cX11_count 123 = .ok (.invokevirtual 166, 3)) ∧ (decode cX11_count 126 = .ok (.ireturn, 1)) ∧ (decode cX11_count 127 = .ok (.aload_n 0, 1)) ∧ (decode cX11_count 128 = .ok (.getfield 12, 3)) := by decide +kernel
theorem dX11_count_109 : decode cX11_count 109 = .ok (.getfield 12, 3) := dX11_count_109g.1
theorem dX11_count_112 : decode cX11_count 112 = .ok (.invokevirtual 345, 3) := dX11_count_109g.2.1
theorem dX11_count_115 : decode cX11_count 115 = .ok (.ireturn, 1) := dX11_count_109g.2.2.1
theorem dX11_count_116 : decode cX11_count 116 = .ok (.aload_n 0, 1) := dX11_count_109g.2.2.2.1
theorem dX11_count_117 : decode cX11_count 117 = .ok (.getfield 12, 3) := dX11_count_109g.2.2.2.2.1
theorem dX11_count_120 : decode cX11_count 120 = .ok (.getfield 145, 3) := dX11_count_109g.2.2.2.2.2.1
theorem dX11_count_123 : decode cX11_count 123 = .ok (.invokevirtual 166, 3) := dX11_count_109g.2.2.2.2.2.2.1
theorem dX11_count_126 : decode cX11_count 126 = .ok (.ireturn, 1) := dX11_count_109g.2.2.2.2.2.2.2.1
theorem dX11_count_127 : decode cX11_count 127 = .ok (.aload_n 0, 1) := dX11_count_109g.2.2.2.2.2.2.2.2.1
theorem dX11_count_128 : decode cX11_count 128 = .ok (.getfield 12, 3) := dX11_count_109g.2.2.2.2.2.2.2.2.2
theorem dX11_count_131g : (decode cX11_count 131 = .ok (.getfield 170, 3)) ∧ (decode cX11_count 134 = .ok (.invokevirtual 166, 3)) ∧ (decode cX11_count 137 = .ok (.ireturn, 1)) ∧ (decode cX11_count 138 = .ok (.aload_n 0, 1)) ∧ (decode cX11_count 139 = .ok (.getfield 12, 3)) ∧ (decode cX11_count 142 = .ok (.getfield 246, 3)) ∧ (decode cX11_count 145 = .ok (.invokevirtual 166, 3)) ∧ (decode cX11_count 148 = .ok (.ireturn, 1)) ∧ (decode cX11_count 149 = .ok (.aload_n 0, 1)) ∧ (decode cX11_count 150 = .ok (.getfield 12, 3)) := by decide +kernel
theorem dX11_count_131 : decode cX11_count 131 = .ok (.getfield 170, 3) := dX11_count_131g.1
theorem dX11_count_134 : decode cX11_count 134 = .ok (.invokevirtual 166, 3) := dX11_count_131g.2.1
theorem dX11_count_137 : decode cX11_count 137 = .ok (.ireturn, 1) := dX11_count_131g.2.2.1
theorem dX11_count_138 : decode cX11_count 138 = .ok (.aload_n 0, 1) := dX11_count_131g.2.2.2.1
theorem dX11_count_139 : decode cX11_count 139 = .ok (.getfield 12, 3) := dX11_count_131g.2.2.2.2.1
theorem dX11_count_142 : decode cX11_count 142 = .ok (.getfield 246, 3) := dX11_count_131g.2.2.2.2.2.1
theorem dX11_count_145 : decode cX11_count 145 = .ok (.invokevirtual 166, 3) := dX11_count_131g.2.2.2.2.2.2.1
theorem dX11_count_148 : decode cX11_count 148 = .ok (.ireturn, 1) := dX11_count_131g.2.2.2.2.2.2.2.1
theorem dX11_count_149 : decode cX11_count 149 = .ok (.aload_n 0, 1) := dX11_count_131g.2.2.2.2.2.2.2.2.1
theorem dX11_count_150 : decode cX11_count 150 = .ok (.getfield 12, 3) := dX11_count_131g.2.2.2.2.2.2.2.2.2
theorem dX11_count_153g : (decode cX11_count 153 = .ok (.getfield 266, 3)) ∧ (decode cX11_count 156 = .ok (.invokevirtual 166, 3)) ∧ (decode cX11_count 159 = .ok (.ireturn, 1)) ∧ (decode cX11_count 160 = .ok (.aload_n 0, 1)) ∧ (decode cX11_count 161 = .ok (.getfield 12, 3)) ∧ (decode cX11_count 164 = .ok (.getfield 292, 3)) ∧ (decode cX11_count 167 = .ok (.invokevirtual 166, 3)) ∧ (decode cX11_count 170 = .ok (.ireturn, 1)) ∧ (decode cX11_count 171 = .ok (.aload_n 0, 1)) ∧ (decode cX11_count 172 = .ok (.getfield 12, 3)) := by decide +kernel
theorem dX11_count_153 : decode cX11_count 153 = .ok (.getfield 266, 3) := dX11_count_153g.1
theorem dX11_count_156 : decode cX11_count 156 = .ok (.invokevirtual 166, 3) := dX11_count_153g.2.1
theorem dX11_count_159 : decode cX11_count 159 = .ok (.ireturn, 1) := dX11_count_153g.2.2.1
theorem dX11_count_160 : decode cX11_count 160 = .ok (.aload_n 0, 1) := dX11_count_153g.2.2.2.1
theorem dX11_count_161 : decode cX11_count 161 = .ok (.getfield 12, 3) := dX11_count_153g.2.2.2.2.1
theorem dX11_count_164 : decode cX11_count 164 = .ok (.getfield 292, 3) := dX11_count_153g.2.2.2.2.2.1
theorem dX11_count_167 : decode cX11_count 167 = .ok (.invokevirtual 166, 3) := dX11_count_153g.2.2.2.2.2.2.1
theorem dX11_count_170 : decode cX11_count 170 = .ok (.ireturn, 1) := dX11_count_153g.2.2.2.2.2.2.2.1
theorem dX11_count_171 : decode cX11_count 171 = .ok (.aload_n 0, 1) := dX11_count_153g.2.2.2.2.2.2.2.2.1
theorem dX11_count_172 : decode cX11_count 172 = .ok (.getfield 12, 3) := dX11_count_153g.2.2.2.2.2.2.2.2.2
theorem dX11_count_175g : (decode cX11_count 175 = .ok (.getfield 307, 3)) ∧ (decode cX11_count 178 = .ok (.invokevirtual 166, 3)) ∧ (decode cX11_count 181 = .ok (.ireturn, 1)) ∧ (decode cX11_count 182 = .ok (.aload_n 0, 1)) ∧ (decode cX11_count 183 = .ok (.getfield 12, 3)) ∧ (decode cX11_count 186 = .ok (.getfield 322, 3)) ∧ (decode cX11_count 189 = .ok (.invokevirtual 166, 3)) ∧ (decode cX11_count 192 = .ok (.ireturn, 1)) ∧ (decode cX11_count 193 = .ok (.aload_n 0, 1)) ∧ (decode cX11_count 194 = .ok (.getfield 89, 3)) := by decide +kernel
theorem dX11_count_175 : decode cX11_count 175 = .ok (.getfield 307, 3) := dX11_count_175g.1
theorem dX11_count_178 : decode cX11_count 178 = .ok (.invokevirtual 166, 3) := dX11_count_175g.2.1
theorem dX11_count_181 : decode cX11_count 181 = .ok (.ireturn, 1) := dX11_count_175g.2.2.1
theorem dX11_count_182 : decode cX11_count 182 = .ok (.aload_n 0, 1) := dX11_count_175g.2.2.2.1
theorem dX11_count_183 : decode cX11_count 183 = .ok (.getfield 12, 3) := dX11_count_175g.2.2.2.2.1
theorem dX11_count_186 : decode cX11_count 186 = .ok (.getfield 322, 3) := dX11_count_175g.2.2.2.2.2.1
theorem dX11_count_189 : decode cX11_count 189 = .ok (.invokevirtual 166, 3) := dX11_count_175g.2.2.2.2.2.2.1
theorem dX11_count_192 : decode cX11_count 192 = .ok (.ireturn, 1) := dX11_count_175g.2.2.2.2.2.2.2.1
theorem dX11_count_193 : decode cX11_count 193 = .ok (.aload_n 0, 1) := dX11_count_175g.2.2.2.2.2.2.2.2.1
theorem dX11_count_194 : decode cX11_count 194 = .ok (.getfield 89, 3) := dX11_count_175g.2.2.2.2.2.2.2.2.2
theorem dX11_count_197g : (decode cX11_count 197 = .ok (.ireturn, 1)) ∧ (decode cX11_count 198 = .ok (.aload_n 0, 1)) ∧ (decode cX11_count 199 = .ok (.getfield 12, 3)) ∧ (decode cX11_count 202 = .ok (.getfield 208, 3)) ∧ (decode cX11_count 205 = .ok (.ireturn, 1)) ∧ (decode cX11_count 206 = .ok (.iconst (-1), 1)) ∧ (decode cX11_count 207 = .ok (.ireturn, 1)) := by decide +kernel
theorem dX11_count_197 : decode cX11_count 197 = .ok (.ireturn, 1) := dX11_count_197g.1
theorem dX11_count_198 : decode cX11_count 198 = .ok (.aload_n 0, 1) := dX11_count_197g.2.1
theorem dX11_count_199 : decode cX11_count 199 = .ok (.getfield 12, 3) := dX11_count_197g.2.2.1
theorem dX11_count_202 : decode cX11_count 202 = .ok (.getfield 208, 3) := dX11_count_197g.2.2.2.1
theorem dX11_count_205 : decode cX11_count 205 = .ok (.ireturn, 1) := dX11_count_197g.2.2.2.2.1
theorem dX11_count_206 : decode cX11_count 206 = .ok (.iconst (-1), 1) := dX11_count_197g.2.2.2.2.2.1
theorem dX11_count_207 : decode cX11_count 207 = .ok (.ireturn, 1) := dX11_count_197g.2.2.2.2.2.2
set_option maxHeartbeats 4000000 in
set_option maxRecDepth 100000 in
theorem c_X11_count (l : Launch) (E : Nat → Nat) (D : va_G) (G : th_G) (h0 n : Nat) (hG0 : G h0 = some (15, n)) (x1 : Int32) : Met l yX11_count (tb (.code yX11_count cX11_count 2 (some .int))) (rm 1) (va_Pc [.ref h0, .int x1] (th_P E D G)) (QI E D G (fun r => True)) 0 0 (th_A G) := by
  refine Met.ofW (cc := cX11_count) (maxL := 2) (ret := (some .int)) (by decide) rfl ?_
  intro p e s m args below meth c s₁ B hml hv
  obtain ⟨hav, hI, hN, hK⟩ := hv
  have hx := B.exec
  have hb := B.bytes
  have hr := B.returns
  have hts := atoms_spec (ws := tb (.code yX11_count cX11_count 2 (some .int))) B.pre
  have hown : s.vm.findClass RX11 = some m.cls := findClass_of_methodNamed B.named
  have hlocks := B.notSynchronized
  have hS : va_S (th_A G) s.heap s.heap [] := va_S.rf
  have hl := lv_entry ([.ref h0, .int x1]) (n := 2) (Nat.le_of_ble_eq_true rfl)
  rw [show entryFrame m args 2 = entryFrame m ([.ref h0, .int x1] : List Value).toArray 2 from by rw [hav], lg_entry_eq]
  generalize (lg_sl ([.ref h0, .int x1]) ++ List.replicate (2 - (lg_sl ([.ref h0, .int x1])).length) Slot.unset).toArray = ls at hl ⊢
  have hl : lv_has ls 2 [(0, .ref h0), (1, .int x1)] := hl
  generalize hR : (headSpec (tb (.code yX11_count cX11_count 2 (some .int))) (rm 1)).room = R
  have hR := hR.symm
  generalize hQ : MQ below (QI E D G (fun r => True)) args s 0 0 (th_A G) = QF
  have hQ := hQ.symm
  have J_22 : ∀ (H : Heap) (locs : List Loc) (ls : Array Slot) , lv_has ls 2 [(0, .ref h0), (1, .int x1)] → th_I (okC E) D G [] H → va_S (th_A G) s.heap H locs → W p l e R s m args below meth c H locs 0 0 QF (F0 m 22 ls []) := by
    intro H locs ls  hl  hI hS
    refine lv_iload_n hx hb dX11_count_22 rfl (lv_at hl 1 rfl) ?_
    have k5231 := iv_lo x1
    have k5232 := iv_hi x1
    by_cases c5233 : x1 = 0
    · skip
      have k5234 := iv_eq (X := x1.toInt) (Y := 0) rfl (by decide) c5233
      refine lv_tableIn (tgt := 100) (off := 77) hx hb dX11_count_23 (by omega) (by omega) (by rw [k5234]; rfl) (by decide) ?_
      refine lv_aload_n hx hb dX11_count_100 rfl (lv_at hl 0 rfl) ?_
      obtain ⟨a5235, a5238, a5240, a5242, a5244, a5246, a5248, a5250, a5252, a5254, a5256, w5258, w5261, w5262, w5263, w5264, hO, hq5236, hq5237, hq5239, hq5241, hq5243, hq5245, hq5247, hq5249, hq5251, hq5253, hq5255, hq5257, ⟨k5259, k5260⟩, k5265⟩ := op_15 hI hG0 List.not_mem_nil
      have hI := th_I.weak (a := h0) hI
      refine th_get hx hb hts inT11 hown hK hO rfl 0 (by decide) (hts _ (tb_c wd_345)) rfl rfl dX11_count_101 ?_
      have hI := th_I.close hI hG0 hO (ok_15 hq5236 hq5237 hq5239 hq5241 hq5243 hq5245 hq5247 hq5249 hq5251 hq5253 hq5255 hq5257 ⟨by omega, by omega⟩ k5265)
      obtain ⟨a5266, a5268, a5270, a5272, a5274, a5276, a5278, a5280, a5282, a5284, w5286, w5289, w5290, w5291, hO, hq5267, hq5269, hq5271, hq5273, hq5275, hq5277, hq5279, hq5281, hq5283, hq5285, ⟨k5287, k5288⟩, k5292⟩ := op_6 hI hq5236 List.not_mem_nil
      have hI := th_I.weak (a := a5235) hI
      refine th_getN hx hb hts inT6 hown hK hN hO rfl 10 (by decide) wn_83 rfl rfl dX11_count_104 ?_
      have hI := th_I.close hI hq5236 hO (ok_6 hq5267 hq5269 hq5271 hq5273 hq5275 hq5277 hq5279 hq5281 hq5283 hq5285 ⟨by omega, by omega⟩ k5292)
      have hpost : True := trivial
      rw [hQ]
      exact W.iret (v := w5286) hx hb hr (fun t ht hW => ⟨⟨w5286, (), rfl, hpost, by rw [ht]; exact hI, hN.warm hW, va_K.moved hW.alike hK⟩, hS.F ht⟩) hS.2.2 dX11_count_107
    have k5293 := iv_ne (X := x1.toInt) (Y := 0) rfl (by decide) c5233
    by_cases c5294 : x1 = 1
    · skip
      have k5295 := iv_eq (X := x1.toInt) (Y := 1) rfl (by decide) c5294
      refine lv_tableIn (tgt := 108) (off := 85) hx hb dX11_count_23 (by omega) (by omega) (by rw [k5295]; rfl) (by decide) ?_
      refine lv_aload_n hx hb dX11_count_108 rfl (lv_at hl 0 rfl) ?_
      obtain ⟨a5296, a5299, a5301, a5303, a5305, a5307, a5309, a5311, a5313, a5315, a5317, w5319, w5322, w5323, w5324, w5325, hO, hq5297, hq5298, hq5300, hq5302, hq5304, hq5306, hq5308, hq5310, hq5312, hq5314, hq5316, hq5318, ⟨k5320, k5321⟩, k5326⟩ := op_15 hI hG0 List.not_mem_nil
      have hI := th_I.weak (a := h0) hI
      refine th_get hx hb hts inT11 hown hK hO rfl 0 (by decide) (hts _ (tb_c wd_345)) rfl rfl dX11_count_109 ?_
      have hI := th_I.close hI hG0 hO (ok_15 hq5297 hq5298 hq5300 hq5302 hq5304 hq5306 hq5308 hq5310 hq5312 hq5314 hq5316 hq5318 ⟨by omega, by omega⟩ k5326)
      refine th_cVi (As := []) (rest := []) (n := 0) (d := 0) ⟨hx, hb, hml, hown, hts⟩ (c_X6_countStrikes l E D G a5296 hq5297 ) wd_1219 wd_1220 wd_1221 wd_2 wd_1222 (by decide +kernel) ⟨by rw [hR]; exact Nat.le_of_ble_eq_true rfl, by rw [hR]; exact Nat.le_of_ble_eq_true rfl⟩ hI hN hK hS (rc_6 hI hq5297 List.not_mem_nil) rfl rfl hl.1 rfl (Nat.le_of_ble_eq_true rfl) dX11_count_112 ⟨Nat.zero_le _, Nat.zero_le _⟩ (fun r5327 H locs hp hI hS => ?_)
      have hpost : True := trivial
      rw [hQ]
      exact W.iret (v := r5327) hx hb hr (fun t ht hW => ⟨⟨r5327, (), rfl, hpost, by rw [ht]; exact hI, hN.warm hW, va_K.moved hW.alike hK⟩, hS.F ht⟩) hS.2.2 dX11_count_115
    have k5328 := iv_ne (X := x1.toInt) (Y := 1) rfl (by decide) c5294
    by_cases c5329 : x1 = 2
    · skip
      have k5330 := iv_eq (X := x1.toInt) (Y := 2) rfl (by decide) c5329
      refine lv_tableIn (tgt := 116) (off := 93) hx hb dX11_count_23 (by omega) (by omega) (by rw [k5330]; rfl) (by decide) ?_
      refine lv_aload_n hx hb dX11_count_116 rfl (lv_at hl 0 rfl) ?_
      obtain ⟨a5331, a5334, a5336, a5338, a5340, a5342, a5344, a5346, a5348, a5350, a5352, w5354, w5357, w5358, w5359, w5360, hO, hq5332, hq5333, hq5335, hq5337, hq5339, hq5341, hq5343, hq5345, hq5347, hq5349, hq5351, hq5353, ⟨k5355, k5356⟩, k5361⟩ := op_15 hI hG0 List.not_mem_nil
      have hI := th_I.weak (a := h0) hI
      refine th_get hx hb hts inT11 hown hK hO rfl 0 (by decide) (hts _ (tb_c wd_345)) rfl rfl dX11_count_117 ?_
      have hI := th_I.close hI hG0 hO (ok_15 hq5332 hq5333 hq5335 hq5337 hq5339 hq5341 hq5343 hq5345 hq5347 hq5349 hq5351 hq5353 ⟨by omega, by omega⟩ k5361)
      obtain ⟨a5362, a5364, a5366, a5368, a5370, a5372, a5374, a5376, a5378, a5380, w5382, w5385, w5386, w5387, hO, hq5363, hq5365, hq5367, hq5369, hq5371, hq5373, hq5375, hq5377, hq5379, hq5381, ⟨k5383, k5384⟩, k5388⟩ := op_6 hI hq5332 List.not_mem_nil
      have hI := th_I.weak (a := a5331) hI
      refine th_getN hx hb hts inT6 hown hK hN hO rfl 2 (by decide) wn_61 rfl rfl dX11_count_120 ?_
      have hI := th_I.close hI hq5332 hO (ok_6 hq5363 hq5365 hq5367 hq5369 hq5371 hq5373 hq5375 hq5377 hq5379 hq5381 ⟨by omega, by omega⟩ k5388)
      obtain ⟨a5390, w5392, hO, hq5391, ⟨k5393, k5394⟩, k5395⟩ := op_4 hI hq5367 List.not_mem_nil
      have hI := th_I.weak (a := a5366) hI
      have k5396 : (nI (8 % 32)).toInt = ((8 % 32 : Nat) : Int) := nI_toInt (by omega)
      have k5397 := k5395.1
      refine th_cVs (As := []) (rest := []) (n := 0) (d := 0) ⟨hx, hb, hml, hown, hts⟩ (c_X4_size l E D H a5366 (8 % 32) a5390 w5392 hO (by omega) (by omega) (by omega)) wd_506 wd_507 wd_508 wd_3 wd_509 (by decide +kernel) ⟨by rw [hR]; exact Nat.le_of_ble_eq_true rfl, by rw [hR]; exact Nat.le_of_ble_eq_true rfl⟩ hN hK hS ⟨_, hO⟩ rfl rfl hl.1 rfl (Nat.le_of_ble_eq_true rfl) dX11_count_123 ⟨Nat.zero_le _, Nat.zero_le _⟩ (fun r5389 locs hp hS => ?_)
      have hp := hp.symm
      subst hp
      have hI := th_I.close hI hq5367 hO (ok_4 hq5391 ⟨by omega, by omega⟩ k5395)
      have hpost : True := trivial
      rw [hQ]
      exact W.iret (v := w5392) hx hb hr (fun t ht hW => ⟨⟨w5392, (), rfl, hpost, by rw [ht]; exact hI, hN.warm hW, va_K.moved hW.alike hK⟩, hS.F ht⟩) hS.2.2 dX11_count_126
    have k5398 := iv_ne (X := x1.toInt) (Y := 2) rfl (by decide) c5329
    by_cases c5399 : x1 = 3
    · skip
      have k5400 := iv_eq (X := x1.toInt) (Y := 3) rfl (by decide) c5399
      refine lv_tableIn (tgt := 127) (off := 104) hx hb dX11_count_23 (by omega) (by omega) (by rw [k5400]; rfl) (by decide) ?_
      refine lv_aload_n hx hb dX11_count_127 rfl (lv_at hl 0 rfl) ?_
      obtain ⟨a5401, a5404, a5406, a5408, a5410, a5412, a5414, a5416, a5418, a5420, a5422, w5424, w5427, w5428, w5429, w5430, hO, hq5402, hq5403, hq5405, hq5407, hq5409, hq5411, hq5413, hq5415, hq5417, hq5419, hq5421, hq5423, ⟨k5425, k5426⟩, k5431⟩ := op_15 hI hG0 List.not_mem_nil
      have hI := th_I.weak (a := h0) hI
      refine th_get hx hb hts inT11 hown hK hO rfl 0 (by decide) (hts _ (tb_c wd_345)) rfl rfl dX11_count_128 ?_
      have hI := th_I.close hI hG0 hO (ok_15 hq5402 hq5403 hq5405 hq5407 hq5409 hq5411 hq5413 hq5415 hq5417 hq5419 hq5421 hq5423 ⟨by omega, by omega⟩ k5431)
      obtain ⟨a5432, a5434, a5436, a5438, a5440, a5442, a5444, a5446, a5448, a5450, w5452, w5455, w5456, w5457, hO, hq5433, hq5435, hq5437, hq5439, hq5441, hq5443, hq5445, hq5447, hq5449, hq5451, ⟨k5453, k5454⟩, k5458⟩ := op_6 hI hq5402 List.not_mem_nil
      have hI := th_I.weak (a := a5401) hI
      refine th_getN hx hb hts inT6 hown hK hN hO rfl 3 (by decide) wn_64 rfl rfl dX11_count_131 ?_
      have hI := th_I.close hI hq5402 hO (ok_6 hq5433 hq5435 hq5437 hq5439 hq5441 hq5443 hq5445 hq5447 hq5449 hq5451 ⟨by omega, by omega⟩ k5458)
      obtain ⟨a5460, w5462, hO, hq5461, ⟨k5463, k5464⟩, k5465⟩ := op_4 hI hq5439 List.not_mem_nil
      have hI := th_I.weak (a := a5438) hI
      have k5466 : (nI (6 % 32)).toInt = ((6 % 32 : Nat) : Int) := nI_toInt (by omega)
      have k5467 := k5465.1
      refine th_cVs (As := []) (rest := []) (n := 0) (d := 0) ⟨hx, hb, hml, hown, hts⟩ (c_X4_size l E D H a5438 (6 % 32) a5460 w5462 hO (by omega) (by omega) (by omega)) wd_506 wd_507 wd_508 wd_3 wd_509 (by decide +kernel) ⟨by rw [hR]; exact Nat.le_of_ble_eq_true rfl, by rw [hR]; exact Nat.le_of_ble_eq_true rfl⟩ hN hK hS ⟨_, hO⟩ rfl rfl hl.1 rfl (Nat.le_of_ble_eq_true rfl) dX11_count_134 ⟨Nat.zero_le _, Nat.zero_le _⟩ (fun r5459 locs hp hS => ?_)
      have hp := hp.symm
      subst hp
      have hI := th_I.close hI hq5439 hO (ok_4 hq5461 ⟨by omega, by omega⟩ k5465)
      have hpost : True := trivial
      rw [hQ]
      exact W.iret (v := w5462) hx hb hr (fun t ht hW => ⟨⟨w5462, (), rfl, hpost, by rw [ht]; exact hI, hN.warm hW, va_K.moved hW.alike hK⟩, hS.F ht⟩) hS.2.2 dX11_count_137
    have k5468 := iv_ne (X := x1.toInt) (Y := 3) rfl (by decide) c5399
    by_cases c5469 : x1 = 4
    · skip
      have k5470 := iv_eq (X := x1.toInt) (Y := 4) rfl (by decide) c5469
      refine lv_tableIn (tgt := 138) (off := 115) hx hb dX11_count_23 (by omega) (by omega) (by rw [k5470]; rfl) (by decide) ?_
      refine lv_aload_n hx hb dX11_count_138 rfl (lv_at hl 0 rfl) ?_
      obtain ⟨a5471, a5474, a5476, a5478, a5480, a5482, a5484, a5486, a5488, a5490, a5492, w5494, w5497, w5498, w5499, w5500, hO, hq5472, hq5473, hq5475, hq5477, hq5479, hq5481, hq5483, hq5485, hq5487, hq5489, hq5491, hq5493, ⟨k5495, k5496⟩, k5501⟩ := op_15 hI hG0 List.not_mem_nil
      have hI := th_I.weak (a := h0) hI
      refine th_get hx hb hts inT11 hown hK hO rfl 0 (by decide) (hts _ (tb_c wd_345)) rfl rfl dX11_count_139 ?_
      have hI := th_I.close hI hG0 hO (ok_15 hq5472 hq5473 hq5475 hq5477 hq5479 hq5481 hq5483 hq5485 hq5487 hq5489 hq5491 hq5493 ⟨by omega, by omega⟩ k5501)
      obtain ⟨a5502, a5504, a5506, a5508, a5510, a5512, a5514, a5516, a5518, a5520, w5522, w5525, w5526, w5527, hO, hq5503, hq5505, hq5507, hq5509, hq5511, hq5513, hq5515, hq5517, hq5519, hq5521, ⟨k5523, k5524⟩, k5528⟩ := op_6 hI hq5472 List.not_mem_nil
      have hI := th_I.weak (a := a5471) hI
      refine th_getN hx hb hts inT6 hown hK hN hO rfl 4 (by decide) wn_68 rfl rfl dX11_count_142 ?_
      have hI := th_I.close hI hq5472 hO (ok_6 hq5503 hq5505 hq5507 hq5509 hq5511 hq5513 hq5515 hq5517 hq5519 hq5521 ⟨by omega, by omega⟩ k5528)
      obtain ⟨a5530, w5532, hO, hq5531, ⟨k5533, k5534⟩, k5535⟩ := op_4 hI hq5511 List.not_mem_nil
      have hI := th_I.weak (a := a5510) hI
      have k5536 : (nI (6 % 32)).toInt = ((6 % 32 : Nat) : Int) := nI_toInt (by omega)
      have k5537 := k5535.1
      refine th_cVs (As := []) (rest := []) (n := 0) (d := 0) ⟨hx, hb, hml, hown, hts⟩ (c_X4_size l E D H a5510 (6 % 32) a5530 w5532 hO (by omega) (by omega) (by omega)) wd_506 wd_507 wd_508 wd_3 wd_509 (by decide +kernel) ⟨by rw [hR]; exact Nat.le_of_ble_eq_true rfl, by rw [hR]; exact Nat.le_of_ble_eq_true rfl⟩ hN hK hS ⟨_, hO⟩ rfl rfl hl.1 rfl (Nat.le_of_ble_eq_true rfl) dX11_count_145 ⟨Nat.zero_le _, Nat.zero_le _⟩ (fun r5529 locs hp hS => ?_)
      have hp := hp.symm
      subst hp
      have hI := th_I.close hI hq5511 hO (ok_4 hq5531 ⟨by omega, by omega⟩ k5535)
      have hpost : True := trivial
      rw [hQ]
      exact W.iret (v := w5532) hx hb hr (fun t ht hW => ⟨⟨w5532, (), rfl, hpost, by rw [ht]; exact hI, hN.warm hW, va_K.moved hW.alike hK⟩, hS.F ht⟩) hS.2.2 dX11_count_148
    have k5538 := iv_ne (X := x1.toInt) (Y := 4) rfl (by decide) c5469
    by_cases c5539 : x1 = 5
    · skip
      have k5540 := iv_eq (X := x1.toInt) (Y := 5) rfl (by decide) c5539
      refine lv_tableIn (tgt := 149) (off := 126) hx hb dX11_count_23 (by omega) (by omega) (by rw [k5540]; rfl) (by decide) ?_
      refine lv_aload_n hx hb dX11_count_149 rfl (lv_at hl 0 rfl) ?_
      obtain ⟨a5541, a5544, a5546, a5548, a5550, a5552, a5554, a5556, a5558, a5560, a5562, w5564, w5567, w5568, w5569, w5570, hO, hq5542, hq5543, hq5545, hq5547, hq5549, hq5551, hq5553, hq5555, hq5557, hq5559, hq5561, hq5563, ⟨k5565, k5566⟩, k5571⟩ := op_15 hI hG0 List.not_mem_nil
      have hI := th_I.weak (a := h0) hI
      refine th_get hx hb hts inT11 hown hK hO rfl 0 (by decide) (hts _ (tb_c wd_345)) rfl rfl dX11_count_150 ?_
      have hI := th_I.close hI hG0 hO (ok_15 hq5542 hq5543 hq5545 hq5547 hq5549 hq5551 hq5553 hq5555 hq5557 hq5559 hq5561 hq5563 ⟨by omega, by omega⟩ k5571)
      obtain ⟨a5572, a5574, a5576, a5578, a5580, a5582, a5584, a5586, a5588, a5590, w5592, w5595, w5596, w5597, hO, hq5573, hq5575, hq5577, hq5579, hq5581, hq5583, hq5585, hq5587, hq5589, hq5591, ⟨k5593, k5594⟩, k5598⟩ := op_6 hI hq5542 List.not_mem_nil
      have hI := th_I.weak (a := a5541) hI
      refine th_getN hx hb hts inT6 hown hK hN hO rfl 5 (by decide) wn_71 rfl rfl dX11_count_153 ?_
      have hI := th_I.close hI hq5542 hO (ok_6 hq5573 hq5575 hq5577 hq5579 hq5581 hq5583 hq5585 hq5587 hq5589 hq5591 ⟨by omega, by omega⟩ k5598)
      obtain ⟨a5600, w5602, hO, hq5601, ⟨k5603, k5604⟩, k5605⟩ := op_4 hI hq5583 List.not_mem_nil
      have hI := th_I.weak (a := a5582) hI
      have k5606 : (nI (16 % 32)).toInt = ((16 % 32 : Nat) : Int) := nI_toInt (by omega)
      have k5607 := k5605.1
      refine th_cVs (As := []) (rest := []) (n := 0) (d := 0) ⟨hx, hb, hml, hown, hts⟩ (c_X4_size l E D H a5582 (16 % 32) a5600 w5602 hO (by omega) (by omega) (by omega)) wd_506 wd_507 wd_508 wd_3 wd_509 (by decide +kernel) ⟨by rw [hR]; exact Nat.le_of_ble_eq_true rfl, by rw [hR]; exact Nat.le_of_ble_eq_true rfl⟩ hN hK hS ⟨_, hO⟩ rfl rfl hl.1 rfl (Nat.le_of_ble_eq_true rfl) dX11_count_156 ⟨Nat.zero_le _, Nat.zero_le _⟩ (fun r5599 locs hp hS => ?_)
      have hp := hp.symm
      subst hp
      have hI := th_I.close hI hq5583 hO (ok_4 hq5601 ⟨by omega, by omega⟩ k5605)
      have hpost : True := trivial
      rw [hQ]
      exact W.iret (v := w5602) hx hb hr (fun t ht hW => ⟨⟨w5602, (), rfl, hpost, by rw [ht]; exact hI, hN.warm hW, va_K.moved hW.alike hK⟩, hS.F ht⟩) hS.2.2 dX11_count_159
    have k5608 := iv_ne (X := x1.toInt) (Y := 5) rfl (by decide) c5539
    by_cases c5609 : x1 = 6
    · skip
      have k5610 := iv_eq (X := x1.toInt) (Y := 6) rfl (by decide) c5609
      refine lv_tableIn (tgt := 160) (off := 137) hx hb dX11_count_23 (by omega) (by omega) (by rw [k5610]; rfl) (by decide) ?_
      refine lv_aload_n hx hb dX11_count_160 rfl (lv_at hl 0 rfl) ?_
      obtain ⟨a5611, a5614, a5616, a5618, a5620, a5622, a5624, a5626, a5628, a5630, a5632, w5634, w5637, w5638, w5639, w5640, hO, hq5612, hq5613, hq5615, hq5617, hq5619, hq5621, hq5623, hq5625, hq5627, hq5629, hq5631, hq5633, ⟨k5635, k5636⟩, k5641⟩ := op_15 hI hG0 List.not_mem_nil
      have hI := th_I.weak (a := h0) hI
      refine th_get hx hb hts inT11 hown hK hO rfl 0 (by decide) (hts _ (tb_c wd_345)) rfl rfl dX11_count_161 ?_
      have hI := th_I.close hI hG0 hO (ok_15 hq5612 hq5613 hq5615 hq5617 hq5619 hq5621 hq5623 hq5625 hq5627 hq5629 hq5631 hq5633 ⟨by omega, by omega⟩ k5641)
      obtain ⟨a5642, a5644, a5646, a5648, a5650, a5652, a5654, a5656, a5658, a5660, w5662, w5665, w5666, w5667, hO, hq5643, hq5645, hq5647, hq5649, hq5651, hq5653, hq5655, hq5657, hq5659, hq5661, ⟨k5663, k5664⟩, k5668⟩ := op_6 hI hq5612 List.not_mem_nil
      have hI := th_I.weak (a := a5611) hI
      refine th_getN hx hb hts inT6 hown hK hN hO rfl 6 (by decide) wn_74 rfl rfl dX11_count_164 ?_
      have hI := th_I.close hI hq5612 hO (ok_6 hq5643 hq5645 hq5647 hq5649 hq5651 hq5653 hq5655 hq5657 hq5659 hq5661 ⟨by omega, by omega⟩ k5668)
      obtain ⟨a5670, w5672, hO, hq5671, ⟨k5673, k5674⟩, k5675⟩ := op_4 hI hq5655 List.not_mem_nil
      have hI := th_I.weak (a := a5654) hI
      have k5676 : (nI (42 % 32)).toInt = ((42 % 32 : Nat) : Int) := nI_toInt (by omega)
      have k5677 := k5675.1
      refine th_cVs (As := []) (rest := []) (n := 0) (d := 0) ⟨hx, hb, hml, hown, hts⟩ (c_X4_size l E D H a5654 (42 % 32) a5670 w5672 hO (by omega) (by omega) (by omega)) wd_506 wd_507 wd_508 wd_3 wd_509 (by decide +kernel) ⟨by rw [hR]; exact Nat.le_of_ble_eq_true rfl, by rw [hR]; exact Nat.le_of_ble_eq_true rfl⟩ hN hK hS ⟨_, hO⟩ rfl rfl hl.1 rfl (Nat.le_of_ble_eq_true rfl) dX11_count_167 ⟨Nat.zero_le _, Nat.zero_le _⟩ (fun r5669 locs hp hS => ?_)
      have hp := hp.symm
      subst hp
      have hI := th_I.close hI hq5655 hO (ok_4 hq5671 ⟨by omega, by omega⟩ k5675)
      have hpost : True := trivial
      rw [hQ]
      exact W.iret (v := w5672) hx hb hr (fun t ht hW => ⟨⟨w5672, (), rfl, hpost, by rw [ht]; exact hI, hN.warm hW, va_K.moved hW.alike hK⟩, hS.F ht⟩) hS.2.2 dX11_count_170
    have k5678 := iv_ne (X := x1.toInt) (Y := 6) rfl (by decide) c5609
    by_cases c5679 : x1 = 7
    · skip
      have k5680 := iv_eq (X := x1.toInt) (Y := 7) rfl (by decide) c5679
      refine lv_tableIn (tgt := 171) (off := 148) hx hb dX11_count_23 (by omega) (by omega) (by rw [k5680]; rfl) (by decide) ?_
      refine lv_aload_n hx hb dX11_count_171 rfl (lv_at hl 0 rfl) ?_
      obtain ⟨a5681, a5684, a5686, a5688, a5690, a5692, a5694, a5696, a5698, a5700, a5702, w5704, w5707, w5708, w5709, w5710, hO, hq5682, hq5683, hq5685, hq5687, hq5689, hq5691, hq5693, hq5695, hq5697, hq5699, hq5701, hq5703, ⟨k5705, k5706⟩, k5711⟩ := op_15 hI hG0 List.not_mem_nil
      have hI := th_I.weak (a := h0) hI
      refine th_get hx hb hts inT11 hown hK hO rfl 0 (by decide) (hts _ (tb_c wd_345)) rfl rfl dX11_count_172 ?_
      have hI := th_I.close hI hG0 hO (ok_15 hq5682 hq5683 hq5685 hq5687 hq5689 hq5691 hq5693 hq5695 hq5697 hq5699 hq5701 hq5703 ⟨by omega, by omega⟩ k5711)
      obtain ⟨a5712, a5714, a5716, a5718, a5720, a5722, a5724, a5726, a5728, a5730, w5732, w5735, w5736, w5737, hO, hq5713, hq5715, hq5717, hq5719, hq5721, hq5723, hq5725, hq5727, hq5729, hq5731, ⟨k5733, k5734⟩, k5738⟩ := op_6 hI hq5682 List.not_mem_nil
      have hI := th_I.weak (a := a5681) hI
      refine th_getN hx hb hts inT6 hown hK hN hO rfl 7 (by decide) wn_77 rfl rfl dX11_count_175 ?_
      have hI := th_I.close hI hq5682 hO (ok_6 hq5713 hq5715 hq5717 hq5719 hq5721 hq5723 hq5725 hq5727 hq5729 hq5731 ⟨by omega, by omega⟩ k5738)
      obtain ⟨a5740, w5742, hO, hq5741, ⟨k5743, k5744⟩, k5745⟩ := op_4 hI hq5727 List.not_mem_nil
      have hI := th_I.weak (a := a5726) hI
      have k5746 : (nI (6 % 32)).toInt = ((6 % 32 : Nat) : Int) := nI_toInt (by omega)
      have k5747 := k5745.1
      refine th_cVs (As := []) (rest := []) (n := 0) (d := 0) ⟨hx, hb, hml, hown, hts⟩ (c_X4_size l E D H a5726 (6 % 32) a5740 w5742 hO (by omega) (by omega) (by omega)) wd_506 wd_507 wd_508 wd_3 wd_509 (by decide +kernel) ⟨by rw [hR]; exact Nat.le_of_ble_eq_true rfl, by rw [hR]; exact Nat.le_of_ble_eq_true rfl⟩ hN hK hS ⟨_, hO⟩ rfl rfl hl.1 rfl (Nat.le_of_ble_eq_true rfl) dX11_count_178 ⟨Nat.zero_le _, Nat.zero_le _⟩ (fun r5739 locs hp hS => ?_)
      have hp := hp.symm
      subst hp
      have hI := th_I.close hI hq5727 hO (ok_4 hq5741 ⟨by omega, by omega⟩ k5745)
      have hpost : True := trivial
      rw [hQ]
      exact W.iret (v := w5742) hx hb hr (fun t ht hW => ⟨⟨w5742, (), rfl, hpost, by rw [ht]; exact hI, hN.warm hW, va_K.moved hW.alike hK⟩, hS.F ht⟩) hS.2.2 dX11_count_181
    have k5748 := iv_ne (X := x1.toInt) (Y := 7) rfl (by decide) c5679
    by_cases c5749 : x1 = 8
    · skip
      have k5750 := iv_eq (X := x1.toInt) (Y := 8) rfl (by decide) c5749
      refine lv_tableIn (tgt := 182) (off := 159) hx hb dX11_count_23 (by omega) (by omega) (by rw [k5750]; rfl) (by decide) ?_
      refine lv_aload_n hx hb dX11_count_182 rfl (lv_at hl 0 rfl) ?_
      obtain ⟨a5751, a5754, a5756, a5758, a5760, a5762, a5764, a5766, a5768, a5770, a5772, w5774, w5777, w5778, w5779, w5780, hO, hq5752, hq5753, hq5755, hq5757, hq5759, hq5761, hq5763, hq5765, hq5767, hq5769, hq5771, hq5773, ⟨k5775, k5776⟩, k5781⟩ := op_15 hI hG0 List.not_mem_nil
      have hI := th_I.weak (a := h0) hI
      refine th_get hx hb hts inT11 hown hK hO rfl 0 (by decide) (hts _ (tb_c wd_345)) rfl rfl dX11_count_183 ?_
      have hI := th_I.close hI hG0 hO (ok_15 hq5752 hq5753 hq5755 hq5757 hq5759 hq5761 hq5763 hq5765 hq5767 hq5769 hq5771 hq5773 ⟨by omega, by omega⟩ k5781)
      obtain ⟨a5782, a5784, a5786, a5788, a5790, a5792, a5794, a5796, a5798, a5800, w5802, w5805, w5806, w5807, hO, hq5783, hq5785, hq5787, hq5789, hq5791, hq5793, hq5795, hq5797, hq5799, hq5801, ⟨k5803, k5804⟩, k5808⟩ := op_6 hI hq5752 List.not_mem_nil
      have hI := th_I.weak (a := a5751) hI
      refine th_getN hx hb hts inT6 hown hK hN hO rfl 8 (by decide) wn_80 rfl rfl dX11_count_186 ?_
      have hI := th_I.close hI hq5752 hO (ok_6 hq5783 hq5785 hq5787 hq5789 hq5791 hq5793 hq5795 hq5797 hq5799 hq5801 ⟨by omega, by omega⟩ k5808)
      obtain ⟨a5810, w5812, hO, hq5811, ⟨k5813, k5814⟩, k5815⟩ := op_4 hI hq5799 List.not_mem_nil
      have hI := th_I.weak (a := a5798) hI
      have k5816 : (nI (6 % 32)).toInt = ((6 % 32 : Nat) : Int) := nI_toInt (by omega)
      have k5817 := k5815.1
      refine th_cVs (As := []) (rest := []) (n := 0) (d := 0) ⟨hx, hb, hml, hown, hts⟩ (c_X4_size l E D H a5798 (6 % 32) a5810 w5812 hO (by omega) (by omega) (by omega)) wd_506 wd_507 wd_508 wd_3 wd_509 (by decide +kernel) ⟨by rw [hR]; exact Nat.le_of_ble_eq_true rfl, by rw [hR]; exact Nat.le_of_ble_eq_true rfl⟩ hN hK hS ⟨_, hO⟩ rfl rfl hl.1 rfl (Nat.le_of_ble_eq_true rfl) dX11_count_189 ⟨Nat.zero_le _, Nat.zero_le _⟩ (fun r5809 locs hp hS => ?_)
      have hp := hp.symm
      subst hp
      have hI := th_I.close hI hq5799 hO (ok_4 hq5811 ⟨by omega, by omega⟩ k5815)
      have hpost : True := trivial
      rw [hQ]
      exact W.iret (v := w5812) hx hb hr (fun t ht hW => ⟨⟨w5812, (), rfl, hpost, by rw [ht]; exact hI, hN.warm hW, va_K.moved hW.alike hK⟩, hS.F ht⟩) hS.2.2 dX11_count_192
    have k5818 := iv_ne (X := x1.toInt) (Y := 8) rfl (by decide) c5749
    by_cases c5819 : x1 = 9
    · skip
      have k5820 := iv_eq (X := x1.toInt) (Y := 9) rfl (by decide) c5819
      refine lv_tableIn (tgt := 193) (off := 170) hx hb dX11_count_23 (by omega) (by omega) (by rw [k5820]; rfl) (by decide) ?_
      refine lv_aload_n hx hb dX11_count_193 rfl (lv_at hl 0 rfl) ?_
      obtain ⟨a5821, a5824, a5826, a5828, a5830, a5832, a5834, a5836, a5838, a5840, a5842, w5844, w5847, w5848, w5849, w5850, hO, hq5822, hq5823, hq5825, hq5827, hq5829, hq5831, hq5833, hq5835, hq5837, hq5839, hq5841, hq5843, ⟨k5845, k5846⟩, k5851⟩ := op_15 hI hG0 List.not_mem_nil
      have hI := th_I.weak (a := h0) hI
      refine th_get hx hb hts inT11 hown hK hO rfl 12 (by decide) (hts _ (tb_c wd_357)) rfl rfl dX11_count_194 ?_
      have hI := th_I.close hI hG0 hO (ok_15 hq5822 hq5823 hq5825 hq5827 hq5829 hq5831 hq5833 hq5835 hq5837 hq5839 hq5841 hq5843 ⟨by omega, by omega⟩ k5851)
      have hpost : True := trivial
      rw [hQ]
      exact W.iret (v := w5844) hx hb hr (fun t ht hW => ⟨⟨w5844, (), rfl, hpost, by rw [ht]; exact hI, hN.warm hW, va_K.moved hW.alike hK⟩, hS.F ht⟩) hS.2.2 dX11_count_197
    have k5852 := iv_ne (X := x1.toInt) (Y := 9) rfl (by decide) c5819
    by_cases c5853 : x1 = 10
    · skip
      have k5854 := iv_eq (X := x1.toInt) (Y := 10) rfl (by decide) c5853
      refine lv_tableIn (tgt := 206) (off := 183) hx hb dX11_count_23 (by omega) (by omega) (by rw [k5854]; rfl) (by decide) ?_
      refine lv_iconst (v := (-1)) hx hb dX11_count_206 (by decide) ?_
      have hpost : True := trivial
      rw [hQ]
      exact W.iret (v := (-1)) hx hb hr (fun t ht hW => ⟨⟨(-1), (), rfl, hpost, by rw [ht]; exact hI, hN.warm hW, va_K.moved hW.alike hK⟩, hS.F ht⟩) hS.2.2 dX11_count_207
    have k5855 := iv_ne (X := x1.toInt) (Y := 10) rfl (by decide) c5853
    by_cases c5856 : x1 = 11
    · skip
      have k5857 := iv_eq (X := x1.toInt) (Y := 11) rfl (by decide) c5856
      refine lv_tableIn (tgt := 206) (off := 183) hx hb dX11_count_23 (by omega) (by omega) (by rw [k5857]; rfl) (by decide) ?_
      refine lv_iconst (v := (-1)) hx hb dX11_count_206 (by decide) ?_
      have hpost : True := trivial
      rw [hQ]
      exact W.iret (v := (-1)) hx hb hr (fun t ht hW => ⟨⟨(-1), (), rfl, hpost, by rw [ht]; exact hI, hN.warm hW, va_K.moved hW.alike hK⟩, hS.F ht⟩) hS.2.2 dX11_count_207
    have k5858 := iv_ne (X := x1.toInt) (Y := 11) rfl (by decide) c5856
    by_cases c5859 : x1 = 12
    · skip
      have k5860 := iv_eq (X := x1.toInt) (Y := 12) rfl (by decide) c5859
      refine lv_tableIn (tgt := 206) (off := 183) hx hb dX11_count_23 (by omega) (by omega) (by rw [k5860]; rfl) (by decide) ?_
      refine lv_iconst (v := (-1)) hx hb dX11_count_206 (by decide) ?_
      have hpost : True := trivial
      rw [hQ]
      exact W.iret (v := (-1)) hx hb hr (fun t ht hW => ⟨⟨(-1), (), rfl, hpost, by rw [ht]; exact hI, hN.warm hW, va_K.moved hW.alike hK⟩, hS.F ht⟩) hS.2.2 dX11_count_207
    have k5861 := iv_ne (X := x1.toInt) (Y := 12) rfl (by decide) c5859
    by_cases c5862 : x1 = 13
    · skip
      have k5863 := iv_eq (X := x1.toInt) (Y := 13) rfl (by decide) c5862
      refine lv_tableIn (tgt := 206) (off := 183) hx hb dX11_count_23 (by omega) (by omega) (by rw [k5863]; rfl) (by decide) ?_
      refine lv_iconst (v := (-1)) hx hb dX11_count_206 (by decide) ?_
      have hpost : True := trivial
      rw [hQ]
      exact W.iret (v := (-1)) hx hb hr (fun t ht hW => ⟨⟨(-1), (), rfl, hpost, by rw [ht]; exact hI, hN.warm hW, va_K.moved hW.alike hK⟩, hS.F ht⟩) hS.2.2 dX11_count_207
    have k5864 := iv_ne (X := x1.toInt) (Y := 13) rfl (by decide) c5862
    by_cases c5865 : x1 = 14
    · skip
      have k5866 := iv_eq (X := x1.toInt) (Y := 14) rfl (by decide) c5865
      refine lv_tableIn (tgt := 206) (off := 183) hx hb dX11_count_23 (by omega) (by omega) (by rw [k5866]; rfl) (by decide) ?_
      refine lv_iconst (v := (-1)) hx hb dX11_count_206 (by decide) ?_
      have hpost : True := trivial
      rw [hQ]
      exact W.iret (v := (-1)) hx hb hr (fun t ht hW => ⟨⟨(-1), (), rfl, hpost, by rw [ht]; exact hI, hN.warm hW, va_K.moved hW.alike hK⟩, hS.F ht⟩) hS.2.2 dX11_count_207
    have k5867 := iv_ne (X := x1.toInt) (Y := 14) rfl (by decide) c5865
    by_cases c5868 : x1 = 15
    · skip
      have k5869 := iv_eq (X := x1.toInt) (Y := 15) rfl (by decide) c5868
      refine lv_tableIn (tgt := 198) (off := 175) hx hb dX11_count_23 (by omega) (by omega) (by rw [k5869]; rfl) (by decide) ?_
      refine lv_aload_n hx hb dX11_count_198 rfl (lv_at hl 0 rfl) ?_
      obtain ⟨a5870, a5873, a5875, a5877, a5879, a5881, a5883, a5885, a5887, a5889, a5891, w5893, w5896, w5897, w5898, w5899, hO, hq5871, hq5872, hq5874, hq5876, hq5878, hq5880, hq5882, hq5884, hq5886, hq5888, hq5890, hq5892, ⟨k5894, k5895⟩, k5900⟩ := op_15 hI hG0 List.not_mem_nil
      have hI := th_I.weak (a := h0) hI
      refine th_get hx hb hts inT11 hown hK hO rfl 0 (by decide) (hts _ (tb_c wd_345)) rfl rfl dX11_count_199 ?_
      have hI := th_I.close hI hG0 hO (ok_15 hq5871 hq5872 hq5874 hq5876 hq5878 hq5880 hq5882 hq5884 hq5886 hq5888 hq5890 hq5892 ⟨by omega, by omega⟩ k5900)
      obtain ⟨a5901, a5903, a5905, a5907, a5909, a5911, a5913, a5915, a5917, a5919, w5921, w5924, w5925, w5926, hO, hq5902, hq5904, hq5906, hq5908, hq5910, hq5912, hq5914, hq5916, hq5918, hq5920, ⟨k5922, k5923⟩, k5927⟩ := op_6 hI hq5871 List.not_mem_nil
      have hI := th_I.weak (a := a5870) hI
      refine th_getN hx hb hts inT6 hown hK hN hO rfl 11 (by decide) wn_85 rfl rfl dX11_count_202 ?_
      have hI := th_I.close hI hq5871 hO (ok_6 hq5902 hq5904 hq5906 hq5908 hq5910 hq5912 hq5914 hq5916 hq5918 hq5920 ⟨by omega, by omega⟩ k5927)
      have hpost : True := trivial
      rw [hQ]
      exact W.iret (v := w5924) hx hb hr (fun t ht hW => ⟨⟨w5924, (), rfl, hpost, by rw [ht]; exact hI, hN.warm hW, va_K.moved hW.alike hK⟩, hS.F ht⟩) hS.2.2 dX11_count_205
    have k5928 := iv_ne (X := x1.toInt) (Y := 15) rfl (by decide) c5868
    refine lv_tableOut (tgt := 206) hx hb dX11_count_23 (by omega) (by decide) ?_
    refine lv_iconst (v := (-1)) hx hb dX11_count_206 (by decide) ?_
    have hpost : True := trivial
    rw [hQ]
    exact W.iret (v := (-1)) hx hb hr (fun t ht hW => ⟨⟨(-1), (), rfl, hpost, by rw [ht]; exact hI, hN.warm hW, va_K.moved hW.alike hK⟩, hS.F ht⟩) hS.2.2 dX11_count_207
  refine lv_iload_n hx hb dX11_count_0 rfl (lv_at hl 1 rfl) ?_
  refine lv_bipush (v := 10) hx hb dX11_count_1 (by decide) ?_
  have k5929 := iv_lo x1
  have k5930 := iv_hi x1
  refine lv_icmp_lt (tgt := 22) hx hb dX11_count_3 (by decide) (fun c5931 => ?_) (fun c5931 => ?_)
  · skip
    have k5932 := iv_lt (X := x1.toInt) (Y := (10)) rfl (by decide) c5931
    exact J_22 s.heap [] ls  (lv_sub hl [0, 1] rfl)  hI hS
  · skip
    have k5933 := iv_nlt (X := x1.toInt) (Y := (10)) rfl (by decide) c5931
    refine lv_iload_n hx hb dX11_count_6 rfl (lv_at hl 1 rfl) ?_
    refine lv_bipush (v := 14) hx hb dX11_count_7 (by decide) ?_
    refine lv_icmp_gt (tgt := 22) hx hb dX11_count_9 (by decide) (fun c5934 => ?_) (fun c5934 => ?_)
    · skip
      have k5935 := iv_lt (X := (14)) (Y := x1.toInt) (by decide) rfl c5934
      exact J_22 s.heap [] ls  (lv_sub hl [0, 1] rfl)  hI hS
    · skip
      have k5936 := iv_nlt (X := (14)) (Y := x1.toInt) (by decide) rfl c5934
      refine lv_aload_n hx hb dX11_count_12 rfl (lv_at hl 0 rfl) ?_
      obtain ⟨a5937, a5940, a5942, a5944, a5946, a5948, a5950, a5952, a5954, a5956, a5958, w5960, w5963, w5964, w5965, w5966, hO, hq5938, hq5939, hq5941, hq5943, hq5945, hq5947, hq5949, hq5951, hq5953, hq5955, hq5957, hq5959, ⟨k5961, k5962⟩, k5967⟩ := op_15 hI hG0 List.not_mem_nil
      have hI := th_I.weak (a := h0) hI
      refine th_get hx hb hts inT11 hown hK hO rfl 3 (by decide) (hts _ (tb_c wd_348)) rfl rfl dX11_count_13 ?_
      refine lv_iload_n hx hb dX11_count_16 rfl (lv_at hl 1 rfl) ?_
      refine lv_bipush (v := 10) hx hb dX11_count_17 (by decide) ?_
      refine lv_isub hx hb dX11_count_19 ?_
      refine lv_topi (fun v5968 e5969 => ?_)
      have tv5968 : v5968.toInt = x1.toInt - (10) := iv_sub rfl (by decide) e5969 (by omega) (by omega)
      obtain ⟨_, hA5970⟩ := op_0 hI hq5943 (th_ne hG0 hq5943 (show (15 : Nat) ≠ 0 by decide))
      refine th_iald hx hb hK hA5970 0 rfl (iv_in (X := v5968.toInt) rfl (by omega) (by omega)) dX11_count_20 (fun v5971 _ => ?_)
      have hI := th_I.close hI hG0 hO (ok_15 hq5938 hq5939 hq5941 hq5943 hq5945 hq5947 hq5949 hq5951 hq5953 hq5955 hq5957 hq5959 ⟨by omega, by omega⟩ k5967)
      have hpost : True := trivial
      rw [hQ]
      exact W.iret (v := v5971) hx hb hr (fun t ht hW => ⟨⟨v5971, (), rfl, hpost, by rw [ht]; exact hI, hN.warm hW, va_K.moved hW.alike hK⟩, hS.F ht⟩) hS.2.2 dX11_count_21
