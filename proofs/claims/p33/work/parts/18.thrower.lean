theorem wn_1093 : (Cond.methodLinkNest RX8 (58 : Nat) yX11_isMoment "NineRiver") ∈ lw_tbl := List.mem_append_right _ (List.mem_of_getElem? (i := 1093) (by decide +kernel))
theorem wn_1154 : (Cond.methodLinkNest RX10 (65 : Nat) yX11_isHour "NineRiver") ∈ lw_tbl := List.mem_append_right _ (List.mem_of_getElem? (i := 1154) (by decide +kernel))
theorem wn_1155 : (Cond.methodLinkNest RX10 (69 : Nat) yX11_isCell "NineRiver") ∈ lw_tbl := List.mem_append_right _ (List.mem_of_getElem? (i := 1155) (by decide +kernel))
theorem wn_79 : (Cond.fieldLinkNest RX10 (34 : Nat) "NineRiver$State" "wishes" "LNineRiver$Rows;" "NineRiver") ∈ lw_tbl := List.mem_append_right _ (List.mem_of_getElem? (i := 79) (by decide +kernel))
theorem wp_26 : Cond.selects RX8 yX8_goBack yX8_goBack ∈ TB := tv 26 (by decide +kernel) (by decide +kernel)
theorem wp_27 : Cond.selects RX8 yX8_weigh yX8_weigh ∈ TB := tv 27 (by decide +kernel) (by decide +kernel)
theorem wp_36 : Cond.selects RX8 yX8_reply yX8_reply ∈ TB := tv 36 (by decide +kernel) (by decide +kernel)
theorem wp_37 : Cond.selects RX10 yX10_tryClocks yX10_tryClocks ∈ TB := tv 37 (by decide +kernel) (by decide +kernel)
theorem wp_38 : Cond.selects RX10 yX10_findTurn yX10_findTurn ∈ TB := tv 38 (by decide +kernel) (by decide +kernel)
theorem wd_1088 : (Cond.methodLink RX8 (51 : Nat) yX8_reply) ∈ TB := tw 1088 (by decide +kernel) (by decide +kernel)
theorem wd_1090 : (Jvm.Cond.instanceMethod yX8_reply) ∈ TB := tw 1090 (by decide +kernel) (by decide +kernel)
theorem wd_1091 : (Cond.code yX8_reply cX8_reply 5 (Option.none : Option Jvm.ClassFile.FieldType)) ∈ TB := tw 1091 (by decide +kernel) (by decide +kernel)
theorem wd_1092 : (Cond.methodLink RX8 (54 : Nat) yX7_isBarred) ∈ TB := tw 1092 (by decide +kernel) (by decide +kernel)
theorem wd_11 : (Cond.initialized RX8) ∈ TB := tw 11 (by decide +kernel) (by decide +kernel)
theorem wd_1138 : (Cond.methodLink RX10 (40 : Nat) yX4_size) ∈ TB := tw 1138 (by decide +kernel) (by decide +kernel)
theorem wd_1139 : (Cond.methodLink RX10 (46 : Nat) yX4_at) ∈ TB := tw 1139 (by decide +kernel) (by decide +kernel)
theorem wd_1140 : (Cond.methodLink RX10 (50 : Nat) yX9_drift) ∈ TB := tw 1140 (by decide +kernel) (by decide +kernel)
theorem wd_1149 : (Cond.methodLink RX10 (56 : Nat) yJ7_fill_53178) ∈ TB := tw 1149 (by decide +kernel) (by decide +kernel)
theorem wd_1150 : (Cond.methodLink RX10 (62 : Nat) yX10_tryClocks) ∈ TB := tw 1150 (by decide +kernel) (by decide +kernel)
theorem wd_1152 : (Jvm.Cond.instanceMethod yX10_tryClocks) ∈ TB := tw 1152 (by decide +kernel) (by decide +kernel)
theorem wd_1153 : (Cond.code yX10_tryClocks cX10_tryClocks 12 (Option.some Jvm.ClassFile.FieldType.int)) ∈ TB := tw 1153 (by decide +kernel) (by decide +kernel)
theorem wd_1156 : (Cond.methodLink RX10 (72 : Nat) yX10_findTurn) ∈ TB := tw 1156 (by decide +kernel) (by decide +kernel)
theorem wd_1158 : (Jvm.Cond.instanceMethod yX10_findTurn) ∈ TB := tw 1158 (by decide +kernel) (by decide +kernel)
theorem wd_1159 : (Cond.code yX10_findTurn cX10_findTurn 10 (Option.some Jvm.ClassFile.FieldType.int)) ∈ TB := tw 1159 (by decide +kernel) (by decide +kernel)
theorem wd_1160 : (Cond.methodLink RX10 (75 : Nat) yX6_strikeIn) ∈ TB := tw 1160 (by decide +kernel) (by decide +kernel)
theorem wd_1161 : (Cond.methodLink RX10 (79 : Nat) yX6_pumpedBy) ∈ TB := tw 1161 (by decide +kernel) (by decide +kernel)
theorem wd_1162 : (Cond.methodLink RX10 (82 : Nat) yX6_strengthAt) ∈ TB := tw 1162 (by decide +kernel) (by decide +kernel)
theorem wd_1163 : (Jvm.Cond.instanceMethod yX6_strengthAt) ∈ TB := tw 1163 (by decide +kernel) (by decide +kernel)
theorem wd_1164 : (Cond.selects RX6 yX6_strengthAt yX6_strengthAt) ∈ TB := tw 1164 (by decide +kernel) (by decide +kernel)
theorem wd_1165 : (Cond.code yX6_strengthAt cX6_strengthAt 4 (Option.some Jvm.ClassFile.FieldType.int)) ∈ TB := tw 1165 (by decide +kernel) (by decide +kernel)
theorem wd_1167 : (Cond.methodLink RX10 (85 : Nat) yX7_stepBy) ∈ TB := tw 1167 (by decide +kernel) (by decide +kernel)
theorem wd_301 : (Cond.fieldLink RX8 (27 : Nat) "NineRiver$Thrower" "stream" "LNineRiver$Stream;") ∈ TB := tw 301 (by decide +kernel) (by decide +kernel)
theorem wd_302 : (Cond.fieldLink RX8 (9 : Nat) "NineRiver$Thrower" "there" "[I") ∈ TB := tw 302 (by decide +kernel) (by decide +kernel)
theorem wd_303 : (Cond.fieldLink RX8 (15 : Nat) "NineRiver$Thrower" "home" "[I") ∈ TB := tw 303 (by decide +kernel) (by decide +kernel)
theorem wd_304 : (Cond.fieldLink RX8 (18 : Nat) "NineRiver$Thrower" "later" "[I") ∈ TB := tw 304 (by decide +kernel) (by decide +kernel)
theorem wd_305 : (Cond.fieldLink RX8 (21 : Nat) "NineRiver$Thrower" "answers" "[I") ∈ TB := tw 305 (by decide +kernel) (by decide +kernel)
theorem wd_306 : (Cond.fieldLink RX8 (24 : Nat) "NineRiver$Thrower" "found" "[I") ∈ TB := tw 306 (by decide +kernel) (by decide +kernel)
theorem wd_326 : (Cond.fieldLink RX10 (22 : Nat) "NineRiver$Tuner" "state" "LNineRiver$State;") ∈ TB := tw 326 (by decide +kernel) (by decide +kernel)
theorem wd_327 : (Cond.fieldLink RX10 (26 : Nat) "NineRiver$Tuner" "stream" "LNineRiver$Stream;") ∈ TB := tw 327 (by decide +kernel) (by decide +kernel)
theorem wd_328 : (Cond.fieldLink RX10 (30 : Nat) "NineRiver$Tuner" "travel" "LNineRiver$Travel;") ∈ TB := tw 328 (by decide +kernel) (by decide +kernel)
theorem wd_329 : (Cond.fieldLink RX10 (9 : Nat) "NineRiver$Tuner" "turns" "[I") ∈ TB := tw 329 (by decide +kernel) (by decide +kernel)
theorem wd_330 : (Cond.fieldLink RX10 (15 : Nat) "NineRiver$Tuner" "finest" "[I") ∈ TB := tw 330 (by decide +kernel) (by decide +kernel)
theorem wd_624 : (Jvm.Cond.instanceMethod yX7_isBarred) ∈ TB := tw 624 (by decide +kernel) (by decide +kernel)
theorem wd_625 : (Cond.selects RX7 yX7_isBarred yX7_isBarred) ∈ TB := tw 625 (by decide +kernel) (by decide +kernel)
theorem wd_626 : (Cond.code yX7_isBarred cX7_isBarred 3 (Option.some Jvm.ClassFile.FieldType.boolean)) ∈ TB := tw 626 (by decide +kernel) (by decide +kernel)
theorem wd_963 : (Cond.methodLink RX8 (31 : Nat) yJ7_fill_53178) ∈ TB := tw 963 (by decide +kernel) (by decide +kernel)
theorem wd_964 : (Cond.methodLink RX8 (37 : Nat) yX8_goBack) ∈ TB := tw 964 (by decide +kernel) (by decide +kernel)
theorem wd_966 : (Jvm.Cond.instanceMethod yX8_goBack) ∈ TB := tw 966 (by decide +kernel) (by decide +kernel)
theorem wd_967 : (Cond.code yX8_goBack cX8_goBack 7 (Option.none : Option Jvm.ClassFile.FieldType)) ∈ TB := tw 967 (by decide +kernel) (by decide +kernel)
theorem wd_968 : (Cond.methodLink RX8 (62 : Nat) arraycopyName) ∈ TB := tw 968 (by decide +kernel) (by decide +kernel)
theorem wd_969 : (Cond.methodLink RX8 (68 : Nat) yX7_stepFrom) ∈ TB := tw 969 (by decide +kernel) (by decide +kernel)
theorem wd_970 : (Cond.methodLink RX8 (41 : Nat) yX8_weigh) ∈ TB := tw 970 (by decide +kernel) (by decide +kernel)
theorem wd_972 : (Jvm.Cond.instanceMethod yX8_weigh) ∈ TB := tw 972 (by decide +kernel) (by decide +kernel)
theorem wd_973 : (Cond.code yX8_weigh cX8_weigh 6 (Option.none : Option Jvm.ClassFile.FieldType)) ∈ TB := tw 973 (by decide +kernel) (by decide +kernel)
theorem wd_974 : (Cond.methodLink RX8 (45 : Nat) yX7_priceAt) ∈ TB := tw 974 (by decide +kernel) (by decide +kernel)
theorem dX8_goBack_0g : (decode cX8_goBack 0 = .ok (.aload_n 1, 1)) ∧ (decode cX8_goBack 1 = .ok (.iconst 0, 1)) ∧ (decode cX8_goBack 2 = .ok (.aload_n 0, 1)) ∧ (decode cX8_goBack 3 = .ok (.getfield 18, 3)) ∧ (decode cX8_goBack 6 = .ok (.iconst 0, 1)) ∧ (decode cX8_goBack 7 = .ok (.aload_n 0, 1)) ∧ (decode cX8_goBack 8 = .ok (.getfield 18, 3)) ∧ (decode cX8_goBack 11 = .ok (.arraylength, 1)) ∧ (decode cX8_goBack 12 = .ok (.invokestatic 62, 3)) ∧ (decode cX8_goBack 15 = .ok (.iconst 0, 1)) := by decide +kernel
theorem dX8_goBack_0 : decode cX8_goBack 0 = .ok (.aload_n 1, 1) := dX8_goBack_0g.1
theorem dX8_goBack_1 : decode cX8_goBack 1 = .ok (.iconst 0, 1) := dX8_goBack_0g.2.1
theorem dX8_goBack_2 : decode cX8_goBack 2 = .ok (.aload_n 0, 1) := dX8_goBack_0g.2.2.1
theorem dX8_goBack_3 : decode cX8_goBack 3 = .ok (.getfield 18, 3) := dX8_goBack_0g.2.2.2.1
theorem dX8_goBack_6 : decode cX8_goBack 6 = .ok (.iconst 0, 1) := dX8_goBack_0g.2.2.2.2.1
theorem dX8_goBack_7 : decode cX8_goBack 7 = .ok (.aload_n 0, 1) := dX8_goBack_0g.2.2.2.2.2.1
theorem dX8_goBack_8 : decode cX8_goBack 8 = .ok (.getfield 18, 3) := dX8_goBack_0g.2.2.2.2.2.2.1
theorem dX8_goBack_11 : decode cX8_goBack 11 = .ok (.arraylength, 1) := dX8_goBack_0g.2.2.2.2.2.2.2.1
theorem dX8_goBack_12 : decode cX8_goBack 12 = .ok (.invokestatic 62, 3) := dX8_goBack_0g.2.2.2.2.2.2.2.2.1
theorem dX8_goBack_15 : decode cX8_goBack 15 = .ok (.iconst 0, 1) := dX8_goBack_0g.2.2.2.2.2.2.2.2.2
theorem dX8_goBack_16g : (decode cX8_goBack 16 = .ok (.istore 5, 2)) ∧ (decode cX8_goBack 18 = .ok (.iload 5, 2)) ∧ (decode cX8_goBack 20 = .ok (.aload_n 1, 1)) ∧ (decode cX8_goBack 21 = .ok (.arraylength, 1)) ∧ (decode cX8_goBack 22 = .ok (.if_icmp .ge 51, 3)) ∧ (decode cX8_goBack 25 = .ok (.aload_n 0, 1)) ∧ (decode cX8_goBack 26 = .ok (.getfield 27, 3)) ∧ (decode cX8_goBack 29 = .ok (.iload 5, 2)) ∧ (decode cX8_goBack 31 = .ok (.iload_n 3, 1)) ∧ (decode cX8_goBack 32 = .ok (.invokevirtual 68, 3)) := by decide +kernel
theorem dX8_goBack_16 : decode cX8_goBack 16 = .ok (.istore 5, 2) := dX8_goBack_16g.1
theorem dX8_goBack_18 : decode cX8_goBack 18 = .ok (.iload 5, 2) := dX8_goBack_16g.2.1
theorem dX8_goBack_20 : decode cX8_goBack 20 = .ok (.aload_n 1, 1) := dX8_goBack_16g.2.2.1
theorem dX8_goBack_21 : decode cX8_goBack 21 = .ok (.arraylength, 1) := dX8_goBack_16g.2.2.2.1
theorem dX8_goBack_22 : decode cX8_goBack 22 = .ok (.if_icmp .ge 51, 3) := dX8_goBack_16g.2.2.2.2.1
theorem dX8_goBack_25 : decode cX8_goBack 25 = .ok (.aload_n 0, 1) := dX8_goBack_16g.2.2.2.2.2.1
theorem dX8_goBack_26 : decode cX8_goBack 26 = .ok (.getfield 27, 3) := dX8_goBack_16g.2.2.2.2.2.2.1
theorem dX8_goBack_29 : decode cX8_goBack 29 = .ok (.iload 5, 2) := dX8_goBack_16g.2.2.2.2.2.2.2.1
theorem dX8_goBack_31 : decode cX8_goBack 31 = .ok (.iload_n 3, 1) := dX8_goBack_16g.2.2.2.2.2.2.2.2.1
theorem dX8_goBack_32 : decode cX8_goBack 32 = .ok (.invokevirtual 68, 3) := dX8_goBack_16g.2.2.2.2.2.2.2.2.2
theorem dX8_goBack_35g : (decode cX8_goBack 35 = .ok (.istore 6, 2)) ∧ (decode cX8_goBack 37 = .ok (.aload_n 1, 1)) ∧ (decode cX8_goBack 38 = .ok (.iload 5, 2)) ∧ (decode cX8_goBack 40 = .ok (.iload 6, 2)) ∧ (decode cX8_goBack 42 = .ok (.ifCond .lt 23, 3)) ∧ (decode cX8_goBack 45 = .ok (.iload 6, 2)) ∧ (decode cX8_goBack 47 = .ok (.aload_n 0, 1)) ∧ (decode cX8_goBack 48 = .ok (.getfield 18, 3)) ∧ (decode cX8_goBack 51 = .ok (.arraylength, 1)) ∧ (decode cX8_goBack 52 = .ok (.if_icmp .ge 13, 3)) := by decide +kernel
theorem dX8_goBack_35 : decode cX8_goBack 35 = .ok (.istore 6, 2) := dX8_goBack_35g.1
theorem dX8_goBack_37 : decode cX8_goBack 37 = .ok (.aload_n 1, 1) := dX8_goBack_35g.2.1
theorem dX8_goBack_38 : decode cX8_goBack 38 = .ok (.iload 5, 2) := dX8_goBack_35g.2.2.1
theorem dX8_goBack_40 : decode cX8_goBack 40 = .ok (.iload 6, 2) := dX8_goBack_35g.2.2.2.1
theorem dX8_goBack_42 : decode cX8_goBack 42 = .ok (.ifCond .lt 23, 3) := dX8_goBack_35g.2.2.2.2.1
theorem dX8_goBack_45 : decode cX8_goBack 45 = .ok (.iload 6, 2) := dX8_goBack_35g.2.2.2.2.2.1
theorem dX8_goBack_47 : decode cX8_goBack 47 = .ok (.aload_n 0, 1) := dX8_goBack_35g.2.2.2.2.2.2.1
theorem dX8_goBack_48 : decode cX8_goBack 48 = .ok (.getfield 18, 3) := dX8_goBack_35g.2.2.2.2.2.2.2.1
theorem dX8_goBack_51 : decode cX8_goBack 51 = .ok (.arraylength, 1) := dX8_goBack_35g.2.2.2.2.2.2.2.2.1
theorem dX8_goBack_52 : decode cX8_goBack 52 = .ok (.if_icmp .ge 13, 3) := dX8_goBack_35g.2.2.2.2.2.2.2.2.2
theorem dX8_goBack_55g : (decode cX8_goBack 55 = .ok (.aload_n 0, 1)) ∧ (decode cX8_goBack 56 = .ok (.getfield 18, 3)) ∧ (decode cX8_goBack 59 = .ok (.iload 6, 2)) ∧ (decode cX8_goBack 61 = .ok (.iaload, 1)) ∧ (decode cX8_goBack 62 = .ok (.goto 4, 3)) ∧ (decode cX8_goBack 65 = .ok (.iconst (-1), 1)) ∧ (decode cX8_goBack 66 = .ok (.iastore, 1)) ∧ (decode cX8_goBack 67 = .ok (.iinc 5 1, 3)) ∧ (decode cX8_goBack 70 = .ok (.goto (-52), 3)) ∧ (decode cX8_goBack 73 = .ok (.iload_n 3, 1)) := by decide +kernel
theorem dX8_goBack_55 : decode cX8_goBack 55 = .ok (.aload_n 0, 1) := dX8_goBack_55g.1
theorem dX8_goBack_56 : decode cX8_goBack 56 = .ok (.getfield 18, 3) := dX8_goBack_55g.2.1
theorem dX8_goBack_59 : decode cX8_goBack 59 = .ok (.iload 6, 2) := dX8_goBack_55g.2.2.1
theorem dX8_goBack_61 : decode cX8_goBack 61 = .ok (.iaload, 1) := dX8_goBack_55g.2.2.2.1
theorem dX8_goBack_62 : decode cX8_goBack 62 = .ok (.goto 4, 3) := dX8_goBack_55g.2.2.2.2.1
theorem dX8_goBack_65 : decode cX8_goBack 65 = .ok (.iconst (-1), 1) := dX8_goBack_55g.2.2.2.2.2.1
theorem dX8_goBack_66 : decode cX8_goBack 66 = .ok (.iastore, 1) := dX8_goBack_55g.2.2.2.2.2.2.1
theorem dX8_goBack_67 : decode cX8_goBack 67 = .ok (.iinc 5 1, 3) := dX8_goBack_55g.2.2.2.2.2.2.2.1
theorem dX8_goBack_70 : decode cX8_goBack 70 = .ok (.goto (-52), 3) := dX8_goBack_55g.2.2.2.2.2.2.2.2.1
theorem dX8_goBack_73 : decode cX8_goBack 73 = .ok (.iload_n 3, 1) := dX8_goBack_55g.2.2.2.2.2.2.2.2.2
theorem dX8_goBack_74g : (decode cX8_goBack 74 = .ok (.iload 4, 2)) ∧ (decode cX8_goBack 76 = .ok (.if_icmp .lt 17, 3)) ∧ (decode cX8_goBack 79 = .ok (.iload_n 2, 1)) ∧ (decode cX8_goBack 80 = .ok (.ifCond .lt 13, 3)) ∧ (decode cX8_goBack 83 = .ok (.iload_n 2, 1)) ∧ (decode cX8_goBack 84 = .ok (.aload_n 1, 1)) ∧ (decode cX8_goBack 85 = .ok (.arraylength, 1)) ∧ (decode cX8_goBack 86 = .ok (.if_icmp .ge 7, 3)) ∧ (decode cX8_goBack 89 = .ok (.aload_n 1, 1)) ∧ (decode cX8_goBack 90 = .ok (.iload_n 2, 1)) := by decide +kernel
theorem dX8_goBack_74 : decode cX8_goBack 74 = .ok (.iload 4, 2) := dX8_goBack_74g.1
theorem dX8_goBack_76 : decode cX8_goBack 76 = .ok (.if_icmp .lt 17, 3) := dX8_goBack_74g.2.1
theorem dX8_goBack_79 : decode cX8_goBack 79 = .ok (.iload_n 2, 1) := dX8_goBack_74g.2.2.1
theorem dX8_goBack_80 : decode cX8_goBack 80 = .ok (.ifCond .lt 13, 3) := dX8_goBack_74g.2.2.2.1
theorem dX8_goBack_83 : decode cX8_goBack 83 = .ok (.iload_n 2, 1) := dX8_goBack_74g.2.2.2.2.1
theorem dX8_goBack_84 : decode cX8_goBack 84 = .ok (.aload_n 1, 1) := dX8_goBack_74g.2.2.2.2.2.1
theorem dX8_goBack_85 : decode cX8_goBack 85 = .ok (.arraylength, 1) := dX8_goBack_74g.2.2.2.2.2.2.1
theorem dX8_goBack_86 : decode cX8_goBack 86 = .ok (.if_icmp .ge 7, 3) := dX8_goBack_74g.2.2.2.2.2.2.2.1
theorem dX8_goBack_89 : decode cX8_goBack 89 = .ok (.aload_n 1, 1) := dX8_goBack_74g.2.2.2.2.2.2.2.2.1
theorem dX8_goBack_90 : decode cX8_goBack 90 = .ok (.iload_n 2, 1) := dX8_goBack_74g.2.2.2.2.2.2.2.2.2
theorem dX8_goBack_91g : (decode cX8_goBack 91 = .ok (.iload_n 3, 1)) ∧ (decode cX8_goBack 92 = .ok (.iastore, 1)) ∧ (decode cX8_goBack 93 = .ok (.return_, 1)) := by decide +kernel
theorem dX8_goBack_91 : decode cX8_goBack 91 = .ok (.iload_n 3, 1) := dX8_goBack_91g.1
theorem dX8_goBack_92 : decode cX8_goBack 92 = .ok (.iastore, 1) := dX8_goBack_91g.2.1
theorem dX8_goBack_93 : decode cX8_goBack 93 = .ok (.return_, 1) := dX8_goBack_91g.2.2
set_option maxHeartbeats 4000000 in
set_option maxRecDepth 100000 in
theorem c_X8_goBack (l : Launch) (E : Nat → Nat) (D : va_G) (G : th_G) (h0 : Nat) (hG0 : G h0 = some (13, 0)) (p1 : Nat) (hp1 : G p1 = some (0, 25)) (x2 : Int32) (x3 : Int32) (x4 : Int32) : Met l yX8_goBack (tb (.code yX8_goBack cX8_goBack 7 none)) (rm 5) (va_Pc [.ref h0, .ref p1, .int x2, .int x3, .int x4] (th_P E D G)) (QV E D G) 0 0 (th_A G) := by
  refine Met.ofW (cc := cX8_goBack) (maxL := 7) (ret := none) (by decide) rfl ?_
  intro p e s m args below meth c s₁ B hml hv
  obtain ⟨hav, hI, hN, hK⟩ := hv
  have hx := B.exec
  have hb := B.bytes
  have hr := B.returns
  have hts := atoms_spec (ws := tb (.code yX8_goBack cX8_goBack 7 none)) B.pre
  have hown : s.vm.findClass RX8 = some m.cls := findClass_of_methodNamed B.named
  have hlocks := B.notSynchronized
  have hS : va_S (th_A G) s.heap s.heap [] := va_S.rf
  have hl := lv_entry ([.ref h0, .ref p1, .int x2, .int x3, .int x4]) (n := 7) (Nat.le_of_ble_eq_true rfl)
  rw [show entryFrame m args 7 = entryFrame m ([.ref h0, .ref p1, .int x2, .int x3, .int x4] : List Value).toArray 7 from by rw [hav], lg_entry_eq]
  generalize (lg_sl ([.ref h0, .ref p1, .int x2, .int x3, .int x4]) ++ List.replicate (7 - (lg_sl ([.ref h0, .ref p1, .int x2, .int x3, .int x4])).length) Slot.unset).toArray = ls at hl ⊢
  have hl : lv_has ls 7 [(0, .ref h0), (1, .ref p1), (2, .int x2), (3, .int x3), (4, .int x4)] := hl
  generalize hR : (headSpec (tb (.code yX8_goBack cX8_goBack 7 none)) (rm 5)).room = R
  have hR := hR.symm
  generalize hQ : MQ below (QV E D G) args s 0 0 (th_A G) = QF
  have hQ := hQ.symm
  have J_18 : ∀ (nn : Nat) (H : Heap) (locs : List Loc) (ls : Array Slot) (v2533 : Int32), (Int.toNat (25 - v2533.toInt) = nn) → lv_has ls 7 [(5, .int v2533), (0, .ref h0), (1, .ref p1), (2, .int x2), (3, .int x3), (4, .int x4)] → ((0 : Int) ≤ v2533.toInt ∧ v2533.toInt ≤ 25) → th_I (okC E) D G [] H → va_S (th_A G) s.heap H locs → W p l e R s m args below meth c H locs 0 0 QF (F0 m 18 ls []) := by
    intro nn
    induction nn using Nat.strongRecOn with
    | ind nn ih_18 =>
      intro H locs ls v2533 hm hl k2534 hI hS
      have J_66 : ∀ (H : Heap) (locs : List Loc) (ls : Array Slot) (v2535 : Int32) (v2537 : Int32) (v2538 : Int32), lv_has ls 7 [(6, .int v2535), (5, .int v2533), (0, .ref h0), (1, .ref p1), (2, .int x2), (3, .int x3), (4, .int x4)] → ((0 : Int) ≤ v2533.toInt ∧ v2533.toInt ≤ 24) → ((0 : Int) ≤ v2538.toInt ∧ v2538.toInt ≤ 24) → th_I (okC E) D G [] H → va_S (th_A G) s.heap H locs → W p l e R s m args below meth c H locs 0 0 QF (F0 m 66 ls [.int v2537, .int v2538, .ref p1]) := by
        intro H locs ls v2535 v2537 v2538 hl k2539 k2540 hI hS
        obtain ⟨_, hA2541⟩ := op_0 hI hp1 List.not_mem_nil
        refine th_iast hx hb hK hA2541 0 rfl hS ⟨_, hp1⟩ (iv_in (X := v2538.toInt) rfl (by omega) (by omega)) dX8_goBack_66 (fun H locs hA2541 oq hS => ?_)
        have hI := th_I.put hI hp1 hA2541 ok_0 oq
        obtain ⟨v2542, e2543⟩ : ∃ y : Int32, y = v2533 + (1) := ⟨_, rfl⟩
        have tv2542 : v2542.toInt = v2533.toInt + (1) := iv_add rfl (by decide) e2543 (by omega) (by omega)
        refine lv_iinc (v := v2542) (lv' := [(5, .int v2542), (6, .int v2535), (0, .ref h0), (1, .ref p1), (2, .int x2), (3, .int x3), (4, .int x4)]) hx hb dX8_goBack_67 hl (k := 1) rfl (by rw [e2543]; rfl) (by decide) rfl (fun ls hl => ?_)
        refine lv_goto (tgt := 18) hx hb dX8_goBack_70 (by decide) ?_
        exact ih_18 _ (by omega) H locs ls v2542 rfl (lv_sub hl [0, 2, 3, 4, 5, 6] rfl) ⟨by omega, by omega⟩ hI hS
      have J_65 : ∀ (H : Heap) (locs : List Loc) (ls : Array Slot) (v2544 : Int32) (v2546 : Int32), lv_has ls 7 [(6, .int v2544), (5, .int v2533), (0, .ref h0), (1, .ref p1), (2, .int x2), (3, .int x3), (4, .int x4)] → ((0 : Int) ≤ v2533.toInt ∧ v2533.toInt ≤ 24) → ((0 : Int) ≤ v2546.toInt ∧ v2546.toInt ≤ 24) → th_I (okC E) D G [] H → va_S (th_A G) s.heap H locs → W p l e R s m args below meth c H locs 0 0 QF (F0 m 65 ls [.int v2546, .ref p1]) := by
        intro H locs ls v2544 v2546 hl k2547 k2548 hI hS
        refine lv_iconst (v := (-1)) hx hb dX8_goBack_65 (by decide) ?_
        exact J_66 H locs ls v2544 (-1) v2546 (lv_sub hl [0, 1, 2, 3, 4, 5, 6] rfl) ⟨by omega, by omega⟩ ⟨by omega, by omega⟩ hI hS
      refine lv_iload hx hb dX8_goBack_18 (lv_at hl 0 rfl) ?_
      refine lv_aload_n hx hb dX8_goBack_20 rfl (lv_at hl 2 rfl) ?_
      obtain ⟨_, hA2549⟩ := op_0 hI hp1 List.not_mem_nil
      refine va_alen hx hb hK (th_one hA2549) 0 0 rfl (v := 25) rfl (show Int32.ofNat 25 = (25 : Int32) from by decide) dX8_goBack_21 ?_
      refine lv_icmp_ge (tgt := 73) hx hb dX8_goBack_22 (by decide) (fun c2550 => ?_) (fun c2550 => ?_)
      · skip
        have k2551 := iv_le (X := (25)) (Y := v2533.toInt) (by decide) rfl c2550
        refine lv_iload_n hx hb dX8_goBack_73 rfl (lv_at hl 4 rfl) ?_
        refine lv_iload hx hb dX8_goBack_74 (lv_at hl 5 rfl) ?_
        have k2552 := iv_lo x3
        have k2553 := iv_hi x3
        have k2554 := iv_lo x4
        have k2555 := iv_hi x4
        refine lv_icmp_lt (tgt := 93) hx hb dX8_goBack_76 (by decide) (fun c2556 => ?_) (fun c2556 => ?_)
        · skip
          have k2557 := iv_lt (X := x3.toInt) (Y := x4.toInt) rfl rfl c2556
          rw [hQ]
          exact W.vret hx hb hr (fun t ht hW => ⟨⟨(), rfl, trivial, by rw [ht]; exact hI, hN.warm hW, va_K.moved hW.alike hK⟩, hS.F ht⟩) hS.2.2 dX8_goBack_93
        · skip
          have k2558 := iv_nlt (X := x3.toInt) (Y := x4.toInt) rfl rfl c2556
          refine lv_iload_n hx hb dX8_goBack_79 rfl (lv_at hl 3 rfl) ?_
          have k2559 := iv_lo x2
          have k2560 := iv_hi x2
          refine lv_if_lt (tgt := 93) hx hb dX8_goBack_80 (by decide) (fun c2561 => ?_) (fun c2561 => ?_)
          · skip
            have k2562 := iv_lt (X := x2.toInt) (Y := (0)) rfl (by decide) c2561
            rw [hQ]
            exact W.vret hx hb hr (fun t ht hW => ⟨⟨(), rfl, trivial, by rw [ht]; exact hI, hN.warm hW, va_K.moved hW.alike hK⟩, hS.F ht⟩) hS.2.2 dX8_goBack_93
          · skip
            have k2563 := iv_nlt (X := x2.toInt) (Y := (0)) rfl (by decide) c2561
            refine lv_iload_n hx hb dX8_goBack_83 rfl (lv_at hl 3 rfl) ?_
            refine lv_aload_n hx hb dX8_goBack_84 rfl (lv_at hl 2 rfl) ?_
            obtain ⟨_, hA2564⟩ := op_0 hI hp1 List.not_mem_nil
            refine va_alen hx hb hK (th_one hA2564) 0 0 rfl (v := 25) rfl (show Int32.ofNat 25 = (25 : Int32) from by decide) dX8_goBack_85 ?_
            refine lv_icmp_ge (tgt := 93) hx hb dX8_goBack_86 (by decide) (fun c2565 => ?_) (fun c2565 => ?_)
            · skip
              have k2566 := iv_le (X := (25)) (Y := x2.toInt) (by decide) rfl c2565
              rw [hQ]
              exact W.vret hx hb hr (fun t ht hW => ⟨⟨(), rfl, trivial, by rw [ht]; exact hI, hN.warm hW, va_K.moved hW.alike hK⟩, hS.F ht⟩) hS.2.2 dX8_goBack_93
            · skip
              have k2567 := iv_nle (X := (25)) (Y := x2.toInt) (by decide) rfl c2565
              refine lv_aload_n hx hb dX8_goBack_89 rfl (lv_at hl 2 rfl) ?_
              refine lv_iload_n hx hb dX8_goBack_90 rfl (lv_at hl 3 rfl) ?_
              refine lv_iload_n hx hb dX8_goBack_91 rfl (lv_at hl 4 rfl) ?_
              obtain ⟨_, hA2568⟩ := op_0 hI hp1 List.not_mem_nil
              refine th_iast hx hb hK hA2568 0 rfl hS ⟨_, hp1⟩ (iv_in (X := x2.toInt) rfl (by omega) (by omega)) dX8_goBack_92 (fun H locs hA2568 oq hS => ?_)
              have hI := th_I.put hI hp1 hA2568 ok_0 oq
              rw [hQ]
              exact W.vret hx hb hr (fun t ht hW => ⟨⟨(), rfl, trivial, by rw [ht]; exact hI, hN.warm hW, va_K.moved hW.alike hK⟩, hS.F ht⟩) hS.2.2 dX8_goBack_93
      · skip
        have k2569 := iv_nle (X := (25)) (Y := v2533.toInt) (by decide) rfl c2550
        refine lv_aload_n hx hb dX8_goBack_25 rfl (lv_at hl 1 rfl) ?_
        obtain ⟨a2570, a2572, a2574, a2576, a2578, a2580, hO, hq2571, hq2573, hq2575, hq2577, hq2579, hq2581⟩ := op_13 hI hG0 List.not_mem_nil
        have hI := th_I.weak (a := h0) hI
        refine th_get hx hb hts inT8 hown hK hO rfl 0 (by decide) (hts _ (tb_c wd_301)) rfl rfl dX8_goBack_26 ?_
        refine lv_iload hx hb dX8_goBack_29 (lv_at hl 0 rfl) ?_
        refine lv_iload_n hx hb dX8_goBack_31 rfl (lv_at hl 4 rfl) ?_
        have hI := th_I.close hI hG0 hO (ok_13 hq2571 hq2573 hq2575 hq2577 hq2579 hq2581)
        refine th_cVi (As := [.int v2533, .int x3]) (rest := []) (n := 2) (d := 4) ⟨hx, hb, hml, hown, hts⟩ (c_X7_stepFrom l E D G a2570 hq2571 v2533 x3) wd_969 wd_531 wd_532 wd_6 wd_533 (by decide +kernel) ⟨by rw [hR]; exact Nat.le_of_ble_eq_true rfl, by rw [hR]; exact Nat.le_of_ble_eq_true rfl⟩ hI hN hK hS (rc_9 hI hq2571 List.not_mem_nil) rfl rfl hl.1 rfl (Nat.le_of_ble_eq_true rfl) dX8_goBack_32 ⟨Nat.zero_le _, Nat.zero_le _⟩ (fun r2582 H locs hp hI hS => ?_)
        refine lv_istore (lv' := [(6, .int r2582), (5, .int v2533), (0, .ref h0), (1, .ref p1), (2, .int x2), (3, .int x3), (4, .int x4)]) hx hb dX8_goBack_35 hl (by decide) rfl (fun ls hl => ?_)
        refine lv_aload_n hx hb dX8_goBack_37 rfl (lv_at hl 3 rfl) ?_
        refine lv_iload hx hb dX8_goBack_38 (lv_at hl 1 rfl) ?_
        refine lv_iload hx hb dX8_goBack_40 (lv_at hl 0 rfl) ?_
        have k2583 := iv_lo r2582
        have k2584 := iv_hi r2582
        refine lv_if_lt (tgt := 65) hx hb dX8_goBack_42 (by decide) (fun c2585 => ?_) (fun c2585 => ?_)
        · skip
          have k2586 := iv_lt (X := r2582.toInt) (Y := (0)) rfl (by decide) c2585
          exact J_65 H locs ls r2582 v2533 (lv_sub hl [0, 1, 2, 3, 4, 5, 6] rfl) ⟨by omega, by omega⟩ ⟨by omega, by omega⟩ hI hS
        · skip
          have k2587 := iv_nlt (X := r2582.toInt) (Y := (0)) rfl (by decide) c2585
          refine lv_iload hx hb dX8_goBack_45 (lv_at hl 0 rfl) ?_
          refine lv_aload_n hx hb dX8_goBack_47 rfl (lv_at hl 2 rfl) ?_
          obtain ⟨a2588, a2590, a2592, a2594, a2596, a2598, hO, hq2589, hq2591, hq2593, hq2595, hq2597, hq2599⟩ := op_13 hI hG0 List.not_mem_nil
          have hI := th_I.weak (a := h0) hI
          refine th_get hx hb hts inT8 hown hK hO rfl 3 (by decide) (hts _ (tb_c wd_304)) rfl rfl dX8_goBack_48 ?_
          obtain ⟨_, hA2600⟩ := op_0 hI hq2595 (th_ne hG0 hq2595 (show (13 : Nat) ≠ 0 by decide))
          refine va_alen hx hb hK (th_one hA2600) 0 0 rfl (v := 25) rfl (show Int32.ofNat 25 = (25 : Int32) from by decide) dX8_goBack_51 ?_
          refine lv_icmp_ge (tgt := 65) hx hb dX8_goBack_52 (by decide) (fun c2601 => ?_) (fun c2601 => ?_)
          · skip
            have k2602 := iv_le (X := (25)) (Y := r2582.toInt) (by decide) rfl c2601
            have hI := th_I.close hI hG0 hO (ok_13 hq2589 hq2591 hq2593 hq2595 hq2597 hq2599)
            exact J_65 H locs ls r2582 v2533 (lv_sub hl [0, 1, 2, 3, 4, 5, 6] rfl) ⟨by omega, by omega⟩ ⟨by omega, by omega⟩ hI hS
          · skip
            have k2603 := iv_nle (X := (25)) (Y := r2582.toInt) (by decide) rfl c2601
            refine lv_aload_n hx hb dX8_goBack_55 rfl (lv_at hl 2 rfl) ?_
            refine th_get hx hb hts inT8 hown hK hO rfl 3 (by decide) (hts _ (tb_c wd_304)) rfl rfl dX8_goBack_56 ?_
            refine lv_iload hx hb dX8_goBack_59 (lv_at hl 0 rfl) ?_
            obtain ⟨_, hA2604⟩ := op_0 hI hq2595 (th_ne hG0 hq2595 (show (13 : Nat) ≠ 0 by decide))
            refine th_iald hx hb hK hA2604 0 rfl (iv_in (X := r2582.toInt) rfl (by omega) (by omega)) dX8_goBack_61 (fun v2605 _ => ?_)
            refine lv_goto (tgt := 66) hx hb dX8_goBack_62 (by decide) ?_
            have hI := th_I.close hI hG0 hO (ok_13 hq2589 hq2591 hq2593 hq2595 hq2597 hq2599)
            exact J_66 H locs ls r2582 v2605 v2533 (lv_sub hl [0, 1, 2, 3, 4, 5, 6] rfl) ⟨by omega, by omega⟩ ⟨by omega, by omega⟩ hI hS
  refine lv_aload_n hx hb dX8_goBack_0 rfl (lv_at hl 1 rfl) ?_
  refine lv_iconst (v := 0) hx hb dX8_goBack_1 (by decide) ?_
  refine lv_aload_n hx hb dX8_goBack_2 rfl (lv_at hl 0 rfl) ?_
  obtain ⟨a2606, a2608, a2610, a2612, a2614, a2616, hO, hq2607, hq2609, hq2611, hq2613, hq2615, hq2617⟩ := op_13 hI hG0 List.not_mem_nil
  have hI := th_I.weak (a := h0) hI
  refine th_get hx hb hts inT8 hown hK hO rfl 3 (by decide) (hts _ (tb_c wd_304)) rfl rfl dX8_goBack_3 ?_
  refine lv_iconst (v := 0) hx hb dX8_goBack_6 (by decide) ?_
  refine lv_aload_n hx hb dX8_goBack_7 rfl (lv_at hl 0 rfl) ?_
  refine th_get hx hb hts inT8 hown hK hO rfl 3 (by decide) (hts _ (tb_c wd_304)) rfl rfl dX8_goBack_8 ?_
  obtain ⟨_, hA2618⟩ := op_0 hI hq2613 (th_ne hG0 hq2613 (show (13 : Nat) ≠ 0 by decide))
  refine va_alen hx hb hK (th_one hA2618) 0 0 rfl (v := 25) rfl (show Int32.ofNat 25 = (25 : Int32) from by decide) dX8_goBack_11 ?_
  obtain ⟨_, hA2619⟩ := op_0 hI hp1 (th_ne hG0 hp1 (show (13 : Nat) ≠ 0 by decide))
  obtain ⟨_, hA2620⟩ := op_0 hI hq2613 (th_ne hG0 hq2613 (show (13 : Nat) ≠ 0 by decide))
  have k2621 : (25 : Int32).toInt = 25 := by decide
  have k2622 : (0 : Int32).toInt = 0 := by decide
  have k2623 : (0 : Int32).toInt = 0 := by decide
  refine th_copyi hx hb (hml.trans hl.1.symm) hown (hts _ (tb_c wd_968)) (hts _ (tb_c wd_505)) (hts _ (tb_c wd_504)) (hts _ (tb_c wd_14)) hK hA2619 hA2620 0 rfl hS ⟨_, hq2613⟩ (fun z => by have := iv_lt (X := (0)) (Y := 0) (by decide) (by decide) z; omega) (fun z => by have := iv_lt (X := (0)) (Y := 0) (by decide) (by decide) z; omega) (fun z => by have := iv_lt (X := (25)) (Y := 0) (by decide) (by decide) z; omega) (by omega) (by omega) (by rw [hR]; exact Nat.le_of_ble_eq_true rfl) (by rw [hR]; exact Nat.le_of_ble_eq_true rfl) dX8_goBack_12 (fun H locs _ hA2620 oq hS => ?_)
  have hI := th_I.put hI hq2613 hA2620 ok_0 oq
  have hO := hO.kept (oq _ (fun z => th_ne hG0 hq2613 (show (13 : Nat) ≠ 0 by decide) (List.mem_singleton.mpr z.symm)))
  refine lv_iconst (v := 0) hx hb dX8_goBack_15 (by decide) ?_
  refine lv_istore (lv' := [(5, .int 0), (0, .ref h0), (1, .ref p1), (2, .int x2), (3, .int x3), (4, .int x4)]) hx hb dX8_goBack_16 hl (by decide) rfl (fun ls hl => ?_)
  have hI := th_I.close hI hG0 hO (ok_13 hq2607 hq2609 hq2611 hq2613 hq2615 hq2617)
  have zl : (0 : Int32).toInt = 0 := by decide
  exact J_18 _ H locs ls 0 rfl (lv_sub hl [0, 1, 2, 3, 4, 5] rfl) ⟨by decide, by decide⟩ hI hS
theorem dX8_weigh_0g : (decode cX8_weigh 0 = .ok (.aload_n 0, 1)) ∧ (decode cX8_weigh 1 = .ok (.getfield 27, 3)) ∧ (decode cX8_weigh 4 = .ok (.iload_n 1, 1)) ∧ (decode cX8_weigh 5 = .ok (.iload_n 2, 1)) ∧ (decode cX8_weigh 6 = .ok (.invokevirtual 45, 3)) ∧ (decode cX8_weigh 9 = .ok (.istore_n 3, 1)) ∧ (decode cX8_weigh 10 = .ok (.aload_n 0, 1)) ∧ (decode cX8_weigh 11 = .ok (.getfield 24, 3)) ∧ (decode cX8_weigh 14 = .ok (.iconst 0, 1)) ∧ (decode cX8_weigh 15 = .ok (.iaload, 1)) := by decide +kernel
theorem dX8_weigh_0 : decode cX8_weigh 0 = .ok (.aload_n 0, 1) := dX8_weigh_0g.1
theorem dX8_weigh_1 : decode cX8_weigh 1 = .ok (.getfield 27, 3) := dX8_weigh_0g.2.1
theorem dX8_weigh_4 : decode cX8_weigh 4 = .ok (.iload_n 1, 1) := dX8_weigh_0g.2.2.1
theorem dX8_weigh_5 : decode cX8_weigh 5 = .ok (.iload_n 2, 1) := dX8_weigh_0g.2.2.2.1
theorem dX8_weigh_6 : decode cX8_weigh 6 = .ok (.invokevirtual 45, 3) := dX8_weigh_0g.2.2.2.2.1
theorem dX8_weigh_9 : decode cX8_weigh 9 = .ok (.istore_n 3, 1) := dX8_weigh_0g.2.2.2.2.2.1
theorem dX8_weigh_10 : decode cX8_weigh 10 = .ok (.aload_n 0, 1) := dX8_weigh_0g.2.2.2.2.2.2.1
theorem dX8_weigh_11 : decode cX8_weigh 11 = .ok (.getfield 24, 3) := dX8_weigh_0g.2.2.2.2.2.2.2.1
theorem dX8_weigh_14 : decode cX8_weigh 14 = .ok (.iconst 0, 1) := dX8_weigh_0g.2.2.2.2.2.2.2.2.1
theorem dX8_weigh_15 : decode cX8_weigh 15 = .ok (.iaload, 1) := dX8_weigh_0g.2.2.2.2.2.2.2.2.2
theorem dX8_weigh_16g : (decode cX8_weigh 16 = .ok (.iconst (-1), 1)) ∧ (decode cX8_weigh 17 = .ok (.if_icmp .eq 13, 3)) ∧ (decode cX8_weigh 20 = .ok (.iload_n 3, 1)) ∧ (decode cX8_weigh 21 = .ok (.aload_n 0, 1)) ∧ (decode cX8_weigh 22 = .ok (.getfield 24, 3)) ∧ (decode cX8_weigh 25 = .ok (.iconst 0, 1)) ∧ (decode cX8_weigh 26 = .ok (.iaload, 1)) ∧ (decode cX8_weigh 27 = .ok (.if_icmp .ge 7, 3)) ∧ (decode cX8_weigh 30 = .ok (.iconst 1, 1)) ∧ (decode cX8_weigh 31 = .ok (.goto 4, 3)) := by decide +kernel
theorem dX8_weigh_16 : decode cX8_weigh 16 = .ok (.iconst (-1), 1) := dX8_weigh_16g.1
theorem dX8_weigh_17 : decode cX8_weigh 17 = .ok (.if_icmp .eq 13, 3) := dX8_weigh_16g.2.1
theorem dX8_weigh_20 : decode cX8_weigh 20 = .ok (.iload_n 3, 1) := dX8_weigh_16g.2.2.1
theorem dX8_weigh_21 : decode cX8_weigh 21 = .ok (.aload_n 0, 1) := dX8_weigh_16g.2.2.2.1
theorem dX8_weigh_22 : decode cX8_weigh 22 = .ok (.getfield 24, 3) := dX8_weigh_16g.2.2.2.2.1
theorem dX8_weigh_25 : decode cX8_weigh 25 = .ok (.iconst 0, 1) := dX8_weigh_16g.2.2.2.2.2.1
theorem dX8_weigh_26 : decode cX8_weigh 26 = .ok (.iaload, 1) := dX8_weigh_16g.2.2.2.2.2.2.1
theorem dX8_weigh_27 : decode cX8_weigh 27 = .ok (.if_icmp .ge 7, 3) := dX8_weigh_16g.2.2.2.2.2.2.2.1
theorem dX8_weigh_30 : decode cX8_weigh 30 = .ok (.iconst 1, 1) := dX8_weigh_16g.2.2.2.2.2.2.2.2.1
theorem dX8_weigh_31 : decode cX8_weigh 31 = .ok (.goto 4, 3) := dX8_weigh_16g.2.2.2.2.2.2.2.2.2
theorem dX8_weigh_34g : (decode cX8_weigh 34 = .ok (.iconst 0, 1)) ∧ (decode cX8_weigh 35 = .ok (.istore 4, 2)) ∧ (decode cX8_weigh 37 = .ok (.iload_n 3, 1)) ∧ (decode cX8_weigh 38 = .ok (.aload_n 0, 1)) ∧ (decode cX8_weigh 39 = .ok (.getfield 24, 3)) ∧ (decode cX8_weigh 42 = .ok (.iconst 0, 1)) ∧ (decode cX8_weigh 43 = .ok (.iaload, 1)) ∧ (decode cX8_weigh 44 = .ok (.if_icmp .ne 22, 3)) ∧ (decode cX8_weigh 47 = .ok (.aload_n 0, 1)) ∧ (decode cX8_weigh 48 = .ok (.getfield 9, 3)) := by decide +kernel
theorem dX8_weigh_34 : decode cX8_weigh 34 = .ok (.iconst 0, 1) := dX8_weigh_34g.1
theorem dX8_weigh_35 : decode cX8_weigh 35 = .ok (.istore 4, 2) := dX8_weigh_34g.2.1
theorem dX8_weigh_37 : decode cX8_weigh 37 = .ok (.iload_n 3, 1) := dX8_weigh_34g.2.2.1
theorem dX8_weigh_38 : decode cX8_weigh 38 = .ok (.aload_n 0, 1) := dX8_weigh_34g.2.2.2.1
theorem dX8_weigh_39 : decode cX8_weigh 39 = .ok (.getfield 24, 3) := dX8_weigh_34g.2.2.2.2.1
theorem dX8_weigh_42 : decode cX8_weigh 42 = .ok (.iconst 0, 1) := dX8_weigh_34g.2.2.2.2.2.1
theorem dX8_weigh_43 : decode cX8_weigh 43 = .ok (.iaload, 1) := dX8_weigh_34g.2.2.2.2.2.2.1
theorem dX8_weigh_44 : decode cX8_weigh 44 = .ok (.if_icmp .ne 22, 3) := dX8_weigh_34g.2.2.2.2.2.2.2.1
theorem dX8_weigh_47 : decode cX8_weigh 47 = .ok (.aload_n 0, 1) := dX8_weigh_34g.2.2.2.2.2.2.2.2.1
theorem dX8_weigh_48 : decode cX8_weigh 48 = .ok (.getfield 9, 3) := dX8_weigh_34g.2.2.2.2.2.2.2.2.2
theorem dX8_weigh_51g : (decode cX8_weigh 51 = .ok (.iload_n 1, 1)) ∧ (decode cX8_weigh 52 = .ok (.iaload, 1)) ∧ (decode cX8_weigh 53 = .ok (.aload_n 0, 1)) ∧ (decode cX8_weigh 54 = .ok (.getfield 24, 3)) ∧ (decode cX8_weigh 57 = .ok (.iconst 3, 1)) ∧ (decode cX8_weigh 58 = .ok (.iaload, 1)) ∧ (decode cX8_weigh 59 = .ok (.if_icmp .gt 7, 3)) ∧ (decode cX8_weigh 62 = .ok (.iconst 1, 1)) ∧ (decode cX8_weigh 63 = .ok (.goto 4, 3)) ∧ (decode cX8_weigh 66 = .ok (.iconst 0, 1)) := by decide +kernel
theorem dX8_weigh_51 : decode cX8_weigh 51 = .ok (.iload_n 1, 1) := dX8_weigh_51g.1
theorem dX8_weigh_52 : decode cX8_weigh 52 = .ok (.iaload, 1) := dX8_weigh_51g.2.1
theorem dX8_weigh_53 : decode cX8_weigh 53 = .ok (.aload_n 0, 1) := dX8_weigh_51g.2.2.1
theorem dX8_weigh_54 : decode cX8_weigh 54 = .ok (.getfield 24, 3) := dX8_weigh_51g.2.2.2.1
theorem dX8_weigh_57 : decode cX8_weigh 57 = .ok (.iconst 3, 1) := dX8_weigh_51g.2.2.2.2.1
theorem dX8_weigh_58 : decode cX8_weigh 58 = .ok (.iaload, 1) := dX8_weigh_51g.2.2.2.2.2.1
theorem dX8_weigh_59 : decode cX8_weigh 59 = .ok (.if_icmp .gt 7, 3) := dX8_weigh_51g.2.2.2.2.2.2.1
theorem dX8_weigh_62 : decode cX8_weigh 62 = .ok (.iconst 1, 1) := dX8_weigh_51g.2.2.2.2.2.2.2.1
theorem dX8_weigh_63 : decode cX8_weigh 63 = .ok (.goto 4, 3) := dX8_weigh_51g.2.2.2.2.2.2.2.2.1
theorem dX8_weigh_66 : decode cX8_weigh 66 = .ok (.iconst 0, 1) := dX8_weigh_51g.2.2.2.2.2.2.2.2.2
theorem dX8_weigh_67g : (decode cX8_weigh 67 = .ok (.istore 5, 2)) ∧ (decode cX8_weigh 69 = .ok (.iload_n 3, 1)) ∧ (decode cX8_weigh 70 = .ok (.sipush 1024, 3)) ∧ (decode cX8_weigh 73 = .ok (.if_icmp .ge 46, 3)) ∧ (decode cX8_weigh 76 = .ok (.iload 4, 2)) ∧ (decode cX8_weigh 78 = .ok (.ifCond .ne 8, 3)) ∧ (decode cX8_weigh 81 = .ok (.iload 5, 2)) ∧ (decode cX8_weigh 83 = .ok (.ifCond .eq 36, 3)) ∧ (decode cX8_weigh 86 = .ok (.aload_n 0, 1)) ∧ (decode cX8_weigh 87 = .ok (.getfield 24, 3)) := by decide +kernel
theorem dX8_weigh_67 : decode cX8_weigh 67 = .ok (.istore 5, 2) := dX8_weigh_67g.1
theorem dX8_weigh_69 : decode cX8_weigh 69 = .ok (.iload_n 3, 1) := dX8_weigh_67g.2.1
theorem dX8_weigh_70 : decode cX8_weigh 70 = .ok (.sipush 1024, 3) := dX8_weigh_67g.2.2.1
theorem dX8_weigh_73 : decode cX8_weigh 73 = .ok (.if_icmp .ge 46, 3) := dX8_weigh_67g.2.2.2.1
theorem dX8_weigh_76 : decode cX8_weigh 76 = .ok (.iload 4, 2) := dX8_weigh_67g.2.2.2.2.1
theorem dX8_weigh_78 : decode cX8_weigh 78 = .ok (.ifCond .ne 8, 3) := dX8_weigh_67g.2.2.2.2.2.1
theorem dX8_weigh_81 : decode cX8_weigh 81 = .ok (.iload 5, 2) := dX8_weigh_67g.2.2.2.2.2.2.1
theorem dX8_weigh_83 : decode cX8_weigh 83 = .ok (.ifCond .eq 36, 3) := dX8_weigh_67g.2.2.2.2.2.2.2.1
theorem dX8_weigh_86 : decode cX8_weigh 86 = .ok (.aload_n 0, 1) := dX8_weigh_67g.2.2.2.2.2.2.2.2.1
theorem dX8_weigh_87 : decode cX8_weigh 87 = .ok (.getfield 24, 3) := dX8_weigh_67g.2.2.2.2.2.2.2.2.2
theorem dX8_weigh_90g : (decode cX8_weigh 90 = .ok (.iconst 0, 1)) ∧ (decode cX8_weigh 91 = .ok (.iload_n 3, 1)) ∧ (decode cX8_weigh 92 = .ok (.iastore, 1)) ∧ (decode cX8_weigh 93 = .ok (.aload_n 0, 1)) ∧ (decode cX8_weigh 94 = .ok (.getfield 24, 3)) ∧ (decode cX8_weigh 97 = .ok (.iconst 1, 1)) ∧ (decode cX8_weigh 98 = .ok (.iload_n 1, 1)) ∧ (decode cX8_weigh 99 = .ok (.iastore, 1)) ∧ (decode cX8_weigh 100 = .ok (.aload_n 0, 1)) ∧ (decode cX8_weigh 101 = .ok (.getfield 24, 3)) := by decide +kernel
theorem dX8_weigh_90 : decode cX8_weigh 90 = .ok (.iconst 0, 1) := dX8_weigh_90g.1
theorem dX8_weigh_91 : decode cX8_weigh 91 = .ok (.iload_n 3, 1) := dX8_weigh_90g.2.1
theorem dX8_weigh_92 : decode cX8_weigh 92 = .ok (.iastore, 1) := dX8_weigh_90g.2.2.1
theorem dX8_weigh_93 : decode cX8_weigh 93 = .ok (.aload_n 0, 1) := dX8_weigh_90g.2.2.2.1
theorem dX8_weigh_94 : decode cX8_weigh 94 = .ok (.getfield 24, 3) := dX8_weigh_90g.2.2.2.2.1
theorem dX8_weigh_97 : decode cX8_weigh 97 = .ok (.iconst 1, 1) := dX8_weigh_90g.2.2.2.2.2.1
theorem dX8_weigh_98 : decode cX8_weigh 98 = .ok (.iload_n 1, 1) := dX8_weigh_90g.2.2.2.2.2.2.1
theorem dX8_weigh_99 : decode cX8_weigh 99 = .ok (.iastore, 1) := dX8_weigh_90g.2.2.2.2.2.2.2.1
theorem dX8_weigh_100 : decode cX8_weigh 100 = .ok (.aload_n 0, 1) := dX8_weigh_90g.2.2.2.2.2.2.2.2.1
theorem dX8_weigh_101 : decode cX8_weigh 101 = .ok (.getfield 24, 3) := dX8_weigh_90g.2.2.2.2.2.2.2.2.2
theorem dX8_weigh_104g : (decode cX8_weigh 104 = .ok (.iconst 2, 1)) ∧ (decode cX8_weigh 105 = .ok (.iload_n 2, 1)) ∧ (decode cX8_weigh 106 = .ok (.iastore, 1)) ∧ (decode cX8_weigh 107 = .ok (.aload_n 0, 1)) ∧ (decode cX8_weigh 108 = .ok (.getfield 24, 3)) ∧ (decode cX8_weigh 111 = .ok (.iconst 3, 1)) ∧ (decode cX8_weigh 112 = .ok (.aload_n 0, 1)) ∧ (decode cX8_weigh 113 = .ok (.getfield 9, 3)) ∧ (decode cX8_weigh 116 = .ok (.iload_n 1, 1)) ∧ (decode cX8_weigh 117 = .ok (.iaload, 1)) := by decide +kernel
theorem dX8_weigh_104 : decode cX8_weigh 104 = .ok (.iconst 2, 1) := dX8_weigh_104g.1
theorem dX8_weigh_105 : decode cX8_weigh 105 = .ok (.iload_n 2, 1) := dX8_weigh_104g.2.1
theorem dX8_weigh_106 : decode cX8_weigh 106 = .ok (.iastore, 1) := dX8_weigh_104g.2.2.1
theorem dX8_weigh_107 : decode cX8_weigh 107 = .ok (.aload_n 0, 1) := dX8_weigh_104g.2.2.2.1
theorem dX8_weigh_108 : decode cX8_weigh 108 = .ok (.getfield 24, 3) := dX8_weigh_104g.2.2.2.2.1
theorem dX8_weigh_111 : decode cX8_weigh 111 = .ok (.iconst 3, 1) := dX8_weigh_104g.2.2.2.2.2.1
theorem dX8_weigh_112 : decode cX8_weigh 112 = .ok (.aload_n 0, 1) := dX8_weigh_104g.2.2.2.2.2.2.1
theorem dX8_weigh_113 : decode cX8_weigh 113 = .ok (.getfield 9, 3) := dX8_weigh_104g.2.2.2.2.2.2.2.1
theorem dX8_weigh_116 : decode cX8_weigh 116 = .ok (.iload_n 1, 1) := dX8_weigh_104g.2.2.2.2.2.2.2.2.1
theorem dX8_weigh_117 : decode cX8_weigh 117 = .ok (.iaload, 1) := dX8_weigh_104g.2.2.2.2.2.2.2.2.2
theorem dX8_weigh_118g : (decode cX8_weigh 118 = .ok (.iastore, 1)) ∧ (decode cX8_weigh 119 = .ok (.return_, 1)) := by decide +kernel
theorem dX8_weigh_118 : decode cX8_weigh 118 = .ok (.iastore, 1) := dX8_weigh_118g.1
theorem dX8_weigh_119 : decode cX8_weigh 119 = .ok (.return_, 1) := dX8_weigh_118g.2
set_option maxHeartbeats 4000000 in
set_option maxRecDepth 100000 in
theorem c_X8_weigh (l : Launch) (E : Nat → Nat) (D : va_G) (G : th_G) (h0 : Nat) (hG0 : G h0 = some (13, 0)) (x1 x2 : Int32) (hx1 : (0 : Int) ≤ x1.toInt ∧ x1.toInt ≤ 24) : Met l yX8_weigh (tb (.code yX8_weigh cX8_weigh 6 none)) (rm 5) (va_Pc [.ref h0, .int x1, .int x2] (th_P E D G)) (QV E D G) 0 0 (th_A G) := by
  refine Met.ofW (cc := cX8_weigh) (maxL := 6) (ret := none) (by decide) rfl ?_
  intro p e s m args below meth c s₁ B hml hv
  obtain ⟨hav, hI, hN, hK⟩ := hv
  have hx := B.exec
  have hb := B.bytes
  have hr := B.returns
  have hts := atoms_spec (ws := tb (.code yX8_weigh cX8_weigh 6 none)) B.pre
  have hown : s.vm.findClass RX8 = some m.cls := findClass_of_methodNamed B.named
  have hlocks := B.notSynchronized
  have hS : va_S (th_A G) s.heap s.heap [] := va_S.rf
  have hl := lv_entry ([.ref h0, .int x1, .int x2]) (n := 6) (Nat.le_of_ble_eq_true rfl)
  rw [show entryFrame m args 6 = entryFrame m ([.ref h0, .int x1, .int x2] : List Value).toArray 6 from by rw [hav], lg_entry_eq]
  generalize (lg_sl ([.ref h0, .int x1, .int x2]) ++ List.replicate (6 - (lg_sl ([.ref h0, .int x1, .int x2])).length) Slot.unset).toArray = ls at hl ⊢
  have hl : lv_has ls 6 [(0, .ref h0), (1, .int x1), (2, .int x2)] := hl
  generalize hR : (headSpec (tb (.code yX8_weigh cX8_weigh 6 none)) (rm 5)).room = R
  have hR := hR.symm
  generalize hQ : MQ below (QV E D G) args s 0 0 (th_A G) = QF
  have hQ := hQ.symm
  have J_86 : ∀ (H : Heap) (locs : List Loc) (ls : Array Slot) (v1102 : Int32) (v1103 : Int32) (v1104 : Int32), lv_has ls 6 [(5, .int v1102), (4, .int v1103), (3, .int v1104), (0, .ref h0), (1, .int x1), (2, .int x2)] → ((0 : Int) ≤ v1102.toInt ∧ v1102.toInt ≤ 1) → ((0 : Int) ≤ v1103.toInt ∧ v1103.toInt ≤ 1) → (v1104.toInt ≤ 1023) → ((0 : Int) ≤ x1.toInt ∧ x1.toInt ≤ 24) → th_I (okC E) D G [] H → va_S (th_A G) s.heap H locs → W p l e R s m args below meth c H locs 0 0 QF (F0 m 86 ls []) := by
    intro H locs ls v1102 v1103 v1104 hl k1105 k1106 k1107 k1108 hI hS
    refine lv_aload_n hx hb dX8_weigh_86 rfl (lv_at hl 3 rfl) ?_
    obtain ⟨a1109, a1111, a1113, a1115, a1117, a1119, hO, hq1110, hq1112, hq1114, hq1116, hq1118, hq1120⟩ := op_13 hI hG0 List.not_mem_nil
    have hI := th_I.weak (a := h0) hI
    refine th_get hx hb hts inT8 hown hK hO rfl 5 (by decide) (hts _ (tb_c wd_306)) rfl rfl dX8_weigh_87 ?_
    refine lv_iconst (v := 0) hx hb dX8_weigh_90 (by decide) ?_
    refine lv_iload_n hx hb dX8_weigh_91 rfl (lv_at hl 2 rfl) ?_
    obtain ⟨_, hA1121⟩ := op_0 hI hq1120 (th_ne hG0 hq1120 (show (13 : Nat) ≠ 0 by decide))
    refine th_iast hx hb hK hA1121 0 rfl hS ⟨_, hq1120⟩ (iv_in (X := (0)) (by decide) (by omega) (by omega)) dX8_weigh_92 (fun H locs hA1121 oq hS => ?_)
    have hI := th_I.put hI hq1120 hA1121 ok_0 oq
    have hO := hO.kept (oq _ (fun z => th_ne hG0 hq1120 (show (13 : Nat) ≠ 0 by decide) (List.mem_singleton.mpr z.symm)))
    refine lv_aload_n hx hb dX8_weigh_93 rfl (lv_at hl 3 rfl) ?_
    refine th_get hx hb hts inT8 hown hK hO rfl 5 (by decide) (hts _ (tb_c wd_306)) rfl rfl dX8_weigh_94 ?_
    refine lv_iconst (v := 1) hx hb dX8_weigh_97 (by decide) ?_
    refine lv_iload_n hx hb dX8_weigh_98 rfl (lv_at hl 4 rfl) ?_
    obtain ⟨_, hA1122⟩ := op_0 hI hq1120 (th_ne hG0 hq1120 (show (13 : Nat) ≠ 0 by decide))
    refine th_iast hx hb hK hA1122 0 rfl hS ⟨_, hq1120⟩ (iv_in (X := (1)) (by decide) (by omega) (by omega)) dX8_weigh_99 (fun H locs hA1122 oq hS => ?_)
    have hI := th_I.put hI hq1120 hA1122 ok_0 oq
    have hO := hO.kept (oq _ (fun z => th_ne hG0 hq1120 (show (13 : Nat) ≠ 0 by decide) (List.mem_singleton.mpr z.symm)))
    refine lv_aload_n hx hb dX8_weigh_100 rfl (lv_at hl 3 rfl) ?_
    refine th_get hx hb hts inT8 hown hK hO rfl 5 (by decide) (hts _ (tb_c wd_306)) rfl rfl dX8_weigh_101 ?_
    refine lv_iconst (v := 2) hx hb dX8_weigh_104 (by decide) ?_
    refine lv_iload_n hx hb dX8_weigh_105 rfl (lv_at hl 5 rfl) ?_
    obtain ⟨_, hA1123⟩ := op_0 hI hq1120 (th_ne hG0 hq1120 (show (13 : Nat) ≠ 0 by decide))
    refine th_iast hx hb hK hA1123 0 rfl hS ⟨_, hq1120⟩ (iv_in (X := (2)) (by decide) (by omega) (by omega)) dX8_weigh_106 (fun H locs hA1123 oq hS => ?_)
    have hI := th_I.put hI hq1120 hA1123 ok_0 oq
    have hO := hO.kept (oq _ (fun z => th_ne hG0 hq1120 (show (13 : Nat) ≠ 0 by decide) (List.mem_singleton.mpr z.symm)))
    refine lv_aload_n hx hb dX8_weigh_107 rfl (lv_at hl 3 rfl) ?_
    refine th_get hx hb hts inT8 hown hK hO rfl 5 (by decide) (hts _ (tb_c wd_306)) rfl rfl dX8_weigh_108 ?_
    refine lv_iconst (v := 3) hx hb dX8_weigh_111 (by decide) ?_
    refine lv_aload_n hx hb dX8_weigh_112 rfl (lv_at hl 3 rfl) ?_
    refine th_get hx hb hts inT8 hown hK hO rfl 1 (by decide) (hts _ (tb_c wd_302)) rfl rfl dX8_weigh_113 ?_
    refine lv_iload_n hx hb dX8_weigh_116 rfl (lv_at hl 4 rfl) ?_
    obtain ⟨_, hA1124⟩ := op_0 hI hq1112 (th_ne hG0 hq1112 (show (13 : Nat) ≠ 0 by decide))
    refine th_iald hx hb hK hA1124 0 rfl (iv_in (X := x1.toInt) rfl (by omega) (by omega)) dX8_weigh_117 (fun v1125 _ => ?_)
    obtain ⟨_, hA1126⟩ := op_0 hI hq1120 (th_ne hG0 hq1120 (show (13 : Nat) ≠ 0 by decide))
    refine th_iast hx hb hK hA1126 0 rfl hS ⟨_, hq1120⟩ (iv_in (X := (3)) (by decide) (by omega) (by omega)) dX8_weigh_118 (fun H locs hA1126 oq hS => ?_)
    have hI := th_I.put hI hq1120 hA1126 ok_0 oq
    have hO := hO.kept (oq _ (fun z => th_ne hG0 hq1120 (show (13 : Nat) ≠ 0 by decide) (List.mem_singleton.mpr z.symm)))
    have hI := th_I.close hI hG0 hO (ok_13 hq1110 hq1112 hq1114 hq1116 hq1118 hq1120)
    rw [hQ]
    exact W.vret hx hb hr (fun t ht hW => ⟨⟨(), rfl, trivial, by rw [ht]; exact hI, hN.warm hW, va_K.moved hW.alike hK⟩, hS.F ht⟩) hS.2.2 dX8_weigh_119
  have J_67 : ∀ (H : Heap) (locs : List Loc) (ls : Array Slot) (v1127 : Int32) (v1128 : Int32) (v1129 : Int32), lv_has ls 6 [(4, .int v1127), (3, .int v1128), (0, .ref h0), (1, .int x1), (2, .int x2)] → ((0 : Int) ≤ v1127.toInt ∧ v1127.toInt ≤ 1) → ((0 : Int) ≤ x1.toInt ∧ x1.toInt ≤ 24) → ((0 : Int) ≤ v1129.toInt ∧ v1129.toInt ≤ 1) → th_I (okC E) D G [] H → va_S (th_A G) s.heap H locs → W p l e R s m args below meth c H locs 0 0 QF (F0 m 67 ls [.int v1129]) := by
    intro H locs ls v1127 v1128 v1129 hl k1130 k1131 k1132 hI hS
    refine lv_istore (lv' := [(5, .int v1129), (4, .int v1127), (3, .int v1128), (0, .ref h0), (1, .int x1), (2, .int x2)]) hx hb dX8_weigh_67 hl (by decide) rfl (fun ls hl => ?_)
    refine lv_iload_n hx hb dX8_weigh_69 rfl (lv_at hl 2 rfl) ?_
    refine lv_sipush (v := 1024) hx hb dX8_weigh_70 (by decide) ?_
    have k1133 := iv_lo v1128
    have k1134 := iv_hi v1128
    refine lv_icmp_ge (tgt := 119) hx hb dX8_weigh_73 (by decide) (fun c1135 => ?_) (fun c1135 => ?_)
    · skip
      have k1136 := iv_le (X := (1024)) (Y := v1128.toInt) (by decide) rfl c1135
      rw [hQ]
      exact W.vret hx hb hr (fun t ht hW => ⟨⟨(), rfl, trivial, by rw [ht]; exact hI, hN.warm hW, va_K.moved hW.alike hK⟩, hS.F ht⟩) hS.2.2 dX8_weigh_119
    · skip
      have k1137 := iv_nle (X := (1024)) (Y := v1128.toInt) (by decide) rfl c1135
      refine lv_iload hx hb dX8_weigh_76 (lv_at hl 1 rfl) ?_
      refine lv_if_ne (tgt := 86) hx hb dX8_weigh_78 (by decide) (fun c1138 => ?_) (fun c1138 => ?_)
      · skip
        have k1139 := iv_ne (X := v1127.toInt) (Y := (0)) rfl (by decide) c1138
        exact J_86 H locs ls v1129 v1127 v1128 (lv_sub hl [0, 1, 2, 3, 4, 5] rfl) ⟨by omega, by omega⟩ ⟨by omega, by omega⟩ (by omega) ⟨by omega, by omega⟩ hI hS
      · skip
        have k1140 := iv_eq (X := v1127.toInt) (Y := (0)) rfl (by decide) c1138
        refine lv_iload hx hb dX8_weigh_81 (lv_at hl 0 rfl) ?_
        refine lv_if_eq (tgt := 119) hx hb dX8_weigh_83 (by decide) (fun c1141 => ?_) (fun c1141 => ?_)
        · skip
          have k1142 := iv_eq (X := v1129.toInt) (Y := (0)) rfl (by decide) c1141
          rw [hQ]
          exact W.vret hx hb hr (fun t ht hW => ⟨⟨(), rfl, trivial, by rw [ht]; exact hI, hN.warm hW, va_K.moved hW.alike hK⟩, hS.F ht⟩) hS.2.2 dX8_weigh_119
        · skip
          have k1143 := iv_ne (X := v1129.toInt) (Y := (0)) rfl (by decide) c1141
          exact J_86 H locs ls v1129 v1127 v1128 (lv_sub hl [0, 1, 2, 3, 4, 5] rfl) ⟨by omega, by omega⟩ ⟨by omega, by omega⟩ (by omega) ⟨by omega, by omega⟩ hI hS
  have J_66 : ∀ (H : Heap) (locs : List Loc) (ls : Array Slot) (v1144 : Int32) (v1145 : Int32), lv_has ls 6 [(4, .int v1144), (3, .int v1145), (0, .ref h0), (1, .int x1), (2, .int x2)] → ((0 : Int) ≤ v1144.toInt ∧ v1144.toInt ≤ 1) → ((0 : Int) ≤ x1.toInt ∧ x1.toInt ≤ 24) → th_I (okC E) D G [] H → va_S (th_A G) s.heap H locs → W p l e R s m args below meth c H locs 0 0 QF (F0 m 66 ls []) := by
    intro H locs ls v1144 v1145 hl k1146 k1147 hI hS
    refine lv_iconst (v := 0) hx hb dX8_weigh_66 (by decide) ?_
    exact J_67 H locs ls v1144 v1145 0 (lv_sub hl [0, 1, 2, 3, 4] rfl) ⟨by omega, by omega⟩ ⟨by omega, by omega⟩ ⟨by decide, by decide⟩ hI hS
  have J_35 : ∀ (H : Heap) (locs : List Loc) (ls : Array Slot) (v1148 : Int32) (v1149 : Int32), lv_has ls 6 [(3, .int v1148), (0, .ref h0), (1, .int x1), (2, .int x2)] → ((0 : Int) ≤ x1.toInt ∧ x1.toInt ≤ 24) → ((0 : Int) ≤ v1149.toInt ∧ v1149.toInt ≤ 1) → th_I (okC E) D G [] H → va_S (th_A G) s.heap H locs → W p l e R s m args below meth c H locs 0 0 QF (F0 m 35 ls [.int v1149]) := by
    intro H locs ls v1148 v1149 hl k1150 k1151 hI hS
    refine lv_istore (lv' := [(4, .int v1149), (3, .int v1148), (0, .ref h0), (1, .int x1), (2, .int x2)]) hx hb dX8_weigh_35 hl (by decide) rfl (fun ls hl => ?_)
    refine lv_iload_n hx hb dX8_weigh_37 rfl (lv_at hl 1 rfl) ?_
    refine lv_aload_n hx hb dX8_weigh_38 rfl (lv_at hl 2 rfl) ?_
    obtain ⟨a1152, a1154, a1156, a1158, a1160, a1162, hO, hq1153, hq1155, hq1157, hq1159, hq1161, hq1163⟩ := op_13 hI hG0 List.not_mem_nil
    have hI := th_I.weak (a := h0) hI
    refine th_get hx hb hts inT8 hown hK hO rfl 5 (by decide) (hts _ (tb_c wd_306)) rfl rfl dX8_weigh_39 ?_
    refine lv_iconst (v := 0) hx hb dX8_weigh_42 (by decide) ?_
    obtain ⟨_, hA1164⟩ := op_0 hI hq1163 (th_ne hG0 hq1163 (show (13 : Nat) ≠ 0 by decide))
    refine th_iald hx hb hK hA1164 0 rfl (iv_in (X := (0)) (by decide) (by omega) (by omega)) dX8_weigh_43 (fun v1165 _ => ?_)
    have k1166 := iv_lo v1148
    have k1167 := iv_hi v1148
    have k1168 := iv_lo v1165
    have k1169 := iv_hi v1165
    refine lv_icmp_ne (tgt := 66) hx hb dX8_weigh_44 (by decide) (fun c1170 => ?_) (fun c1170 => ?_)
    · skip
      have k1171 := iv_ne (X := v1148.toInt) (Y := v1165.toInt) rfl rfl c1170
      have hI := th_I.close hI hG0 hO (ok_13 hq1153 hq1155 hq1157 hq1159 hq1161 hq1163)
      exact J_66 H locs ls v1149 v1148 (lv_sub hl [0, 1, 2, 3, 4] rfl) ⟨by omega, by omega⟩ ⟨by omega, by omega⟩ hI hS
    · skip
      have k1172 := iv_eq (X := v1148.toInt) (Y := v1165.toInt) rfl rfl c1170
      refine lv_aload_n hx hb dX8_weigh_47 rfl (lv_at hl 2 rfl) ?_
      refine th_get hx hb hts inT8 hown hK hO rfl 1 (by decide) (hts _ (tb_c wd_302)) rfl rfl dX8_weigh_48 ?_
      refine lv_iload_n hx hb dX8_weigh_51 rfl (lv_at hl 3 rfl) ?_
      obtain ⟨_, hA1173⟩ := op_0 hI hq1155 (th_ne hG0 hq1155 (show (13 : Nat) ≠ 0 by decide))
      refine th_iald hx hb hK hA1173 0 rfl (iv_in (X := x1.toInt) rfl (by omega) (by omega)) dX8_weigh_52 (fun v1174 _ => ?_)
      refine lv_aload_n hx hb dX8_weigh_53 rfl (lv_at hl 2 rfl) ?_
      refine th_get hx hb hts inT8 hown hK hO rfl 5 (by decide) (hts _ (tb_c wd_306)) rfl rfl dX8_weigh_54 ?_
      refine lv_iconst (v := 3) hx hb dX8_weigh_57 (by decide) ?_
      obtain ⟨_, hA1175⟩ := op_0 hI hq1163 (th_ne hG0 hq1163 (show (13 : Nat) ≠ 0 by decide))
      refine th_iald hx hb hK hA1175 0 rfl (iv_in (X := (3)) (by decide) (by omega) (by omega)) dX8_weigh_58 (fun v1176 _ => ?_)
      have k1177 := iv_lo v1174
      have k1178 := iv_hi v1174
      have k1179 := iv_lo v1176
      have k1180 := iv_hi v1176
      refine lv_icmp_gt (tgt := 66) hx hb dX8_weigh_59 (by decide) (fun c1181 => ?_) (fun c1181 => ?_)
      · skip
        have k1182 := iv_lt (X := v1176.toInt) (Y := v1174.toInt) rfl rfl c1181
        have hI := th_I.close hI hG0 hO (ok_13 hq1153 hq1155 hq1157 hq1159 hq1161 hq1163)
        exact J_66 H locs ls v1149 v1148 (lv_sub hl [0, 1, 2, 3, 4] rfl) ⟨by omega, by omega⟩ ⟨by omega, by omega⟩ hI hS
      · skip
        have k1183 := iv_nlt (X := v1176.toInt) (Y := v1174.toInt) rfl rfl c1181
        refine lv_iconst (v := 1) hx hb dX8_weigh_62 (by decide) ?_
        refine lv_goto (tgt := 67) hx hb dX8_weigh_63 (by decide) ?_
        have hI := th_I.close hI hG0 hO (ok_13 hq1153 hq1155 hq1157 hq1159 hq1161 hq1163)
        exact J_67 H locs ls v1149 v1148 1 (lv_sub hl [0, 1, 2, 3, 4] rfl) ⟨by omega, by omega⟩ ⟨by omega, by omega⟩ ⟨by decide, by decide⟩ hI hS
  have J_30 : ∀ (H : Heap) (locs : List Loc) (ls : Array Slot) (v1184 : Int32), lv_has ls 6 [(3, .int v1184), (0, .ref h0), (1, .int x1), (2, .int x2)] → ((0 : Int) ≤ x1.toInt ∧ x1.toInt ≤ 24) → th_I (okC E) D G [] H → va_S (th_A G) s.heap H locs → W p l e R s m args below meth c H locs 0 0 QF (F0 m 30 ls []) := by
    intro H locs ls v1184 hl k1185 hI hS
    refine lv_iconst (v := 1) hx hb dX8_weigh_30 (by decide) ?_
    refine lv_goto (tgt := 35) hx hb dX8_weigh_31 (by decide) ?_
    exact J_35 H locs ls v1184 1 (lv_sub hl [0, 1, 2, 3] rfl) ⟨by omega, by omega⟩ ⟨by decide, by decide⟩ hI hS
  refine lv_aload_n hx hb dX8_weigh_0 rfl (lv_at hl 0 rfl) ?_
  obtain ⟨a1186, a1188, a1190, a1192, a1194, a1196, hO, hq1187, hq1189, hq1191, hq1193, hq1195, hq1197⟩ := op_13 hI hG0 List.not_mem_nil
  have hI := th_I.weak (a := h0) hI
  refine th_get hx hb hts inT8 hown hK hO rfl 0 (by decide) (hts _ (tb_c wd_301)) rfl rfl dX8_weigh_1 ?_
  refine lv_iload_n hx hb dX8_weigh_4 rfl (lv_at hl 1 rfl) ?_
  refine lv_iload_n hx hb dX8_weigh_5 rfl (lv_at hl 2 rfl) ?_
  have hI := th_I.close hI hG0 hO (ok_13 hq1187 hq1189 hq1191 hq1193 hq1195 hq1197)
  refine th_cVi (As := [.int x1, .int x2]) (rest := []) (n := 2) (d := 4) ⟨hx, hb, hml, hown, hts⟩ (c_X7_priceAt l E D G a1186 hq1187 x1 x2) wd_974 wd_628 wd_629 wd_6 wd_630 (by decide +kernel) ⟨by rw [hR]; exact Nat.le_of_ble_eq_true rfl, by rw [hR]; exact Nat.le_of_ble_eq_true rfl⟩ hI hN hK hS (rc_9 hI hq1187 List.not_mem_nil) rfl rfl hl.1 rfl (Nat.le_of_ble_eq_true rfl) dX8_weigh_6 ⟨Nat.zero_le _, Nat.zero_le _⟩ (fun r1198 H locs hp hI hS => ?_)
  refine lv_istore_n (lv' := [(3, .int r1198), (0, .ref h0), (1, .int x1), (2, .int x2)]) hx hb dX8_weigh_9 rfl hl (by decide) rfl (fun ls hl => ?_)
  refine lv_aload_n hx hb dX8_weigh_10 rfl (lv_at hl 1 rfl) ?_
  obtain ⟨a1199, a1201, a1203, a1205, a1207, a1209, hO, hq1200, hq1202, hq1204, hq1206, hq1208, hq1210⟩ := op_13 hI hG0 List.not_mem_nil
  have hI := th_I.weak (a := h0) hI
  refine th_get hx hb hts inT8 hown hK hO rfl 5 (by decide) (hts _ (tb_c wd_306)) rfl rfl dX8_weigh_11 ?_
  refine lv_iconst (v := 0) hx hb dX8_weigh_14 (by decide) ?_
  obtain ⟨_, hA1211⟩ := op_0 hI hq1210 (th_ne hG0 hq1210 (show (13 : Nat) ≠ 0 by decide))
  refine th_iald hx hb hK hA1211 0 rfl (iv_in (X := (0)) (by decide) (by omega) (by omega)) dX8_weigh_15 (fun v1212 _ => ?_)
  refine lv_iconst (v := (-1)) hx hb dX8_weigh_16 (by decide) ?_
  have k1213 := iv_lo v1212
  have k1214 := iv_hi v1212
  refine lv_icmp_eq (tgt := 30) hx hb dX8_weigh_17 (by decide) (fun c1215 => ?_) (fun c1215 => ?_)
  · skip
    have k1216 := iv_eq (X := v1212.toInt) (Y := (-1)) rfl (by decide) c1215
    have hI := th_I.close hI hG0 hO (ok_13 hq1200 hq1202 hq1204 hq1206 hq1208 hq1210)
    exact J_30 H locs ls r1198 (lv_sub hl [0, 1, 2, 3] rfl) ⟨by omega, by omega⟩ hI hS
  · skip
    have k1217 := iv_ne (X := v1212.toInt) (Y := (-1)) rfl (by decide) c1215
    refine lv_iload_n hx hb dX8_weigh_20 rfl (lv_at hl 0 rfl) ?_
    refine lv_aload_n hx hb dX8_weigh_21 rfl (lv_at hl 1 rfl) ?_
    refine th_get hx hb hts inT8 hown hK hO rfl 5 (by decide) (hts _ (tb_c wd_306)) rfl rfl dX8_weigh_22 ?_
    refine lv_iconst (v := 0) hx hb dX8_weigh_25 (by decide) ?_
    obtain ⟨_, hA1218⟩ := op_0 hI hq1210 (th_ne hG0 hq1210 (show (13 : Nat) ≠ 0 by decide))
    refine th_iald hx hb hK hA1218 0 rfl (iv_in (X := (0)) (by decide) (by omega) (by omega)) dX8_weigh_26 (fun v1219 _ => ?_)
    have k1220 := iv_lo r1198
    have k1221 := iv_hi r1198
    have k1222 := iv_lo v1219
    have k1223 := iv_hi v1219
    refine lv_icmp_ge (tgt := 34) hx hb dX8_weigh_27 (by decide) (fun c1224 => ?_) (fun c1224 => ?_)
    · skip
      have k1225 := iv_le (X := v1219.toInt) (Y := r1198.toInt) rfl rfl c1224
      refine lv_iconst (v := 0) hx hb dX8_weigh_34 (by decide) ?_
      have hI := th_I.close hI hG0 hO (ok_13 hq1200 hq1202 hq1204 hq1206 hq1208 hq1210)
      exact J_35 H locs ls r1198 0 (lv_sub hl [0, 1, 2, 3] rfl) ⟨by omega, by omega⟩ ⟨by decide, by decide⟩ hI hS
    · skip
      have k1226 := iv_nle (X := v1219.toInt) (Y := r1198.toInt) rfl rfl c1224
      have hI := th_I.close hI hG0 hO (ok_13 hq1200 hq1202 hq1204 hq1206 hq1208 hq1210)
      exact J_30 H locs ls r1198 (lv_sub hl [0, 1, 2, 3] rfl) ⟨by omega, by omega⟩ hI hS
theorem dX8_cheapest_0g : (decode cX8_cheapest 0 = .ok (.aload_n 0, 1)) ∧ (decode cX8_cheapest 1 = .ok (.getfield 9, 3)) ∧ (decode cX8_cheapest 4 = .ok (.iconst (-1), 1)) ∧ (decode cX8_cheapest 5 = .ok (.invokestatic 31, 3)) ∧ (decode cX8_cheapest 8 = .ok (.aload_n 0, 1)) ∧ (decode cX8_cheapest 9 = .ok (.getfield 24, 3)) ∧ (decode cX8_cheapest 12 = .ok (.iconst (-1), 1)) ∧ (decode cX8_cheapest 13 = .ok (.invokestatic 31, 3)) ∧ (decode cX8_cheapest 16 = .ok (.iload_n 3, 1)) ∧ (decode cX8_cheapest 17 = .ok (.istore 6, 2)) := by decide +kernel
theorem dX8_cheapest_0 : decode cX8_cheapest 0 = .ok (.aload_n 0, 1) := dX8_cheapest_0g.1
theorem dX8_cheapest_1 : decode cX8_cheapest 1 = .ok (.getfield 9, 3) := dX8_cheapest_0g.2.1
theorem dX8_cheapest_4 : decode cX8_cheapest 4 = .ok (.iconst (-1), 1) := dX8_cheapest_0g.2.2.1
theorem dX8_cheapest_5 : decode cX8_cheapest 5 = .ok (.invokestatic 31, 3) := dX8_cheapest_0g.2.2.2.1
theorem dX8_cheapest_8 : decode cX8_cheapest 8 = .ok (.aload_n 0, 1) := dX8_cheapest_0g.2.2.2.2.1
theorem dX8_cheapest_9 : decode cX8_cheapest 9 = .ok (.getfield 24, 3) := dX8_cheapest_0g.2.2.2.2.2.1
theorem dX8_cheapest_12 : decode cX8_cheapest 12 = .ok (.iconst (-1), 1) := dX8_cheapest_0g.2.2.2.2.2.2.1
theorem dX8_cheapest_13 : decode cX8_cheapest 13 = .ok (.invokestatic 31, 3) := dX8_cheapest_0g.2.2.2.2.2.2.2.1
theorem dX8_cheapest_16 : decode cX8_cheapest 16 = .ok (.iload_n 3, 1) := dX8_cheapest_0g.2.2.2.2.2.2.2.2.1
theorem dX8_cheapest_17 : decode cX8_cheapest 17 = .ok (.istore 6, 2) := dX8_cheapest_0g.2.2.2.2.2.2.2.2.2
theorem dX8_cheapest_19g : (decode cX8_cheapest 19 = .ok (.iload 6, 2)) ∧ (decode cX8_cheapest 21 = .ok (.iload 4, 2)) ∧ (decode cX8_cheapest 23 = .ok (.if_icmp .lt 67, 3)) ∧ (decode cX8_cheapest 26 = .ok (.iload 6, 2)) ∧ (decode cX8_cheapest 28 = .ok (.ifCond .lt 62, 3)) ∧ (decode cX8_cheapest 31 = .ok (.aload_n 0, 1)) ∧ (decode cX8_cheapest 32 = .ok (.aload_n 0, 1)) ∧ (decode cX8_cheapest 33 = .ok (.getfield 9, 3)) ∧ (decode cX8_cheapest 36 = .ok (.iload_n 1, 1)) ∧ (decode cX8_cheapest 37 = .ok (.iload 6, 2)) := by decide +kernel
theorem dX8_cheapest_19 : decode cX8_cheapest 19 = .ok (.iload 6, 2) := dX8_cheapest_19g.1
theorem dX8_cheapest_21 : decode cX8_cheapest 21 = .ok (.iload 4, 2) := dX8_cheapest_19g.2.1
theorem dX8_cheapest_23 : decode cX8_cheapest 23 = .ok (.if_icmp .lt 67, 3) := dX8_cheapest_19g.2.2.1
theorem dX8_cheapest_26 : decode cX8_cheapest 26 = .ok (.iload 6, 2) := dX8_cheapest_19g.2.2.2.1
theorem dX8_cheapest_28 : decode cX8_cheapest 28 = .ok (.ifCond .lt 62, 3) := dX8_cheapest_19g.2.2.2.2.1
theorem dX8_cheapest_31 : decode cX8_cheapest 31 = .ok (.aload_n 0, 1) := dX8_cheapest_19g.2.2.2.2.2.1
theorem dX8_cheapest_32 : decode cX8_cheapest 32 = .ok (.aload_n 0, 1) := dX8_cheapest_19g.2.2.2.2.2.2.1
theorem dX8_cheapest_33 : decode cX8_cheapest 33 = .ok (.getfield 9, 3) := dX8_cheapest_19g.2.2.2.2.2.2.2.1
theorem dX8_cheapest_36 : decode cX8_cheapest 36 = .ok (.iload_n 1, 1) := dX8_cheapest_19g.2.2.2.2.2.2.2.2.1
theorem dX8_cheapest_37 : decode cX8_cheapest 37 = .ok (.iload 6, 2) := dX8_cheapest_19g.2.2.2.2.2.2.2.2.2
theorem dX8_cheapest_39g : (decode cX8_cheapest 39 = .ok (.iload_n 2, 1)) ∧ (decode cX8_cheapest 40 = .ok (.invokevirtual 37, 3)) ∧ (decode cX8_cheapest 43 = .ok (.bipush 23, 2)) ∧ (decode cX8_cheapest 45 = .ok (.istore 7, 2)) ∧ (decode cX8_cheapest 47 = .ok (.iload 7, 2)) ∧ (decode cX8_cheapest 49 = .ok (.ifCond .lt 35, 3)) ∧ (decode cX8_cheapest 52 = .ok (.iload 6, 2)) ∧ (decode cX8_cheapest 54 = .ok (.bipush 96, 2)) ∧ (decode cX8_cheapest 56 = .ok (.if_icmp .ge 28, 3)) ∧ (decode cX8_cheapest 59 = .ok (.aload_n 0, 1)) := by decide +kernel
theorem dX8_cheapest_39 : decode cX8_cheapest 39 = .ok (.iload_n 2, 1) := dX8_cheapest_39g.1
theorem dX8_cheapest_40 : decode cX8_cheapest 40 = .ok (.invokevirtual 37, 3) := dX8_cheapest_39g.2.1
theorem dX8_cheapest_43 : decode cX8_cheapest 43 = .ok (.bipush 23, 2) := dX8_cheapest_39g.2.2.1
theorem dX8_cheapest_45 : decode cX8_cheapest 45 = .ok (.istore 7, 2) := dX8_cheapest_39g.2.2.2.1
theorem dX8_cheapest_47 : decode cX8_cheapest 47 = .ok (.iload 7, 2) := dX8_cheapest_39g.2.2.2.2.1
theorem dX8_cheapest_49 : decode cX8_cheapest 49 = .ok (.ifCond .lt 35, 3) := dX8_cheapest_39g.2.2.2.2.2.1
theorem dX8_cheapest_52 : decode cX8_cheapest 52 = .ok (.iload 6, 2) := dX8_cheapest_39g.2.2.2.2.2.2.1
theorem dX8_cheapest_54 : decode cX8_cheapest 54 = .ok (.bipush 96, 2) := dX8_cheapest_39g.2.2.2.2.2.2.2.1
theorem dX8_cheapest_56 : decode cX8_cheapest 56 = .ok (.if_icmp .ge 28, 3) := dX8_cheapest_39g.2.2.2.2.2.2.2.2.1
theorem dX8_cheapest_59 : decode cX8_cheapest 59 = .ok (.aload_n 0, 1) := dX8_cheapest_39g.2.2.2.2.2.2.2.2.2
theorem dX8_cheapest_60g : (decode cX8_cheapest 60 = .ok (.getfield 9, 3)) ∧ (decode cX8_cheapest 63 = .ok (.iload 7, 2)) ∧ (decode cX8_cheapest 65 = .ok (.iaload, 1)) ∧ (decode cX8_cheapest 66 = .ok (.iconst (-1), 1)) ∧ (decode cX8_cheapest 67 = .ok (.if_icmp .eq 11, 3)) ∧ (decode cX8_cheapest 70 = .ok (.aload_n 0, 1)) ∧ (decode cX8_cheapest 71 = .ok (.iload 7, 2)) ∧ (decode cX8_cheapest 73 = .ok (.iload 6, 2)) ∧ (decode cX8_cheapest 75 = .ok (.invokevirtual 41, 3)) ∧ (decode cX8_cheapest 78 = .ok (.iinc 7 (-1), 3)) := by decide +kernel
theorem dX8_cheapest_60 : decode cX8_cheapest 60 = .ok (.getfield 9, 3) := dX8_cheapest_60g.1
theorem dX8_cheapest_63 : decode cX8_cheapest 63 = .ok (.iload 7, 2) := dX8_cheapest_60g.2.1
theorem dX8_cheapest_65 : decode cX8_cheapest 65 = .ok (.iaload, 1) := dX8_cheapest_60g.2.2.1
theorem dX8_cheapest_66 : decode cX8_cheapest 66 = .ok (.iconst (-1), 1) := dX8_cheapest_60g.2.2.2.1
theorem dX8_cheapest_67 : decode cX8_cheapest 67 = .ok (.if_icmp .eq 11, 3) := dX8_cheapest_60g.2.2.2.2.1
theorem dX8_cheapest_70 : decode cX8_cheapest 70 = .ok (.aload_n 0, 1) := dX8_cheapest_60g.2.2.2.2.2.1
theorem dX8_cheapest_71 : decode cX8_cheapest 71 = .ok (.iload 7, 2) := dX8_cheapest_60g.2.2.2.2.2.2.1
theorem dX8_cheapest_73 : decode cX8_cheapest 73 = .ok (.iload 6, 2) := dX8_cheapest_60g.2.2.2.2.2.2.2.1
theorem dX8_cheapest_75 : decode cX8_cheapest 75 = .ok (.invokevirtual 41, 3) := dX8_cheapest_60g.2.2.2.2.2.2.2.2.1
theorem dX8_cheapest_78 : decode cX8_cheapest 78 = .ok (.iinc 7 (-1), 3) := dX8_cheapest_60g.2.2.2.2.2.2.2.2.2
theorem dX8_cheapest_81g : (decode cX8_cheapest 81 = .ok (.goto (-34), 3)) ∧ (decode cX8_cheapest 84 = .ok (.iinc 6 (-1), 3)) ∧ (decode cX8_cheapest 87 = .ok (.goto (-68), 3)) ∧ (decode cX8_cheapest 90 = .ok (.iload 5, 2)) ∧ (decode cX8_cheapest 92 = .ok (.ifCond .lt 23, 3)) ∧ (decode cX8_cheapest 95 = .ok (.iload 5, 2)) ∧ (decode cX8_cheapest 97 = .ok (.aload_n 0, 1)) ∧ (decode cX8_cheapest 98 = .ok (.getfield 24, 3)) ∧ (decode cX8_cheapest 101 = .ok (.arraylength, 1)) ∧ (decode cX8_cheapest 102 = .ok (.if_icmp .ge 13, 3)) := by decide +kernel
theorem dX8_cheapest_81 : decode cX8_cheapest 81 = .ok (.goto (-34), 3) := dX8_cheapest_81g.1
theorem dX8_cheapest_84 : decode cX8_cheapest 84 = .ok (.iinc 6 (-1), 3) := dX8_cheapest_81g.2.1
theorem dX8_cheapest_87 : decode cX8_cheapest 87 = .ok (.goto (-68), 3) := dX8_cheapest_81g.2.2.1
theorem dX8_cheapest_90 : decode cX8_cheapest 90 = .ok (.iload 5, 2) := dX8_cheapest_81g.2.2.2.1
theorem dX8_cheapest_92 : decode cX8_cheapest 92 = .ok (.ifCond .lt 23, 3) := dX8_cheapest_81g.2.2.2.2.1
theorem dX8_cheapest_95 : decode cX8_cheapest 95 = .ok (.iload 5, 2) := dX8_cheapest_81g.2.2.2.2.2.1
theorem dX8_cheapest_97 : decode cX8_cheapest 97 = .ok (.aload_n 0, 1) := dX8_cheapest_81g.2.2.2.2.2.2.1
theorem dX8_cheapest_98 : decode cX8_cheapest 98 = .ok (.getfield 24, 3) := dX8_cheapest_81g.2.2.2.2.2.2.2.1
theorem dX8_cheapest_101 : decode cX8_cheapest 101 = .ok (.arraylength, 1) := dX8_cheapest_81g.2.2.2.2.2.2.2.2.1
theorem dX8_cheapest_102 : decode cX8_cheapest 102 = .ok (.if_icmp .ge 13, 3) := dX8_cheapest_81g.2.2.2.2.2.2.2.2.2
theorem dX8_cheapest_105g : (decode cX8_cheapest 105 = .ok (.aload_n 0, 1)) ∧ (decode cX8_cheapest 106 = .ok (.getfield 24, 3)) ∧ (decode cX8_cheapest 109 = .ok (.iload 5, 2)) ∧ (decode cX8_cheapest 111 = .ok (.iaload, 1)) ∧ (decode cX8_cheapest 112 = .ok (.goto 4, 3)) ∧ (decode cX8_cheapest 115 = .ok (.iconst (-1), 1)) ∧ (decode cX8_cheapest 116 = .ok (.ireturn, 1)) := by decide +kernel
theorem dX8_cheapest_105 : decode cX8_cheapest 105 = .ok (.aload_n 0, 1) := dX8_cheapest_105g.1
theorem dX8_cheapest_106 : decode cX8_cheapest 106 = .ok (.getfield 24, 3) := dX8_cheapest_105g.2.1
theorem dX8_cheapest_109 : decode cX8_cheapest 109 = .ok (.iload 5, 2) := dX8_cheapest_105g.2.2.1
theorem dX8_cheapest_111 : decode cX8_cheapest 111 = .ok (.iaload, 1) := dX8_cheapest_105g.2.2.2.1
theorem dX8_cheapest_112 : decode cX8_cheapest 112 = .ok (.goto 4, 3) := dX8_cheapest_105g.2.2.2.2.1
theorem dX8_cheapest_115 : decode cX8_cheapest 115 = .ok (.iconst (-1), 1) := dX8_cheapest_105g.2.2.2.2.2.1
theorem dX8_cheapest_116 : decode cX8_cheapest 116 = .ok (.ireturn, 1) := dX8_cheapest_105g.2.2.2.2.2.2
set_option maxHeartbeats 4000000 in
set_option maxRecDepth 100000 in
theorem c_X8_cheapest (l : Launch) (E : Nat → Nat) (D : va_G) (G : th_G) (h0 : Nat) (hG0 : G h0 = some (13, 0)) (x1 x2 x3 x4 x5 : Int32) : Met l yX8_cheapest (tb (.code yX8_cheapest cX8_cheapest 8 (some .int))) (rm 6) (va_Pc [.ref h0, .int x1, .int x2, .int x3, .int x4, .int x5] (th_P E D G)) (QI E D G (fun r => True)) 0 0 (th_A G) := by
  refine Met.ofW (cc := cX8_cheapest) (maxL := 8) (ret := (some .int)) (by decide) rfl ?_
  intro p e s m args below meth c s₁ B hml hv
  obtain ⟨hav, hI, hN, hK⟩ := hv
  have hx := B.exec
  have hb := B.bytes
  have hr := B.returns
  have hts := atoms_spec (ws := tb (.code yX8_cheapest cX8_cheapest 8 (some .int))) B.pre
  have hown : s.vm.findClass RX8 = some m.cls := findClass_of_methodNamed B.named
  have hlocks := B.notSynchronized
  have hS : va_S (th_A G) s.heap s.heap [] := va_S.rf
  have hl := lv_entry ([.ref h0, .int x1, .int x2, .int x3, .int x4, .int x5]) (n := 8) (Nat.le_of_ble_eq_true rfl)
  rw [show entryFrame m args 8 = entryFrame m ([.ref h0, .int x1, .int x2, .int x3, .int x4, .int x5] : List Value).toArray 8 from by rw [hav], lg_entry_eq]
  generalize (lg_sl ([.ref h0, .int x1, .int x2, .int x3, .int x4, .int x5]) ++ List.replicate (8 - (lg_sl ([.ref h0, .int x1, .int x2, .int x3, .int x4, .int x5])).length) Slot.unset).toArray = ls at hl ⊢
  have hl : lv_has ls 8 [(0, .ref h0), (1, .int x1), (2, .int x2), (3, .int x3), (4, .int x4), (5, .int x5)] := hl
  generalize hR : (headSpec (tb (.code yX8_cheapest cX8_cheapest 8 (some .int))) (rm 6)).room = R
  have hR := hR.symm
  generalize hQ : MQ below (QI E D G (fun r => True)) args s 0 0 (th_A G) = QF
  have hQ := hQ.symm
  have J_90 : ∀ (H : Heap) (locs : List Loc) (ls : Array Slot) (v3916 : Int32), lv_has ls 8 [(6, .int v3916), (0, .ref h0), (1, .int x1), (2, .int x2), (3, .int x3), (4, .int x4), (5, .int x5)] → th_I (okC E) D G [] H → va_S (th_A G) s.heap H locs → W p l e R s m args below meth c H locs 0 0 QF (F0 m 90 ls []) := by
    intro H locs ls v3916 hl  hI hS
    refine lv_iload hx hb dX8_cheapest_90 (lv_at hl 6 rfl) ?_
    have k3917 := iv_lo x5
    have k3918 := iv_hi x5
    refine lv_if_lt (tgt := 115) hx hb dX8_cheapest_92 (by decide) (fun c3919 => ?_) (fun c3919 => ?_)
    · skip
      have k3920 := iv_lt (X := x5.toInt) (Y := (0)) rfl (by decide) c3919
      refine lv_iconst (v := (-1)) hx hb dX8_cheapest_115 (by decide) ?_
      have hpost : True := trivial
      rw [hQ]
      exact W.iret (v := (-1)) hx hb hr (fun t ht hW => ⟨⟨(-1), (), rfl, hpost, by rw [ht]; exact hI, hN.warm hW, va_K.moved hW.alike hK⟩, hS.F ht⟩) hS.2.2 dX8_cheapest_116
    · skip
      have k3921 := iv_nlt (X := x5.toInt) (Y := (0)) rfl (by decide) c3919
      refine lv_iload hx hb dX8_cheapest_95 (lv_at hl 6 rfl) ?_
      refine lv_aload_n hx hb dX8_cheapest_97 rfl (lv_at hl 1 rfl) ?_
      obtain ⟨a3922, a3924, a3926, a3928, a3930, a3932, hO, hq3923, hq3925, hq3927, hq3929, hq3931, hq3933⟩ := op_13 hI hG0 List.not_mem_nil
      have hI := th_I.weak (a := h0) hI
      refine th_get hx hb hts inT8 hown hK hO rfl 5 (by decide) (hts _ (tb_c wd_306)) rfl rfl dX8_cheapest_98 ?_
      obtain ⟨_, hA3934⟩ := op_0 hI hq3933 (th_ne hG0 hq3933 (show (13 : Nat) ≠ 0 by decide))
      refine va_alen hx hb hK (th_one hA3934) 0 0 rfl (v := 4) rfl (show Int32.ofNat 4 = (4 : Int32) from by decide) dX8_cheapest_101 ?_
      refine lv_icmp_ge (tgt := 115) hx hb dX8_cheapest_102 (by decide) (fun c3935 => ?_) (fun c3935 => ?_)
      · skip
        have k3936 := iv_le (X := (4)) (Y := x5.toInt) (by decide) rfl c3935
        refine lv_iconst (v := (-1)) hx hb dX8_cheapest_115 (by decide) ?_
        have hI := th_I.close hI hG0 hO (ok_13 hq3923 hq3925 hq3927 hq3929 hq3931 hq3933)
        have hpost : True := trivial
        rw [hQ]
        exact W.iret (v := (-1)) hx hb hr (fun t ht hW => ⟨⟨(-1), (), rfl, hpost, by rw [ht]; exact hI, hN.warm hW, va_K.moved hW.alike hK⟩, hS.F ht⟩) hS.2.2 dX8_cheapest_116
      · skip
        have k3937 := iv_nle (X := (4)) (Y := x5.toInt) (by decide) rfl c3935
        refine lv_aload_n hx hb dX8_cheapest_105 rfl (lv_at hl 1 rfl) ?_
        refine th_get hx hb hts inT8 hown hK hO rfl 5 (by decide) (hts _ (tb_c wd_306)) rfl rfl dX8_cheapest_106 ?_
        refine lv_iload hx hb dX8_cheapest_109 (lv_at hl 6 rfl) ?_
        obtain ⟨_, hA3938⟩ := op_0 hI hq3933 (th_ne hG0 hq3933 (show (13 : Nat) ≠ 0 by decide))
        refine th_iald hx hb hK hA3938 0 rfl (iv_in (X := x5.toInt) rfl (by omega) (by omega)) dX8_cheapest_111 (fun v3939 _ => ?_)
        refine lv_goto (tgt := 116) hx hb dX8_cheapest_112 (by decide) ?_
        have hI := th_I.close hI hG0 hO (ok_13 hq3923 hq3925 hq3927 hq3929 hq3931 hq3933)
        have hpost : True := trivial
        rw [hQ]
        exact W.iret (v := v3939) hx hb hr (fun t ht hW => ⟨⟨v3939, (), rfl, hpost, by rw [ht]; exact hI, hN.warm hW, va_K.moved hW.alike hK⟩, hS.F ht⟩) hS.2.2 dX8_cheapest_116
  have J_19 : ∀ (nn : Nat) (H : Heap) (locs : List Loc) (ls : Array Slot) (v3940 : Int32), (Int.toNat (v3940.toInt - (-1)) = nn) → lv_has ls 8 [(6, .int v3940), (0, .ref h0), (1, .int x1), (2, .int x2), (3, .int x3), (4, .int x4), (5, .int x5)] → th_I (okC E) D G [] H → va_S (th_A G) s.heap H locs → W p l e R s m args below meth c H locs 0 0 QF (F0 m 19 ls []) := by
    intro nn
    induction nn using Nat.strongRecOn with
    | ind nn ih_19 =>
      intro H locs ls v3940 hm hl  hI hS
      have J_84 : ∀ (H : Heap) (locs : List Loc) (ls : Array Slot) (v3941 : Int32), lv_has ls 8 [(7, .int v3941), (6, .int v3940), (0, .ref h0), (1, .int x1), (2, .int x2), (3, .int x3), (4, .int x4), (5, .int x5)] → ((-1 : Int) ≤ v3941.toInt ∧ v3941.toInt ≤ 23) → ((0 : Int) ≤ v3940.toInt) → th_I (okC E) D G [] H → va_S (th_A G) s.heap H locs → W p l e R s m args below meth c H locs 0 0 QF (F0 m 84 ls []) := by
        intro H locs ls v3941 hl k3943 k3944 hI hS
        obtain ⟨v3945, e3946⟩ : ∃ y : Int32, y = v3940 + (-1) := ⟨_, rfl⟩
        have k3947 := iv_lo v3940
        have k3948 := iv_hi v3940
        have tv3945 : v3945.toInt = v3940.toInt + (-1) := iv_add rfl (by decide) e3946 (by omega) (by omega)
        refine lv_iinc (v := v3945) (lv' := [(6, .int v3945), (7, .int v3941), (0, .ref h0), (1, .int x1), (2, .int x2), (3, .int x3), (4, .int x4), (5, .int x5)]) hx hb dX8_cheapest_84 hl (k := 1) rfl (by rw [e3946]; rfl) (by decide) rfl (fun ls hl => ?_)
        refine lv_goto (tgt := 19) hx hb dX8_cheapest_87 (by decide) ?_
        exact ih_19 _ (by omega) H locs ls v3945 rfl (lv_sub hl [0, 2, 3, 4, 5, 6, 7] rfl)  hI hS
      have J_47 : ∀ (nn : Nat) (H : Heap) (locs : List Loc) (ls : Array Slot) (v3949 : Int32), (Int.toNat (v3949.toInt - (-1)) = nn) → lv_has ls 8 [(7, .int v3949), (6, .int v3940), (0, .ref h0), (1, .int x1), (2, .int x2), (3, .int x3), (4, .int x4), (5, .int x5)] → ((-1 : Int) ≤ v3949.toInt ∧ v3949.toInt ≤ 23) → ((0 : Int) ≤ v3940.toInt) → th_I (okC E) D G [] H → va_S (th_A G) s.heap H locs → W p l e R s m args below meth c H locs 0 0 QF (F0 m 47 ls []) := by
        intro nn
        induction nn using Nat.strongRecOn with
        | ind nn ih_47 =>
          intro H locs ls v3949 hm hl k3951 k3952 hI hS
          have J_78 : ∀ (H : Heap) (locs : List Loc) (ls : Array Slot) , lv_has ls 8 [(7, .int v3949), (6, .int v3940), (0, .ref h0), (1, .int x1), (2, .int x2), (3, .int x3), (4, .int x4), (5, .int x5)] → ((0 : Int) ≤ v3949.toInt ∧ v3949.toInt ≤ 23) → ((0 : Int) ≤ v3940.toInt ∧ v3940.toInt ≤ 95) → th_I (okC E) D G [] H → va_S (th_A G) s.heap H locs → W p l e R s m args below meth c H locs 0 0 QF (F0 m 78 ls []) := by
            intro H locs ls  hl k3955 k3956 hI hS
            obtain ⟨v3957, e3958⟩ : ∃ y : Int32, y = v3949 + (-1) := ⟨_, rfl⟩
            have tv3957 : v3957.toInt = v3949.toInt + (-1) := iv_add rfl (by decide) e3958 (by omega) (by omega)
            refine lv_iinc (v := v3957) (lv' := [(7, .int v3957), (6, .int v3940), (0, .ref h0), (1, .int x1), (2, .int x2), (3, .int x3), (4, .int x4), (5, .int x5)]) hx hb dX8_cheapest_78 hl (k := 0) rfl (by rw [e3958]; rfl) (by decide) rfl (fun ls hl => ?_)
            refine lv_goto (tgt := 47) hx hb dX8_cheapest_81 (by decide) ?_
            exact ih_47 _ (by omega) H locs ls v3957 rfl (lv_sub hl [0, 1, 2, 3, 4, 5, 6, 7] rfl) ⟨by omega, by omega⟩ (by omega) hI hS
          refine lv_iload hx hb dX8_cheapest_47 (lv_at hl 0 rfl) ?_
          refine lv_if_lt (tgt := 84) hx hb dX8_cheapest_49 (by decide) (fun c3959 => ?_) (fun c3959 => ?_)
          · skip
            have k3960 := iv_lt (X := v3949.toInt) (Y := (0)) rfl (by decide) c3959
            exact J_84 H locs ls v3949 (lv_sub hl [0, 1, 2, 3, 4, 5, 6, 7] rfl) ⟨by omega, by omega⟩ (by omega) hI hS
          · skip
            have k3961 := iv_nlt (X := v3949.toInt) (Y := (0)) rfl (by decide) c3959
            refine lv_iload hx hb dX8_cheapest_52 (lv_at hl 1 rfl) ?_
            refine lv_bipush (v := 96) hx hb dX8_cheapest_54 (by decide) ?_
            have k3962 := iv_lo v3940
            have k3963 := iv_hi v3940
            refine lv_icmp_ge (tgt := 84) hx hb dX8_cheapest_56 (by decide) (fun c3964 => ?_) (fun c3964 => ?_)
            · skip
              have k3965 := iv_le (X := (96)) (Y := v3940.toInt) (by decide) rfl c3964
              exact J_84 H locs ls v3949 (lv_sub hl [0, 1, 2, 3, 4, 5, 6, 7] rfl) ⟨by omega, by omega⟩ (by omega) hI hS
            · skip
              have k3966 := iv_nle (X := (96)) (Y := v3940.toInt) (by decide) rfl c3964
              refine lv_aload_n hx hb dX8_cheapest_59 rfl (lv_at hl 2 rfl) ?_
              obtain ⟨a3967, a3969, a3971, a3973, a3975, a3977, hO, hq3968, hq3970, hq3972, hq3974, hq3976, hq3978⟩ := op_13 hI hG0 List.not_mem_nil
              have hI := th_I.weak (a := h0) hI
              refine th_get hx hb hts inT8 hown hK hO rfl 1 (by decide) (hts _ (tb_c wd_302)) rfl rfl dX8_cheapest_60 ?_
              refine lv_iload hx hb dX8_cheapest_63 (lv_at hl 0 rfl) ?_
              obtain ⟨_, hA3979⟩ := op_0 hI hq3970 (th_ne hG0 hq3970 (show (13 : Nat) ≠ 0 by decide))
              refine th_iald hx hb hK hA3979 0 rfl (iv_in (X := v3949.toInt) rfl (by omega) (by omega)) dX8_cheapest_65 (fun v3980 _ => ?_)
              refine lv_iconst (v := (-1)) hx hb dX8_cheapest_66 (by decide) ?_
              have k3981 := iv_lo v3980
              have k3982 := iv_hi v3980
              refine lv_icmp_eq (tgt := 78) hx hb dX8_cheapest_67 (by decide) (fun c3983 => ?_) (fun c3983 => ?_)
              · skip
                have k3984 := iv_eq (X := v3980.toInt) (Y := (-1)) rfl (by decide) c3983
                have hI := th_I.close hI hG0 hO (ok_13 hq3968 hq3970 hq3972 hq3974 hq3976 hq3978)
                exact J_78 H locs ls  (lv_sub hl [0, 1, 2, 3, 4, 5, 6, 7] rfl) ⟨by omega, by omega⟩ ⟨by omega, by omega⟩ hI hS
              · skip
                have k3985 := iv_ne (X := v3980.toInt) (Y := (-1)) rfl (by decide) c3983
                refine lv_aload_n hx hb dX8_cheapest_70 rfl (lv_at hl 2 rfl) ?_
                refine lv_iload hx hb dX8_cheapest_71 (lv_at hl 0 rfl) ?_
                refine lv_iload hx hb dX8_cheapest_73 (lv_at hl 1 rfl) ?_
                have hI := th_I.close hI hG0 hO (ok_13 hq3968 hq3970 hq3972 hq3974 hq3976 hq3978)
                refine th_cVv (As := [.int v3949, .int v3940]) (rest := []) (n := 2) (d := 5) ⟨hx, hb, hml, hown, hts⟩ (c_X8_weigh l E D G h0 hG0 v3949 v3940 ⟨by omega, by omega⟩) wd_970 wd_972 wp_27 wd_11 wd_973 (by decide +kernel) ⟨by rw [hR]; exact Nat.le_of_ble_eq_true rfl, by rw [hR]; exact Nat.le_of_ble_eq_true rfl⟩ hI hN hK hS (rc_13 hI hG0 List.not_mem_nil) rfl rfl hl.1 rfl (Nat.le_of_ble_eq_true rfl) dX8_cheapest_75 ⟨Nat.zero_le _, Nat.zero_le _⟩ (fun H locs hI hS => ?_)
                exact J_78 H locs ls  (lv_sub hl [0, 1, 2, 3, 4, 5, 6, 7] rfl) ⟨by omega, by omega⟩ ⟨by omega, by omega⟩ hI hS
      refine lv_iload hx hb dX8_cheapest_19 (lv_at hl 0 rfl) ?_
      refine lv_iload hx hb dX8_cheapest_21 (lv_at hl 5 rfl) ?_
      have k3987 := iv_lo v3940
      have k3988 := iv_hi v3940
      have k3989 := iv_lo x4
      have k3990 := iv_hi x4
      refine lv_icmp_lt (tgt := 90) hx hb dX8_cheapest_23 (by decide) (fun c3991 => ?_) (fun c3991 => ?_)
      · skip
        have k3992 := iv_lt (X := v3940.toInt) (Y := x4.toInt) rfl rfl c3991
        exact J_90 H locs ls v3940 (lv_sub hl [0, 1, 2, 3, 4, 5, 6] rfl)  hI hS
      · skip
        have k3993 := iv_nlt (X := v3940.toInt) (Y := x4.toInt) rfl rfl c3991
        refine lv_iload hx hb dX8_cheapest_26 (lv_at hl 0 rfl) ?_
        refine lv_if_lt (tgt := 90) hx hb dX8_cheapest_28 (by decide) (fun c3994 => ?_) (fun c3994 => ?_)
        · skip
          have k3995 := iv_lt (X := v3940.toInt) (Y := (0)) rfl (by decide) c3994
          exact J_90 H locs ls v3940 (lv_sub hl [0, 1, 2, 3, 4, 5, 6] rfl)  hI hS
        · skip
          have k3996 := iv_nlt (X := v3940.toInt) (Y := (0)) rfl (by decide) c3994
          refine lv_aload_n hx hb dX8_cheapest_31 rfl (lv_at hl 1 rfl) ?_
          refine lv_aload_n hx hb dX8_cheapest_32 rfl (lv_at hl 1 rfl) ?_
          obtain ⟨a3997, a3999, a4001, a4003, a4005, a4007, hO, hq3998, hq4000, hq4002, hq4004, hq4006, hq4008⟩ := op_13 hI hG0 List.not_mem_nil
          have hI := th_I.weak (a := h0) hI
          refine th_get hx hb hts inT8 hown hK hO rfl 1 (by decide) (hts _ (tb_c wd_302)) rfl rfl dX8_cheapest_33 ?_
          refine lv_iload_n hx hb dX8_cheapest_36 rfl (lv_at hl 2 rfl) ?_
          refine lv_iload hx hb dX8_cheapest_37 (lv_at hl 0 rfl) ?_
          refine lv_iload_n hx hb dX8_cheapest_39 rfl (lv_at hl 3 rfl) ?_
          have hI := th_I.close hI hG0 hO (ok_13 hq3998 hq4000 hq4002 hq4004 hq4006 hq4008)
          refine th_cVv (As := [.ref a3999, .int x1, .int v3940, .int x2]) (rest := []) (n := 4) (d := 5) ⟨hx, hb, hml, hown, hts⟩ (c_X8_goBack l E D G h0 hG0 a3999 hq4000 x1 v3940 x2) wd_964 wd_966 wp_26 wd_11 wd_967 (by decide +kernel) ⟨by rw [hR]; exact Nat.le_of_ble_eq_true rfl, by rw [hR]; exact Nat.le_of_ble_eq_true rfl⟩ hI hN hK hS (rc_13 hI hG0 List.not_mem_nil) rfl rfl hl.1 rfl (Nat.le_of_ble_eq_true rfl) dX8_cheapest_40 ⟨Nat.zero_le _, Nat.zero_le _⟩ (fun H locs hI hS => ?_)
          refine lv_bipush (v := 23) hx hb dX8_cheapest_43 (by decide) ?_
          refine lv_istore (lv' := [(7, .int 23), (6, .int v3940), (0, .ref h0), (1, .int x1), (2, .int x2), (3, .int x3), (4, .int x4), (5, .int x5)]) hx hb dX8_cheapest_45 hl (by decide) rfl (fun ls hl => ?_)
          have zl : (23 : Int32).toInt = 23 := by decide
          exact J_47 _ H locs ls 23 rfl (lv_sub hl [0, 1, 2, 3, 4, 5, 6, 7] rfl) ⟨by decide, by decide⟩ (by omega) hI hS
  refine lv_aload_n hx hb dX8_cheapest_0 rfl (lv_at hl 0 rfl) ?_
  obtain ⟨a4010, a4012, a4014, a4016, a4018, a4020, hO, hq4011, hq4013, hq4015, hq4017, hq4019, hq4021⟩ := op_13 hI hG0 List.not_mem_nil
  have hI := th_I.weak (a := h0) hI
  refine th_get hx hb hts inT8 hown hK hO rfl 1 (by decide) (hts _ (tb_c wd_302)) rfl rfl dX8_cheapest_1 ?_
  refine lv_iconst (v := (-1)) hx hb dX8_cheapest_4 (by decide) ?_
  have hI := th_I.close hI hG0 hO (ok_13 hq4011 hq4013 hq4015 hq4017 hq4019 hq4021)
  refine th_cSv (As := [.ref a4012, .int (-1)]) (rest := []) (n := 2) (d := 0) ⟨hx, hb, hml, hown, hts⟩ (c_J7_fill_53178 l E D G a4012 (25) hq4013 (by omega) (-1)) wd_963 wd_541 wd_15 wd_542 (by decide +kernel) ⟨by rw [hR]; exact Nat.le_of_ble_eq_true rfl, by rw [hR]; exact Nat.le_of_ble_eq_true rfl⟩ hI hN hK hS rfl hl.1 rfl (Nat.le_of_ble_eq_true rfl) dX8_cheapest_5 ⟨Nat.zero_le _, Nat.zero_le _⟩ (fun H locs hI hS => ?_)
  refine lv_aload_n hx hb dX8_cheapest_8 rfl (lv_at hl 0 rfl) ?_
  obtain ⟨a4023, a4025, a4027, a4029, a4031, a4033, hO, hq4024, hq4026, hq4028, hq4030, hq4032, hq4034⟩ := op_13 hI hG0 List.not_mem_nil
  have hI := th_I.weak (a := h0) hI
  refine th_get hx hb hts inT8 hown hK hO rfl 5 (by decide) (hts _ (tb_c wd_306)) rfl rfl dX8_cheapest_9 ?_
  refine lv_iconst (v := (-1)) hx hb dX8_cheapest_12 (by decide) ?_
  have hI := th_I.close hI hG0 hO (ok_13 hq4024 hq4026 hq4028 hq4030 hq4032 hq4034)
  refine th_cSv (As := [.ref a4033, .int (-1)]) (rest := []) (n := 2) (d := 0) ⟨hx, hb, hml, hown, hts⟩ (c_J7_fill_53178 l E D G a4033 (4) hq4034 (by omega) (-1)) wd_963 wd_541 wd_15 wd_542 (by decide +kernel) ⟨by rw [hR]; exact Nat.le_of_ble_eq_true rfl, by rw [hR]; exact Nat.le_of_ble_eq_true rfl⟩ hI hN hK hS rfl hl.1 rfl (Nat.le_of_ble_eq_true rfl) dX8_cheapest_13 ⟨Nat.zero_le _, Nat.zero_le _⟩ (fun H locs hI hS => ?_)
  refine lv_iload_n hx hb dX8_cheapest_16 rfl (lv_at hl 3 rfl) ?_
  refine lv_istore (lv' := [(6, .int x3), (0, .ref h0), (1, .int x1), (2, .int x2), (3, .int x3), (4, .int x4), (5, .int x5)]) hx hb dX8_cheapest_17 hl (by decide) rfl (fun ls hl => ?_)
  exact J_19 _ H locs ls x3 rfl (lv_sub hl [0, 1, 2, 3, 4, 5, 6] rfl)  hI hS
theorem dX8_reply_0g : (decode cX8_reply 0 = .ok (.iload_n 2, 1)) ∧ (decode cX8_reply 1 = .ok (.ifCond .lt 71, 3)) ∧ (decode cX8_reply 4 = .ok (.iload_n 2, 1)) ∧ (decode cX8_reply 5 = .ok (.bipush 96, 2)) ∧ (decode cX8_reply 7 = .ok (.if_icmp .ge 65, 3)) ∧ (decode cX8_reply 10 = .ok (.aload_n 0, 1)) ∧ (decode cX8_reply 11 = .ok (.getfield 21, 3)) ∧ (decode cX8_reply 14 = .ok (.iload_n 2, 1)) ∧ (decode cX8_reply 15 = .ok (.iconst 1, 1)) ∧ (decode cX8_reply 16 = .ok (.iadd, 1)) := by decide +kernel
theorem dX8_reply_0 : decode cX8_reply 0 = .ok (.iload_n 2, 1) := dX8_reply_0g.1
theorem dX8_reply_1 : decode cX8_reply 1 = .ok (.ifCond .lt 71, 3) := dX8_reply_0g.2.1
theorem dX8_reply_4 : decode cX8_reply 4 = .ok (.iload_n 2, 1) := dX8_reply_0g.2.2.1
theorem dX8_reply_5 : decode cX8_reply 5 = .ok (.bipush 96, 2) := dX8_reply_0g.2.2.2.1
theorem dX8_reply_7 : decode cX8_reply 7 = .ok (.if_icmp .ge 65, 3) := dX8_reply_0g.2.2.2.2.1
theorem dX8_reply_10 : decode cX8_reply 10 = .ok (.aload_n 0, 1) := dX8_reply_0g.2.2.2.2.2.1
theorem dX8_reply_11 : decode cX8_reply 11 = .ok (.getfield 21, 3) := dX8_reply_0g.2.2.2.2.2.2.1
theorem dX8_reply_14 : decode cX8_reply 14 = .ok (.iload_n 2, 1) := dX8_reply_0g.2.2.2.2.2.2.2.1
theorem dX8_reply_15 : decode cX8_reply 15 = .ok (.iconst 1, 1) := dX8_reply_0g.2.2.2.2.2.2.2.2.1
theorem dX8_reply_16 : decode cX8_reply 16 = .ok (.iadd, 1) := dX8_reply_0g.2.2.2.2.2.2.2.2.2
theorem dX8_reply_17g : (decode cX8_reply 17 = .ok (.iaload, 1)) ∧ (decode cX8_reply 18 = .ok (.istore_n 3, 1)) ∧ (decode cX8_reply 19 = .ok (.aload_n 0, 1)) ∧ (decode cX8_reply 20 = .ok (.getfield 27, 3)) ∧ (decode cX8_reply 23 = .ok (.iload_n 1, 1)) ∧ (decode cX8_reply 24 = .ok (.iload_n 2, 1)) ∧ (decode cX8_reply 25 = .ok (.invokevirtual 54, 3)) ∧ (decode cX8_reply 28 = .ok (.ifCond .eq 7, 3)) ∧ (decode cX8_reply 31 = .ok (.iconst (-1), 1)) ∧ (decode cX8_reply 32 = .ok (.goto 9, 3)) := by decide +kernel
theorem dX8_reply_17 : decode cX8_reply 17 = .ok (.iaload, 1) := dX8_reply_17g.1
theorem dX8_reply_18 : decode cX8_reply 18 = .ok (.istore_n 3, 1) := dX8_reply_17g.2.1
theorem dX8_reply_19 : decode cX8_reply 19 = .ok (.aload_n 0, 1) := dX8_reply_17g.2.2.1
theorem dX8_reply_20 : decode cX8_reply 20 = .ok (.getfield 27, 3) := dX8_reply_17g.2.2.2.1
theorem dX8_reply_23 : decode cX8_reply 23 = .ok (.iload_n 1, 1) := dX8_reply_17g.2.2.2.2.1
theorem dX8_reply_24 : decode cX8_reply 24 = .ok (.iload_n 2, 1) := dX8_reply_17g.2.2.2.2.2.1
theorem dX8_reply_25 : decode cX8_reply 25 = .ok (.invokevirtual 54, 3) := dX8_reply_17g.2.2.2.2.2.2.1
theorem dX8_reply_28 : decode cX8_reply 28 = .ok (.ifCond .eq 7, 3) := dX8_reply_17g.2.2.2.2.2.2.2.1
theorem dX8_reply_31 : decode cX8_reply 31 = .ok (.iconst (-1), 1) := dX8_reply_17g.2.2.2.2.2.2.2.2.1
theorem dX8_reply_32 : decode cX8_reply 32 = .ok (.goto 9, 3) := dX8_reply_17g.2.2.2.2.2.2.2.2.2
theorem dX8_reply_35g : (decode cX8_reply 35 = .ok (.aload_n 0, 1)) ∧ (decode cX8_reply 36 = .ok (.getfield 15, 3)) ∧ (decode cX8_reply 39 = .ok (.iload_n 1, 1)) ∧ (decode cX8_reply 40 = .ok (.iaload, 1)) ∧ (decode cX8_reply 41 = .ok (.istore 4, 2)) ∧ (decode cX8_reply 43 = .ok (.aload_n 0, 1)) ∧ (decode cX8_reply 44 = .ok (.getfield 21, 3)) ∧ (decode cX8_reply 47 = .ok (.iload_n 2, 1)) ∧ (decode cX8_reply 48 = .ok (.iload 4, 2)) ∧ (decode cX8_reply 50 = .ok (.iconst (-1), 1)) := by decide +kernel
theorem dX8_reply_35 : decode cX8_reply 35 = .ok (.aload_n 0, 1) := dX8_reply_35g.1
theorem dX8_reply_36 : decode cX8_reply 36 = .ok (.getfield 15, 3) := dX8_reply_35g.2.1
theorem dX8_reply_39 : decode cX8_reply 39 = .ok (.iload_n 1, 1) := dX8_reply_35g.2.2.1
theorem dX8_reply_40 : decode cX8_reply 40 = .ok (.iaload, 1) := dX8_reply_35g.2.2.2.1
theorem dX8_reply_41 : decode cX8_reply 41 = .ok (.istore 4, 2) := dX8_reply_35g.2.2.2.2.1
theorem dX8_reply_43 : decode cX8_reply 43 = .ok (.aload_n 0, 1) := dX8_reply_35g.2.2.2.2.2.1
theorem dX8_reply_44 : decode cX8_reply 44 = .ok (.getfield 21, 3) := dX8_reply_35g.2.2.2.2.2.2.1
theorem dX8_reply_47 : decode cX8_reply 47 = .ok (.iload_n 2, 1) := dX8_reply_35g.2.2.2.2.2.2.2.1
theorem dX8_reply_48 : decode cX8_reply 48 = .ok (.iload 4, 2) := dX8_reply_35g.2.2.2.2.2.2.2.2.1
theorem dX8_reply_50 : decode cX8_reply 50 = .ok (.iconst (-1), 1) := dX8_reply_35g.2.2.2.2.2.2.2.2.2
theorem dX8_reply_51g : (decode cX8_reply 51 = .ok (.if_icmp .eq 14, 3)) ∧ (decode cX8_reply 54 = .ok (.iload_n 3, 1)) ∧ (decode cX8_reply 55 = .ok (.iconst (-1), 1)) ∧ (decode cX8_reply 56 = .ok (.if_icmp .eq 13, 3)) ∧ (decode cX8_reply 59 = .ok (.iload_n 3, 1)) ∧ (decode cX8_reply 60 = .ok (.iload 4, 2)) ∧ (decode cX8_reply 62 = .ok (.if_icmp .ge 7, 3)) ∧ (decode cX8_reply 65 = .ok (.iload_n 3, 1)) ∧ (decode cX8_reply 66 = .ok (.goto 5, 3)) ∧ (decode cX8_reply 69 = .ok (.iload 4, 2)) := by decide +kernel
theorem dX8_reply_51 : decode cX8_reply 51 = .ok (.if_icmp .eq 14, 3) := dX8_reply_51g.1
theorem dX8_reply_54 : decode cX8_reply 54 = .ok (.iload_n 3, 1) := dX8_reply_51g.2.1
theorem dX8_reply_55 : decode cX8_reply 55 = .ok (.iconst (-1), 1) := dX8_reply_51g.2.2.1
theorem dX8_reply_56 : decode cX8_reply 56 = .ok (.if_icmp .eq 13, 3) := dX8_reply_51g.2.2.2.1
theorem dX8_reply_59 : decode cX8_reply 59 = .ok (.iload_n 3, 1) := dX8_reply_51g.2.2.2.2.1
theorem dX8_reply_60 : decode cX8_reply 60 = .ok (.iload 4, 2) := dX8_reply_51g.2.2.2.2.2.1
theorem dX8_reply_62 : decode cX8_reply 62 = .ok (.if_icmp .ge 7, 3) := dX8_reply_51g.2.2.2.2.2.2.1
theorem dX8_reply_65 : decode cX8_reply 65 = .ok (.iload_n 3, 1) := dX8_reply_51g.2.2.2.2.2.2.2.1
theorem dX8_reply_66 : decode cX8_reply 66 = .ok (.goto 5, 3) := dX8_reply_51g.2.2.2.2.2.2.2.2.1
theorem dX8_reply_69 : decode cX8_reply 69 = .ok (.iload 4, 2) := dX8_reply_51g.2.2.2.2.2.2.2.2.2
theorem dX8_reply_71g : (decode cX8_reply 71 = .ok (.iastore, 1)) ∧ (decode cX8_reply 72 = .ok (.return_, 1)) := by decide +kernel
theorem dX8_reply_71 : decode cX8_reply 71 = .ok (.iastore, 1) := dX8_reply_71g.1
theorem dX8_reply_72 : decode cX8_reply 72 = .ok (.return_, 1) := dX8_reply_71g.2
set_option maxHeartbeats 4000000 in
set_option maxRecDepth 100000 in
theorem c_X8_reply (l : Launch) (E : Nat → Nat) (D : va_G) (G : th_G) (h0 : Nat) (hG0 : G h0 = some (13, 0)) (x1 x2 : Int32) (hx1 : (0 : Int) ≤ x1.toInt ∧ x1.toInt ≤ 24) : Met l yX8_reply (tb (.code yX8_reply cX8_reply 5 none)) (rm 6) (va_Pc [.ref h0, .int x1, .int x2] (th_P E D G)) (QV E D G) 0 0 (th_A G) := by
  refine Met.ofW (cc := cX8_reply) (maxL := 5) (ret := none) (by decide) rfl ?_
  intro p e s m args below meth c s₁ B hml hv
  obtain ⟨hav, hI, hN, hK⟩ := hv
  have hx := B.exec
  have hb := B.bytes
  have hr := B.returns
  have hts := atoms_spec (ws := tb (.code yX8_reply cX8_reply 5 none)) B.pre
  have hown : s.vm.findClass RX8 = some m.cls := findClass_of_methodNamed B.named
  have hlocks := B.notSynchronized
  have hS : va_S (th_A G) s.heap s.heap [] := va_S.rf
  have hl := lv_entry ([.ref h0, .int x1, .int x2]) (n := 5) (Nat.le_of_ble_eq_true rfl)
  rw [show entryFrame m args 5 = entryFrame m ([.ref h0, .int x1, .int x2] : List Value).toArray 5 from by rw [hav], lg_entry_eq]
  generalize (lg_sl ([.ref h0, .int x1, .int x2]) ++ List.replicate (5 - (lg_sl ([.ref h0, .int x1, .int x2])).length) Slot.unset).toArray = ls at hl ⊢
  have hl : lv_has ls 5 [(0, .ref h0), (1, .int x1), (2, .int x2)] := hl
  generalize hR : (headSpec (tb (.code yX8_reply cX8_reply 5 none)) (rm 6)).room = R
  have hR := hR.symm
  generalize hQ : MQ below (QV E D G) args s 0 0 (th_A G) = QF
  have hQ := hQ.symm
  have J_41 : ∀ (H : Heap) (locs : List Loc) (ls : Array Slot) (v562 : Int32) (v563 : Int32), lv_has ls 5 [(3, .int v562), (0, .ref h0), (1, .int x1), (2, .int x2)] → ((0 : Int) ≤ x1.toInt ∧ x1.toInt ≤ 24) → ((0 : Int) ≤ x2.toInt ∧ x2.toInt ≤ 95) → th_I (okC E) D G [] H → va_S (th_A G) s.heap H locs → W p l e R s m args below meth c H locs 0 0 QF (F0 m 41 ls [.int v563]) := by
    intro H locs ls v562 v563 hl k564 k565 hI hS
    refine lv_istore (lv' := [(4, .int v563), (3, .int v562), (0, .ref h0), (1, .int x1), (2, .int x2)]) hx hb dX8_reply_41 hl (by decide) rfl (fun ls hl => ?_)
    refine lv_aload_n hx hb dX8_reply_43 rfl (lv_at hl 2 rfl) ?_
    obtain ⟨a566, a568, a570, a572, a574, a576, hO, hq567, hq569, hq571, hq573, hq575, hq577⟩ := op_13 hI hG0 List.not_mem_nil
    have hI := th_I.weak (a := h0) hI
    refine th_get hx hb hts inT8 hown hK hO rfl 4 (by decide) (hts _ (tb_c wd_305)) rfl rfl dX8_reply_44 ?_
    refine lv_iload_n hx hb dX8_reply_47 rfl (lv_at hl 4 rfl) ?_
    refine lv_iload hx hb dX8_reply_48 (lv_at hl 0 rfl) ?_
    refine lv_iconst (v := (-1)) hx hb dX8_reply_50 (by decide) ?_
    have k578 := iv_lo v563
    have k579 := iv_hi v563
    refine lv_icmp_eq (tgt := 65) hx hb dX8_reply_51 (by decide) (fun c580 => ?_) (fun c580 => ?_)
    · skip
      have k581 := iv_eq (X := v563.toInt) (Y := (-1)) rfl (by decide) c580
      refine lv_iload_n hx hb dX8_reply_65 rfl (lv_at hl 1 rfl) ?_
      refine lv_goto (tgt := 71) hx hb dX8_reply_66 (by decide) ?_
      obtain ⟨_, hA582⟩ := op_0 hI hq575 (th_ne hG0 hq575 (show (13 : Nat) ≠ 0 by decide))
      refine th_iast hx hb hK hA582 0 rfl hS ⟨_, hq575⟩ (iv_in (X := x2.toInt) rfl (by omega) (by omega)) dX8_reply_71 (fun H locs hA582 oq hS => ?_)
      have hI := th_I.put hI hq575 hA582 ok_0 oq
      have hO := hO.kept (oq _ (fun z => th_ne hG0 hq575 (show (13 : Nat) ≠ 0 by decide) (List.mem_singleton.mpr z.symm)))
      have hI := th_I.close hI hG0 hO (ok_13 hq567 hq569 hq571 hq573 hq575 hq577)
      rw [hQ]
      exact W.vret hx hb hr (fun t ht hW => ⟨⟨(), rfl, trivial, by rw [ht]; exact hI, hN.warm hW, va_K.moved hW.alike hK⟩, hS.F ht⟩) hS.2.2 dX8_reply_72
    · skip
      have k583 := iv_ne (X := v563.toInt) (Y := (-1)) rfl (by decide) c580
      refine lv_iload_n hx hb dX8_reply_54 rfl (lv_at hl 1 rfl) ?_
      refine lv_iconst (v := (-1)) hx hb dX8_reply_55 (by decide) ?_
      have k584 := iv_lo v562
      have k585 := iv_hi v562
      refine lv_icmp_eq (tgt := 69) hx hb dX8_reply_56 (by decide) (fun c586 => ?_) (fun c586 => ?_)
      · skip
        have k587 := iv_eq (X := v562.toInt) (Y := (-1)) rfl (by decide) c586
        refine lv_iload hx hb dX8_reply_69 (lv_at hl 0 rfl) ?_
        obtain ⟨_, hA588⟩ := op_0 hI hq575 (th_ne hG0 hq575 (show (13 : Nat) ≠ 0 by decide))
        refine th_iast hx hb hK hA588 0 rfl hS ⟨_, hq575⟩ (iv_in (X := x2.toInt) rfl (by omega) (by omega)) dX8_reply_71 (fun H locs hA588 oq hS => ?_)
        have hI := th_I.put hI hq575 hA588 ok_0 oq
        have hO := hO.kept (oq _ (fun z => th_ne hG0 hq575 (show (13 : Nat) ≠ 0 by decide) (List.mem_singleton.mpr z.symm)))
        have hI := th_I.close hI hG0 hO (ok_13 hq567 hq569 hq571 hq573 hq575 hq577)
        rw [hQ]
        exact W.vret hx hb hr (fun t ht hW => ⟨⟨(), rfl, trivial, by rw [ht]; exact hI, hN.warm hW, va_K.moved hW.alike hK⟩, hS.F ht⟩) hS.2.2 dX8_reply_72
      · skip
        have k589 := iv_ne (X := v562.toInt) (Y := (-1)) rfl (by decide) c586
        refine lv_iload_n hx hb dX8_reply_59 rfl (lv_at hl 1 rfl) ?_
        refine lv_iload hx hb dX8_reply_60 (lv_at hl 0 rfl) ?_
        refine lv_icmp_ge (tgt := 69) hx hb dX8_reply_62 (by decide) (fun c590 => ?_) (fun c590 => ?_)
        · skip
          have k591 := iv_le (X := v563.toInt) (Y := v562.toInt) rfl rfl c590
          refine lv_iload hx hb dX8_reply_69 (lv_at hl 0 rfl) ?_
          obtain ⟨_, hA592⟩ := op_0 hI hq575 (th_ne hG0 hq575 (show (13 : Nat) ≠ 0 by decide))
          refine th_iast hx hb hK hA592 0 rfl hS ⟨_, hq575⟩ (iv_in (X := x2.toInt) rfl (by omega) (by omega)) dX8_reply_71 (fun H locs hA592 oq hS => ?_)
          have hI := th_I.put hI hq575 hA592 ok_0 oq
          have hO := hO.kept (oq _ (fun z => th_ne hG0 hq575 (show (13 : Nat) ≠ 0 by decide) (List.mem_singleton.mpr z.symm)))
          have hI := th_I.close hI hG0 hO (ok_13 hq567 hq569 hq571 hq573 hq575 hq577)
          rw [hQ]
          exact W.vret hx hb hr (fun t ht hW => ⟨⟨(), rfl, trivial, by rw [ht]; exact hI, hN.warm hW, va_K.moved hW.alike hK⟩, hS.F ht⟩) hS.2.2 dX8_reply_72
        · skip
          have k593 := iv_nle (X := v563.toInt) (Y := v562.toInt) rfl rfl c590
          refine lv_iload_n hx hb dX8_reply_65 rfl (lv_at hl 1 rfl) ?_
          refine lv_goto (tgt := 71) hx hb dX8_reply_66 (by decide) ?_
          obtain ⟨_, hA594⟩ := op_0 hI hq575 (th_ne hG0 hq575 (show (13 : Nat) ≠ 0 by decide))
          refine th_iast hx hb hK hA594 0 rfl hS ⟨_, hq575⟩ (iv_in (X := x2.toInt) rfl (by omega) (by omega)) dX8_reply_71 (fun H locs hA594 oq hS => ?_)
          have hI := th_I.put hI hq575 hA594 ok_0 oq
          have hO := hO.kept (oq _ (fun z => th_ne hG0 hq575 (show (13 : Nat) ≠ 0 by decide) (List.mem_singleton.mpr z.symm)))
          have hI := th_I.close hI hG0 hO (ok_13 hq567 hq569 hq571 hq573 hq575 hq577)
          rw [hQ]
          exact W.vret hx hb hr (fun t ht hW => ⟨⟨(), rfl, trivial, by rw [ht]; exact hI, hN.warm hW, va_K.moved hW.alike hK⟩, hS.F ht⟩) hS.2.2 dX8_reply_72
  refine lv_iload_n hx hb dX8_reply_0 rfl (lv_at hl 2 rfl) ?_
  have k595 := iv_lo x2
  have k596 := iv_hi x2
  refine lv_if_lt (tgt := 72) hx hb dX8_reply_1 (by decide) (fun c597 => ?_) (fun c597 => ?_)
  · skip
    have k598 := iv_lt (X := x2.toInt) (Y := (0)) rfl (by decide) c597
    rw [hQ]
    exact W.vret hx hb hr (fun t ht hW => ⟨⟨(), rfl, trivial, by rw [ht]; exact hI, hN.warm hW, va_K.moved hW.alike hK⟩, hS.F ht⟩) hS.2.2 dX8_reply_72
  · skip
    have k599 := iv_nlt (X := x2.toInt) (Y := (0)) rfl (by decide) c597
    refine lv_iload_n hx hb dX8_reply_4 rfl (lv_at hl 2 rfl) ?_
    refine lv_bipush (v := 96) hx hb dX8_reply_5 (by decide) ?_
    refine lv_icmp_ge (tgt := 72) hx hb dX8_reply_7 (by decide) (fun c600 => ?_) (fun c600 => ?_)
    · skip
      have k601 := iv_le (X := (96)) (Y := x2.toInt) (by decide) rfl c600
      rw [hQ]
      exact W.vret hx hb hr (fun t ht hW => ⟨⟨(), rfl, trivial, by rw [ht]; exact hI, hN.warm hW, va_K.moved hW.alike hK⟩, hS.F ht⟩) hS.2.2 dX8_reply_72
    · skip
      have k602 := iv_nle (X := (96)) (Y := x2.toInt) (by decide) rfl c600
      refine lv_aload_n hx hb dX8_reply_10 rfl (lv_at hl 0 rfl) ?_
      obtain ⟨a603, a605, a607, a609, a611, a613, hO, hq604, hq606, hq608, hq610, hq612, hq614⟩ := op_13 hI hG0 List.not_mem_nil
      have hI := th_I.weak (a := h0) hI
      refine th_get hx hb hts inT8 hown hK hO rfl 4 (by decide) (hts _ (tb_c wd_305)) rfl rfl dX8_reply_11 ?_
      refine lv_iload_n hx hb dX8_reply_14 rfl (lv_at hl 2 rfl) ?_
      refine lv_iconst (v := 1) hx hb dX8_reply_15 (by decide) ?_
      refine lv_iadd hx hb dX8_reply_16 ?_
      refine lv_topi (fun v615 e616 => ?_)
      have tv615 : v615.toInt = x2.toInt + (1) := iv_add rfl (by decide) e616 (by omega) (by omega)
      obtain ⟨_, hA617⟩ := op_0 hI hq612 (th_ne hG0 hq612 (show (13 : Nat) ≠ 0 by decide))
      refine th_iald hx hb hK hA617 0 rfl (iv_in (X := v615.toInt) rfl (by omega) (by omega)) dX8_reply_17 (fun v618 _ => ?_)
      refine lv_istore_n (lv' := [(3, .int v618), (0, .ref h0), (1, .int x1), (2, .int x2)]) hx hb dX8_reply_18 rfl hl (by decide) rfl (fun ls hl => ?_)
      refine lv_aload_n hx hb dX8_reply_19 rfl (lv_at hl 1 rfl) ?_
      refine th_get hx hb hts inT8 hown hK hO rfl 0 (by decide) (hts _ (tb_c wd_301)) rfl rfl dX8_reply_20 ?_
      refine lv_iload_n hx hb dX8_reply_23 rfl (lv_at hl 2 rfl) ?_
      refine lv_iload_n hx hb dX8_reply_24 rfl (lv_at hl 3 rfl) ?_
      have hI := th_I.close hI hG0 hO (ok_13 hq604 hq606 hq608 hq610 hq612 hq614)
      refine th_cVi (As := [.int x1, .int x2]) (rest := []) (n := 2) (d := 5) ⟨hx, hb, hml, hown, hts⟩ (c_X7_isBarred l E D G a603 hq604 x1 x2) wd_1092 wd_624 wd_625 wd_6 wd_626 (by decide +kernel) ⟨by rw [hR]; exact Nat.le_of_ble_eq_true rfl, by rw [hR]; exact Nat.le_of_ble_eq_true rfl⟩ hI hN hK hS (rc_9 hI hq604 List.not_mem_nil) rfl rfl hl.1 rfl (Nat.le_of_ble_eq_true rfl) dX8_reply_25 ⟨Nat.zero_le _, Nat.zero_le _⟩ (fun r619 H locs hp hI hS => ?_)
      have hp620 := hp
      refine lv_if_eq (tgt := 35) hx hb dX8_reply_28 (by decide) (fun c621 => ?_) (fun c621 => ?_)
      · skip
        have k622 := iv_eq (X := r619.toInt) (Y := (0)) rfl (by decide) c621
        refine lv_aload_n hx hb dX8_reply_35 rfl (lv_at hl 1 rfl) ?_
        obtain ⟨a623, a625, a627, a629, a631, a633, hO, hq624, hq626, hq628, hq630, hq632, hq634⟩ := op_13 hI hG0 List.not_mem_nil
        have hI := th_I.weak (a := h0) hI
        refine th_get hx hb hts inT8 hown hK hO rfl 2 (by decide) (hts _ (tb_c wd_303)) rfl rfl dX8_reply_36 ?_
        refine lv_iload_n hx hb dX8_reply_39 rfl (lv_at hl 2 rfl) ?_
        obtain ⟨_, hA635⟩ := op_0 hI hq628 (th_ne hG0 hq628 (show (13 : Nat) ≠ 0 by decide))
        refine th_iald hx hb hK hA635 0 rfl (iv_in (X := x1.toInt) rfl (by omega) (by omega)) dX8_reply_40 (fun v636 _ => ?_)
        have hI := th_I.close hI hG0 hO (ok_13 hq624 hq626 hq628 hq630 hq632 hq634)
        exact J_41 H locs ls v618 v636 (lv_sub hl [0, 1, 2, 3] rfl) ⟨by omega, by omega⟩ ⟨by omega, by omega⟩ hI hS
      · skip
        have k637 := iv_ne (X := r619.toInt) (Y := (0)) rfl (by decide) c621
        refine lv_iconst (v := (-1)) hx hb dX8_reply_31 (by decide) ?_
        refine lv_goto (tgt := 41) hx hb dX8_reply_32 (by decide) ?_
        exact J_41 H locs ls v618 (-1) (lv_sub hl [0, 1, 2, 3] rfl) ⟨by omega, by omega⟩ ⟨by omega, by omega⟩ hI hS
theorem dX8_answer_0g : (decode cX8_answer 0 = .ok (.aload_n 0, 1)) ∧ (decode cX8_answer 1 = .ok (.getfield 9, 3)) ∧ (decode cX8_answer 4 = .ok (.iconst (-1), 1)) ∧ (decode cX8_answer 5 = .ok (.invokestatic 31, 3)) ∧ (decode cX8_answer 8 = .ok (.aload_n 0, 1)) ∧ (decode cX8_answer 9 = .ok (.getfield 15, 3)) ∧ (decode cX8_answer 12 = .ok (.iconst (-1), 1)) ∧ (decode cX8_answer 13 = .ok (.invokestatic 31, 3)) ∧ (decode cX8_answer 16 = .ok (.aload_n 0, 1)) ∧ (decode cX8_answer 17 = .ok (.getfield 21, 3)) := by decide +kernel
theorem dX8_answer_0 : decode cX8_answer 0 = .ok (.aload_n 0, 1) := dX8_answer_0g.1
theorem dX8_answer_1 : decode cX8_answer 1 = .ok (.getfield 9, 3) := dX8_answer_0g.2.1
theorem dX8_answer_4 : decode cX8_answer 4 = .ok (.iconst (-1), 1) := dX8_answer_0g.2.2.1
theorem dX8_answer_5 : decode cX8_answer 5 = .ok (.invokestatic 31, 3) := dX8_answer_0g.2.2.2.1
theorem dX8_answer_8 : decode cX8_answer 8 = .ok (.aload_n 0, 1) := dX8_answer_0g.2.2.2.2.1
theorem dX8_answer_9 : decode cX8_answer 9 = .ok (.getfield 15, 3) := dX8_answer_0g.2.2.2.2.2.1
theorem dX8_answer_12 : decode cX8_answer 12 = .ok (.iconst (-1), 1) := dX8_answer_0g.2.2.2.2.2.2.1
theorem dX8_answer_13 : decode cX8_answer 13 = .ok (.invokestatic 31, 3) := dX8_answer_0g.2.2.2.2.2.2.2.1
theorem dX8_answer_16 : decode cX8_answer 16 = .ok (.aload_n 0, 1) := dX8_answer_0g.2.2.2.2.2.2.2.2.1
theorem dX8_answer_17 : decode cX8_answer 17 = .ok (.getfield 21, 3) := dX8_answer_0g.2.2.2.2.2.2.2.2.2
theorem dX8_answer_20g : (decode cX8_answer 20 = .ok (.iconst (-1), 1)) ∧ (decode cX8_answer 21 = .ok (.invokestatic 31, 3)) ∧ (decode cX8_answer 24 = .ok (.iconst (-1), 1)) ∧ (decode cX8_answer 25 = .ok (.istore 5, 2)) ∧ (decode cX8_answer 27 = .ok (.iconst (-1), 1)) ∧ (decode cX8_answer 28 = .ok (.istore 6, 2)) ∧ (decode cX8_answer 30 = .ok (.bipush 96, 2)) ∧ (decode cX8_answer 32 = .ok (.istore 7, 2)) ∧ (decode cX8_answer 34 = .ok (.iload 7, 2)) ∧ (decode cX8_answer 36 = .ok (.iload_n 3, 1)) := by decide +kernel
theorem dX8_answer_20 : decode cX8_answer 20 = .ok (.iconst (-1), 1) := dX8_answer_20g.1
theorem dX8_answer_21 : decode cX8_answer 21 = .ok (.invokestatic 31, 3) := dX8_answer_20g.2.1
theorem dX8_answer_24 : decode cX8_answer 24 = .ok (.iconst (-1), 1) := dX8_answer_20g.2.2.1
theorem dX8_answer_25 : decode cX8_answer 25 = .ok (.istore 5, 2) := dX8_answer_20g.2.2.2.1
theorem dX8_answer_27 : decode cX8_answer 27 = .ok (.iconst (-1), 1) := dX8_answer_20g.2.2.2.2.1
theorem dX8_answer_28 : decode cX8_answer 28 = .ok (.istore 6, 2) := dX8_answer_20g.2.2.2.2.2.1
theorem dX8_answer_30 : decode cX8_answer 30 = .ok (.bipush 96, 2) := dX8_answer_20g.2.2.2.2.2.2.1
theorem dX8_answer_32 : decode cX8_answer 32 = .ok (.istore 7, 2) := dX8_answer_20g.2.2.2.2.2.2.2.1
theorem dX8_answer_34 : decode cX8_answer 34 = .ok (.iload 7, 2) := dX8_answer_20g.2.2.2.2.2.2.2.2.1
theorem dX8_answer_36 : decode cX8_answer 36 = .ok (.iload_n 3, 1) := dX8_answer_20g.2.2.2.2.2.2.2.2.2
theorem dX8_answer_37g : (decode cX8_answer 37 = .ok (.if_icmp .lt 125, 3)) ∧ (decode cX8_answer 40 = .ok (.iload 7, 2)) ∧ (decode cX8_answer 42 = .ok (.ifCond .lt 120, 3)) ∧ (decode cX8_answer 45 = .ok (.aload_n 0, 1)) ∧ (decode cX8_answer 46 = .ok (.aload_n 0, 1)) ∧ (decode cX8_answer 47 = .ok (.getfield 9, 3)) ∧ (decode cX8_answer 50 = .ok (.iload_n 2, 1)) ∧ (decode cX8_answer 51 = .ok (.iload 7, 2)) ∧ (decode cX8_answer 53 = .ok (.iconst 0, 1)) ∧ (decode cX8_answer 54 = .ok (.invokevirtual 37, 3)) := by decide +kernel
theorem dX8_answer_37 : decode cX8_answer 37 = .ok (.if_icmp .lt 125, 3) := dX8_answer_37g.1
theorem dX8_answer_40 : decode cX8_answer 40 = .ok (.iload 7, 2) := dX8_answer_37g.2.1
theorem dX8_answer_42 : decode cX8_answer 42 = .ok (.ifCond .lt 120, 3) := dX8_answer_37g.2.2.1
theorem dX8_answer_45 : decode cX8_answer 45 = .ok (.aload_n 0, 1) := dX8_answer_37g.2.2.2.1
theorem dX8_answer_46 : decode cX8_answer 46 = .ok (.aload_n 0, 1) := dX8_answer_37g.2.2.2.2.1
theorem dX8_answer_47 : decode cX8_answer 47 = .ok (.getfield 9, 3) := dX8_answer_37g.2.2.2.2.2.1
theorem dX8_answer_50 : decode cX8_answer 50 = .ok (.iload_n 2, 1) := dX8_answer_37g.2.2.2.2.2.2.1
theorem dX8_answer_51 : decode cX8_answer 51 = .ok (.iload 7, 2) := dX8_answer_37g.2.2.2.2.2.2.2.1
theorem dX8_answer_53 : decode cX8_answer 53 = .ok (.iconst 0, 1) := dX8_answer_37g.2.2.2.2.2.2.2.2.1
theorem dX8_answer_54 : decode cX8_answer 54 = .ok (.invokevirtual 37, 3) := dX8_answer_37g.2.2.2.2.2.2.2.2.2
theorem dX8_answer_57g : (decode cX8_answer 57 = .ok (.aload_n 0, 1)) ∧ (decode cX8_answer 58 = .ok (.aload_n 0, 1)) ∧ (decode cX8_answer 59 = .ok (.getfield 15, 3)) ∧ (decode cX8_answer 62 = .ok (.iload_n 1, 1)) ∧ (decode cX8_answer 63 = .ok (.iload 7, 2)) ∧ (decode cX8_answer 65 = .ok (.iconst 0, 1)) ∧ (decode cX8_answer 66 = .ok (.invokevirtual 37, 3)) ∧ (decode cX8_answer 69 = .ok (.aload_n 0, 1)) ∧ (decode cX8_answer 70 = .ok (.iload_n 2, 1)) ∧ (decode cX8_answer 71 = .ok (.iload 7, 2)) := by decide +kernel
theorem dX8_answer_57 : decode cX8_answer 57 = .ok (.aload_n 0, 1) := dX8_answer_57g.1
theorem dX8_answer_58 : decode cX8_answer 58 = .ok (.aload_n 0, 1) := dX8_answer_57g.2.1
theorem dX8_answer_59 : decode cX8_answer 59 = .ok (.getfield 15, 3) := dX8_answer_57g.2.2.1
theorem dX8_answer_62 : decode cX8_answer 62 = .ok (.iload_n 1, 1) := dX8_answer_57g.2.2.2.1
theorem dX8_answer_63 : decode cX8_answer 63 = .ok (.iload 7, 2) := dX8_answer_57g.2.2.2.2.1
theorem dX8_answer_65 : decode cX8_answer 65 = .ok (.iconst 0, 1) := dX8_answer_57g.2.2.2.2.2.1
theorem dX8_answer_66 : decode cX8_answer 66 = .ok (.invokevirtual 37, 3) := dX8_answer_57g.2.2.2.2.2.2.1
theorem dX8_answer_69 : decode cX8_answer 69 = .ok (.aload_n 0, 1) := dX8_answer_57g.2.2.2.2.2.2.2.1
theorem dX8_answer_70 : decode cX8_answer 70 = .ok (.iload_n 2, 1) := dX8_answer_57g.2.2.2.2.2.2.2.2.1
theorem dX8_answer_71 : decode cX8_answer 71 = .ok (.iload 7, 2) := dX8_answer_57g.2.2.2.2.2.2.2.2.2
theorem dX8_answer_73g : (decode cX8_answer 73 = .ok (.invokevirtual 51, 3)) ∧ (decode cX8_answer 76 = .ok (.iload 7, 2)) ∧ (decode cX8_answer 78 = .ok (.bipush 96, 2)) ∧ (decode cX8_answer 80 = .ok (.if_icmp .ge 25, 3)) ∧ (decode cX8_answer 83 = .ok (.aload_n 0, 1)) ∧ (decode cX8_answer 84 = .ok (.getfield 27, 3)) ∧ (decode cX8_answer 87 = .ok (.iload_n 1, 1)) ∧ (decode cX8_answer 88 = .ok (.iload 7, 2)) ∧ (decode cX8_answer 90 = .ok (.invokevirtual 54, 3)) ∧ (decode cX8_answer 93 = .ok (.ifCond .ne 12, 3)) := by decide +kernel
theorem dX8_answer_73 : decode cX8_answer 73 = .ok (.invokevirtual 51, 3) := dX8_answer_73g.1
theorem dX8_answer_76 : decode cX8_answer 76 = .ok (.iload 7, 2) := dX8_answer_73g.2.1
theorem dX8_answer_78 : decode cX8_answer 78 = .ok (.bipush 96, 2) := dX8_answer_73g.2.2.1
theorem dX8_answer_80 : decode cX8_answer 80 = .ok (.if_icmp .ge 25, 3) := dX8_answer_73g.2.2.2.1
theorem dX8_answer_83 : decode cX8_answer 83 = .ok (.aload_n 0, 1) := dX8_answer_73g.2.2.2.2.1
theorem dX8_answer_84 : decode cX8_answer 84 = .ok (.getfield 27, 3) := dX8_answer_73g.2.2.2.2.2.1
theorem dX8_answer_87 : decode cX8_answer 87 = .ok (.iload_n 1, 1) := dX8_answer_73g.2.2.2.2.2.2.1
theorem dX8_answer_88 : decode cX8_answer 88 = .ok (.iload 7, 2) := dX8_answer_73g.2.2.2.2.2.2.2.1
theorem dX8_answer_90 : decode cX8_answer 90 = .ok (.invokevirtual 54, 3) := dX8_answer_73g.2.2.2.2.2.2.2.2.1
theorem dX8_answer_93 : decode cX8_answer 93 = .ok (.ifCond .ne 12, 3) := dX8_answer_73g.2.2.2.2.2.2.2.2.2
theorem dX8_answer_96g : (decode cX8_answer 96 = .ok (.aload_n 0, 1)) ∧ (decode cX8_answer 97 = .ok (.getfield 9, 3)) ∧ (decode cX8_answer 100 = .ok (.iload_n 1, 1)) ∧ (decode cX8_answer 101 = .ok (.iaload, 1)) ∧ (decode cX8_answer 102 = .ok (.goto 4, 3)) ∧ (decode cX8_answer 105 = .ok (.iconst (-1), 1)) ∧ (decode cX8_answer 106 = .ok (.istore 8, 2)) ∧ (decode cX8_answer 108 = .ok (.iload 8, 2)) ∧ (decode cX8_answer 110 = .ok (.invokestatic 58, 3)) ∧ (decode cX8_answer 113 = .ok (.ifCond .eq 13, 3)) := by decide +kernel
theorem dX8_answer_96 : decode cX8_answer 96 = .ok (.aload_n 0, 1) := dX8_answer_96g.1
theorem dX8_answer_97 : decode cX8_answer 97 = .ok (.getfield 9, 3) := dX8_answer_96g.2.1
theorem dX8_answer_100 : decode cX8_answer 100 = .ok (.iload_n 1, 1) := dX8_answer_96g.2.2.1
theorem dX8_answer_101 : decode cX8_answer 101 = .ok (.iaload, 1) := dX8_answer_96g.2.2.2.1
theorem dX8_answer_102 : decode cX8_answer 102 = .ok (.goto 4, 3) := dX8_answer_96g.2.2.2.2.1
theorem dX8_answer_105 : decode cX8_answer 105 = .ok (.iconst (-1), 1) := dX8_answer_96g.2.2.2.2.2.1
theorem dX8_answer_106 : decode cX8_answer 106 = .ok (.istore 8, 2) := dX8_answer_96g.2.2.2.2.2.2.1
theorem dX8_answer_108 : decode cX8_answer 108 = .ok (.iload 8, 2) := dX8_answer_96g.2.2.2.2.2.2.2.1
theorem dX8_answer_110 : decode cX8_answer 110 = .ok (.invokestatic 58, 3) := dX8_answer_96g.2.2.2.2.2.2.2.2.1
theorem dX8_answer_113 : decode cX8_answer 113 = .ok (.ifCond .eq 13, 3) := dX8_answer_96g.2.2.2.2.2.2.2.2.2
theorem dX8_answer_116g : (decode cX8_answer 116 = .ok (.aload_n 0, 1)) ∧ (decode cX8_answer 117 = .ok (.getfield 21, 3)) ∧ (decode cX8_answer 120 = .ok (.iload 8, 2)) ∧ (decode cX8_answer 122 = .ok (.iaload, 1)) ∧ (decode cX8_answer 123 = .ok (.goto 4, 3)) ∧ (decode cX8_answer 126 = .ok (.iconst (-1), 1)) ∧ (decode cX8_answer 127 = .ok (.istore 9, 2)) ∧ (decode cX8_answer 129 = .ok (.iload 9, 2)) ∧ (decode cX8_answer 131 = .ok (.iconst (-1), 1)) ∧ (decode cX8_answer 132 = .ok (.if_icmp .eq 24, 3)) := by decide +kernel
theorem dX8_answer_116 : decode cX8_answer 116 = .ok (.aload_n 0, 1) := dX8_answer_116g.1
theorem dX8_answer_117 : decode cX8_answer 117 = .ok (.getfield 21, 3) := dX8_answer_116g.2.1
theorem dX8_answer_120 : decode cX8_answer 120 = .ok (.iload 8, 2) := dX8_answer_116g.2.2.1
theorem dX8_answer_122 : decode cX8_answer 122 = .ok (.iaload, 1) := dX8_answer_116g.2.2.2.1
theorem dX8_answer_123 : decode cX8_answer 123 = .ok (.goto 4, 3) := dX8_answer_116g.2.2.2.2.1
theorem dX8_answer_126 : decode cX8_answer 126 = .ok (.iconst (-1), 1) := dX8_answer_116g.2.2.2.2.2.1
theorem dX8_answer_127 : decode cX8_answer 127 = .ok (.istore 9, 2) := dX8_answer_116g.2.2.2.2.2.2.1
theorem dX8_answer_129 : decode cX8_answer 129 = .ok (.iload 9, 2) := dX8_answer_116g.2.2.2.2.2.2.2.1
theorem dX8_answer_131 : decode cX8_answer 131 = .ok (.iconst (-1), 1) := dX8_answer_116g.2.2.2.2.2.2.2.2.1
theorem dX8_answer_132 : decode cX8_answer 132 = .ok (.if_icmp .eq 24, 3) := dX8_answer_116g.2.2.2.2.2.2.2.2.2
theorem dX8_answer_135g : (decode cX8_answer 135 = .ok (.iload 5, 2)) ∧ (decode cX8_answer 137 = .ok (.iconst (-1), 1)) ∧ (decode cX8_answer 138 = .ok (.if_icmp .eq 10, 3)) ∧ (decode cX8_answer 141 = .ok (.iload 9, 2)) ∧ (decode cX8_answer 143 = .ok (.iload 5, 2)) ∧ (decode cX8_answer 145 = .ok (.if_icmp .ge 11, 3)) ∧ (decode cX8_answer 148 = .ok (.iload 9, 2)) ∧ (decode cX8_answer 150 = .ok (.istore 5, 2)) ∧ (decode cX8_answer 152 = .ok (.iload 7, 2)) ∧ (decode cX8_answer 154 = .ok (.istore 6, 2)) := by decide +kernel
theorem dX8_answer_135 : decode cX8_answer 135 = .ok (.iload 5, 2) := dX8_answer_135g.1
theorem dX8_answer_137 : decode cX8_answer 137 = .ok (.iconst (-1), 1) := dX8_answer_135g.2.1
theorem dX8_answer_138 : decode cX8_answer 138 = .ok (.if_icmp .eq 10, 3) := dX8_answer_135g.2.2.1
theorem dX8_answer_141 : decode cX8_answer 141 = .ok (.iload 9, 2) := dX8_answer_135g.2.2.2.1
theorem dX8_answer_143 : decode cX8_answer 143 = .ok (.iload 5, 2) := dX8_answer_135g.2.2.2.2.1
theorem dX8_answer_145 : decode cX8_answer 145 = .ok (.if_icmp .ge 11, 3) := dX8_answer_135g.2.2.2.2.2.1
theorem dX8_answer_148 : decode cX8_answer 148 = .ok (.iload 9, 2) := dX8_answer_135g.2.2.2.2.2.2.1
theorem dX8_answer_150 : decode cX8_answer 150 = .ok (.istore 5, 2) := dX8_answer_135g.2.2.2.2.2.2.2.1
theorem dX8_answer_152 : decode cX8_answer 152 = .ok (.iload 7, 2) := dX8_answer_135g.2.2.2.2.2.2.2.2.1
theorem dX8_answer_154 : decode cX8_answer 154 = .ok (.istore 6, 2) := dX8_answer_135g.2.2.2.2.2.2.2.2.2
theorem dX8_answer_156g : (decode cX8_answer 156 = .ok (.iinc 7 (-1), 3)) ∧ (decode cX8_answer 159 = .ok (.goto (-125), 3)) ∧ (decode cX8_answer 162 = .ok (.iload 4, 2)) ∧ (decode cX8_answer 164 = .ok (.ifCond .ne 8, 3)) ∧ (decode cX8_answer 167 = .ok (.iload 5, 2)) ∧ (decode cX8_answer 169 = .ok (.goto 5, 3)) ∧ (decode cX8_answer 172 = .ok (.iload 6, 2)) ∧ (decode cX8_answer 174 = .ok (.ireturn, 1)) := by decide +kernel
theorem dX8_answer_156 : decode cX8_answer 156 = .ok (.iinc 7 (-1), 3) := dX8_answer_156g.1
theorem dX8_answer_159 : decode cX8_answer 159 = .ok (.goto (-125), 3) := dX8_answer_156g.2.1
theorem dX8_answer_162 : decode cX8_answer 162 = .ok (.iload 4, 2) := dX8_answer_156g.2.2.1
theorem dX8_answer_164 : decode cX8_answer 164 = .ok (.ifCond .ne 8, 3) := dX8_answer_156g.2.2.2.1
theorem dX8_answer_167 : decode cX8_answer 167 = .ok (.iload 5, 2) := dX8_answer_156g.2.2.2.2.1
theorem dX8_answer_169 : decode cX8_answer 169 = .ok (.goto 5, 3) := dX8_answer_156g.2.2.2.2.2.1
theorem dX8_answer_172 : decode cX8_answer 172 = .ok (.iload 6, 2) := dX8_answer_156g.2.2.2.2.2.2.1
theorem dX8_answer_174 : decode cX8_answer 174 = .ok (.ireturn, 1) := dX8_answer_156g.2.2.2.2.2.2.2
set_option maxHeartbeats 4000000 in
set_option maxRecDepth 100000 in
theorem c_X8_answer (l : Launch) (E : Nat → Nat) (D : va_G) (G : th_G) (h0 : Nat) (hG0 : G h0 = some (13, 0)) (x1 x2 x3 x4 : Int32) (hx1 : (0 : Int) ≤ x1.toInt ∧ x1.toInt ≤ 23) (hx2 : (0 : Int) ≤ x2.toInt ∧ x2.toInt ≤ 23) : Met l yX8_answer (tb (.code yX8_answer cX8_answer 10 (some .int))) (rm 7) (va_Pc [.ref h0, .int x1, .int x2, .int x3, .int x4] (th_P E D G)) (QI E D G (fun r => True)) 0 0 (th_A G) := by
  refine Met.ofW (cc := cX8_answer) (maxL := 10) (ret := (some .int)) (by decide) rfl ?_
  intro p e s m args below meth c s₁ B hml hv
  obtain ⟨hav, hI, hN, hK⟩ := hv
  have hx := B.exec
  have hb := B.bytes
  have hr := B.returns
  have hts := atoms_spec (ws := tb (.code yX8_answer cX8_answer 10 (some .int))) B.pre
  have hown : s.vm.findClass RX8 = some m.cls := findClass_of_methodNamed B.named
  have hlocks := B.notSynchronized
  have hS : va_S (th_A G) s.heap s.heap [] := va_S.rf
  have hl := lv_entry ([.ref h0, .int x1, .int x2, .int x3, .int x4]) (n := 10) (Nat.le_of_ble_eq_true rfl)
  rw [show entryFrame m args 10 = entryFrame m ([.ref h0, .int x1, .int x2, .int x3, .int x4] : List Value).toArray 10 from by rw [hav], lg_entry_eq]
  generalize (lg_sl ([.ref h0, .int x1, .int x2, .int x3, .int x4]) ++ List.replicate (10 - (lg_sl ([.ref h0, .int x1, .int x2, .int x3, .int x4])).length) Slot.unset).toArray = ls at hl ⊢
  have hl : lv_has ls 10 [(0, .ref h0), (1, .int x1), (2, .int x2), (3, .int x3), (4, .int x4)] := hl
  generalize hR : (headSpec (tb (.code yX8_answer cX8_answer 10 (some .int))) (rm 7)).room = R
  have hR := hR.symm
  generalize hQ : MQ below (QI E D G (fun r => True)) args s 0 0 (th_A G) = QF
  have hQ := hQ.symm
  have J_34 : ∀ (nn : Nat) (H : Heap) (locs : List Loc) (ls : Array Slot) (v10687 : Int32) (v10688 : Int32) (v10689 : Int32), (Int.toNat (v10687.toInt - (-1)) = nn) → lv_has ls 10 [(7, .int v10687), (6, .int v10688), (5, .int v10689), (0, .ref h0), (1, .int x1), (2, .int x2), (3, .int x3), (4, .int x4)] → ((-1 : Int) ≤ v10687.toInt ∧ v10687.toInt ≤ 96) → ((-1 : Int) ≤ v10688.toInt ∧ v10688.toInt ≤ 96) → ((0 : Int) ≤ x1.toInt ∧ x1.toInt ≤ 23) → ((0 : Int) ≤ x2.toInt ∧ x2.toInt ≤ 23) → th_I (okC E) D G [] H → va_S (th_A G) s.heap H locs → W p l e R s m args below meth c H locs 0 0 QF (F0 m 34 ls []) := by
    intro nn
    induction nn using Nat.strongRecOn with
    | ind nn ih_34 =>
      intro H locs ls v10687 v10688 v10689 hm hl k10690 k10691 k10692 k10693 hI hS
      have J_148 : ∀ (H : Heap) (locs : List Loc) (ls : Array Slot) (v10694 : Int32) (v10695 : Int32), lv_has ls 10 [(9, .int v10694), (8, .int v10695), (7, .int v10687), (6, .int v10688), (5, .int v10689), (0, .ref h0), (1, .int x1), (2, .int x2), (3, .int x3), (4, .int x4)] → ((0 : Int) ≤ v10687.toInt ∧ v10687.toInt ≤ 96) → (x3.toInt ≤ 96) → th_I (okC E) D G [] H → va_S (th_A G) s.heap H locs → W p l e R s m args below meth c H locs 0 0 QF (F0 m 148 ls []) := by
        intro H locs ls v10694 v10695 hl k10699 k10700 hI hS
        refine lv_iload hx hb dX8_answer_148 (lv_at hl 0 rfl) ?_
        refine lv_istore (lv' := [(5, .int v10694), (9, .int v10694), (8, .int v10695), (7, .int v10687), (6, .int v10688), (0, .ref h0), (1, .int x1), (2, .int x2), (3, .int x3), (4, .int x4)]) hx hb dX8_answer_150 hl (by decide) rfl (fun ls hl => ?_)
        refine lv_iload hx hb dX8_answer_152 (lv_at hl 3 rfl) ?_
        refine lv_istore (lv' := [(6, .int v10687), (5, .int v10694), (9, .int v10694), (8, .int v10695), (7, .int v10687), (0, .ref h0), (1, .int x1), (2, .int x2), (3, .int x3), (4, .int x4)]) hx hb dX8_answer_154 hl (by decide) rfl (fun ls hl => ?_)
        obtain ⟨v10701, e10702⟩ : ∃ y : Int32, y = v10687 + (-1) := ⟨_, rfl⟩
        have tv10701 : v10701.toInt = v10687.toInt + (-1) := iv_add rfl (by decide) e10702 (by omega) (by omega)
        refine lv_iinc (v := v10701) (lv' := [(7, .int v10701), (6, .int v10687), (5, .int v10694), (9, .int v10694), (8, .int v10695), (0, .ref h0), (1, .int x1), (2, .int x2), (3, .int x3), (4, .int x4)]) hx hb dX8_answer_156 hl (k := 4) rfl (by rw [e10702]; rfl) (by decide) rfl (fun ls hl => ?_)
        refine lv_goto (tgt := 34) hx hb dX8_answer_159 (by decide) ?_
        exact ih_34 _ (by omega) H locs ls v10701 v10687 v10694 rfl (lv_sub hl [0, 1, 2, 5, 6, 7, 8, 9] rfl) ⟨by omega, by omega⟩ ⟨by omega, by omega⟩ ⟨by omega, by omega⟩ ⟨by omega, by omega⟩ hI hS
      have J_127 : ∀ (H : Heap) (locs : List Loc) (ls : Array Slot) (v10703 : Int32) (v10707 : Int32), lv_has ls 10 [(8, .int v10703), (7, .int v10687), (6, .int v10688), (5, .int v10689), (0, .ref h0), (1, .int x1), (2, .int x2), (3, .int x3), (4, .int x4)] → ((0 : Int) ≤ v10687.toInt ∧ v10687.toInt ≤ 96) → (x3.toInt ≤ 96) → th_I (okC E) D G [] H → va_S (th_A G) s.heap H locs → W p l e R s m args below meth c H locs 0 0 QF (F0 m 127 ls [.int v10707]) := by
        intro H locs ls v10703 v10707 hl k10708 k10709 hI hS
        refine lv_istore (lv' := [(9, .int v10707), (8, .int v10703), (7, .int v10687), (6, .int v10688), (5, .int v10689), (0, .ref h0), (1, .int x1), (2, .int x2), (3, .int x3), (4, .int x4)]) hx hb dX8_answer_127 hl (by decide) rfl (fun ls hl => ?_)
        refine lv_iload hx hb dX8_answer_129 (lv_at hl 0 rfl) ?_
        refine lv_iconst (v := (-1)) hx hb dX8_answer_131 (by decide) ?_
        have k10710 := iv_lo v10707
        have k10711 := iv_hi v10707
        refine lv_icmp_eq (tgt := 156) hx hb dX8_answer_132 (by decide) (fun c10712 => ?_) (fun c10712 => ?_)
        · skip
          have k10713 := iv_eq (X := v10707.toInt) (Y := (-1)) rfl (by decide) c10712
          obtain ⟨v10714, e10715⟩ : ∃ y : Int32, y = v10687 + (-1) := ⟨_, rfl⟩
          have tv10714 : v10714.toInt = v10687.toInt + (-1) := iv_add rfl (by decide) e10715 (by omega) (by omega)
          refine lv_iinc (v := v10714) (lv' := [(7, .int v10714), (9, .int v10707), (8, .int v10703), (6, .int v10688), (5, .int v10689), (0, .ref h0), (1, .int x1), (2, .int x2), (3, .int x3), (4, .int x4)]) hx hb dX8_answer_156 hl (k := 2) rfl (by rw [e10715]; rfl) (by decide) rfl (fun ls hl => ?_)
          refine lv_goto (tgt := 34) hx hb dX8_answer_159 (by decide) ?_
          exact ih_34 _ (by omega) H locs ls v10714 v10688 v10689 rfl (lv_sub hl [0, 3, 4, 5, 6, 7, 8, 9] rfl) ⟨by omega, by omega⟩ ⟨by omega, by omega⟩ ⟨by omega, by omega⟩ ⟨by omega, by omega⟩ hI hS
        · skip
          have k10716 := iv_ne (X := v10707.toInt) (Y := (-1)) rfl (by decide) c10712
          refine lv_iload hx hb dX8_answer_135 (lv_at hl 4 rfl) ?_
          refine lv_iconst (v := (-1)) hx hb dX8_answer_137 (by decide) ?_
          have k10717 := iv_lo v10689
          have k10718 := iv_hi v10689
          refine lv_icmp_eq (tgt := 148) hx hb dX8_answer_138 (by decide) (fun c10719 => ?_) (fun c10719 => ?_)
          · skip
            have k10720 := iv_eq (X := v10689.toInt) (Y := (-1)) rfl (by decide) c10719
            exact J_148 H locs ls v10707 v10703 (lv_sub hl [0, 1, 2, 3, 4, 5, 6, 7, 8, 9] rfl) ⟨by omega, by omega⟩ (by omega) hI hS
          · skip
            have k10721 := iv_ne (X := v10689.toInt) (Y := (-1)) rfl (by decide) c10719
            refine lv_iload hx hb dX8_answer_141 (lv_at hl 0 rfl) ?_
            refine lv_iload hx hb dX8_answer_143 (lv_at hl 4 rfl) ?_
            refine lv_icmp_ge (tgt := 156) hx hb dX8_answer_145 (by decide) (fun c10722 => ?_) (fun c10722 => ?_)
            · skip
              have k10723 := iv_le (X := v10689.toInt) (Y := v10707.toInt) rfl rfl c10722
              obtain ⟨v10724, e10725⟩ : ∃ y : Int32, y = v10687 + (-1) := ⟨_, rfl⟩
              have tv10724 : v10724.toInt = v10687.toInt + (-1) := iv_add rfl (by decide) e10725 (by omega) (by omega)
              refine lv_iinc (v := v10724) (lv' := [(7, .int v10724), (9, .int v10707), (8, .int v10703), (6, .int v10688), (5, .int v10689), (0, .ref h0), (1, .int x1), (2, .int x2), (3, .int x3), (4, .int x4)]) hx hb dX8_answer_156 hl (k := 2) rfl (by rw [e10725]; rfl) (by decide) rfl (fun ls hl => ?_)
              refine lv_goto (tgt := 34) hx hb dX8_answer_159 (by decide) ?_
              exact ih_34 _ (by omega) H locs ls v10724 v10688 v10689 rfl (lv_sub hl [0, 3, 4, 5, 6, 7, 8, 9] rfl) ⟨by omega, by omega⟩ ⟨by omega, by omega⟩ ⟨by omega, by omega⟩ ⟨by omega, by omega⟩ hI hS
            · skip
              have k10726 := iv_nle (X := v10689.toInt) (Y := v10707.toInt) rfl rfl c10722
              exact J_148 H locs ls v10707 v10703 (lv_sub hl [0, 1, 2, 3, 4, 5, 6, 7, 8, 9] rfl) ⟨by omega, by omega⟩ (by omega) hI hS
      have J_106 : ∀ (H : Heap) (locs : List Loc) (ls : Array Slot) (v10730 : Int32), lv_has ls 10 [(7, .int v10687), (6, .int v10688), (5, .int v10689), (0, .ref h0), (1, .int x1), (2, .int x2), (3, .int x3), (4, .int x4)] → ((0 : Int) ≤ v10687.toInt ∧ v10687.toInt ≤ 96) → (x3.toInt ≤ 96) → th_I (okC E) D G [] H → va_S (th_A G) s.heap H locs → W p l e R s m args below meth c H locs 0 0 QF (F0 m 106 ls [.int v10730]) := by
        intro H locs ls v10730 hl k10731 k10732 hI hS
        refine lv_istore (lv' := [(8, .int v10730), (7, .int v10687), (6, .int v10688), (5, .int v10689), (0, .ref h0), (1, .int x1), (2, .int x2), (3, .int x3), (4, .int x4)]) hx hb dX8_answer_106 hl (by decide) rfl (fun ls hl => ?_)
        refine lv_iload hx hb dX8_answer_108 (lv_at hl 0 rfl) ?_
        refine th_cSN (As := [.int v10730]) (rest := []) (n := 1) (d := 0) ⟨hx, hb, hml, hown, hts⟩ (c_X11_isMoment l H v10730) wn_1093 wd_827 wd_1 wd_828 (by decide +kernel) ⟨by rw [hR]; exact Nat.le_of_ble_eq_true rfl, by rw [hR]; exact Nat.le_of_ble_eq_true rfl⟩ hN hS rfl hl.1 rfl (Nat.le_of_ble_eq_true rfl) dX8_answer_110 ⟨Nat.zero_le _, Nat.zero_le _⟩ (fun r10733 locs hp hS => ?_)
        rcases hp with ⟨rfl, hp⟩ | ⟨rfl, hp⟩
        · skip
          try simp only [rg, not_and, Int.not_le] at hp
          have hp10734 := hp
          refine lv_if_eq (tgt := 126) hx hb dX8_answer_113 (by decide) (fun c => absurd c (by decide)) (fun _ => ?_)
          refine lv_aload_n hx hb dX8_answer_116 rfl (lv_at hl 4 rfl) ?_
          obtain ⟨a10735, a10737, a10739, a10741, a10743, a10745, hO, hq10736, hq10738, hq10740, hq10742, hq10744, hq10746⟩ := op_13 hI hG0 List.not_mem_nil
          have hI := th_I.weak (a := h0) hI
          refine th_get hx hb hts inT8 hown hK hO rfl 4 (by decide) (hts _ (tb_c wd_305)) rfl rfl dX8_answer_117 ?_
          refine lv_iload hx hb dX8_answer_120 (lv_at hl 0 rfl) ?_
          obtain ⟨_, hA10747⟩ := op_0 hI hq10744 (th_ne hG0 hq10744 (show (13 : Nat) ≠ 0 by decide))
          refine th_iald hx hb hK hA10747 0 rfl (iv_in (X := v10730.toInt) rfl (by omega) (by omega)) dX8_answer_122 (fun v10748 _ => ?_)
          refine lv_goto (tgt := 127) hx hb dX8_answer_123 (by decide) ?_
          have hI := th_I.close hI hG0 hO (ok_13 hq10736 hq10738 hq10740 hq10742 hq10744 hq10746)
          exact J_127 H locs ls v10730 v10748 (lv_sub hl [0, 1, 2, 3, 4, 5, 6, 7, 8] rfl) ⟨by omega, by omega⟩ (by omega) hI hS
        · skip
          try simp only [rg, not_and, Int.not_le] at hp
          have hp10749 := hp
          refine lv_if_eq (tgt := 126) hx hb dX8_answer_113 (by decide) (fun _ => ?_) (fun c => absurd c (by decide))
          refine lv_iconst (v := (-1)) hx hb dX8_answer_126 (by decide) ?_
          exact J_127 H locs ls v10730 (-1) (lv_sub hl [0, 1, 2, 3, 4, 5, 6, 7, 8] rfl) ⟨by omega, by omega⟩ (by omega) hI hS
      have J_105 : ∀ (H : Heap) (locs : List Loc) (ls : Array Slot) , lv_has ls 10 [(7, .int v10687), (6, .int v10688), (5, .int v10689), (0, .ref h0), (1, .int x1), (2, .int x2), (3, .int x3), (4, .int x4)] → ((0 : Int) ≤ v10687.toInt ∧ v10687.toInt ≤ 96) → (x3.toInt ≤ 96) → th_I (okC E) D G [] H → va_S (th_A G) s.heap H locs → W p l e R s m args below meth c H locs 0 0 QF (F0 m 105 ls []) := by
        intro H locs ls  hl k10753 k10754 hI hS
        refine lv_iconst (v := (-1)) hx hb dX8_answer_105 (by decide) ?_
        exact J_106 H locs ls (-1) (lv_sub hl [0, 1, 2, 3, 4, 5, 6, 7] rfl) ⟨by omega, by omega⟩ (by omega) hI hS
      refine lv_iload hx hb dX8_answer_34 (lv_at hl 0 rfl) ?_
      refine lv_iload_n hx hb dX8_answer_36 rfl (lv_at hl 6 rfl) ?_
      have k10755 := iv_lo x3
      have k10756 := iv_hi x3
      refine lv_icmp_lt (tgt := 162) hx hb dX8_answer_37 (by decide) (fun c10757 => ?_) (fun c10757 => ?_)
      · skip
        have k10758 := iv_lt (X := v10687.toInt) (Y := x3.toInt) rfl rfl c10757
        refine lv_iload hx hb dX8_answer_162 (lv_at hl 7 rfl) ?_
        have k10759 := iv_lo x4
        have k10760 := iv_hi x4
        refine lv_if_ne (tgt := 172) hx hb dX8_answer_164 (by decide) (fun c10761 => ?_) (fun c10761 => ?_)
        · skip
          have k10762 := iv_ne (X := x4.toInt) (Y := (0)) rfl (by decide) c10761
          refine lv_iload hx hb dX8_answer_172 (lv_at hl 1 rfl) ?_
          have hpost : True := trivial
          rw [hQ]
          exact W.iret (v := v10688) hx hb hr (fun t ht hW => ⟨⟨v10688, (), rfl, hpost, by rw [ht]; exact hI, hN.warm hW, va_K.moved hW.alike hK⟩, hS.F ht⟩) hS.2.2 dX8_answer_174
        · skip
          have k10763 := iv_eq (X := x4.toInt) (Y := (0)) rfl (by decide) c10761
          refine lv_iload hx hb dX8_answer_167 (lv_at hl 2 rfl) ?_
          refine lv_goto (tgt := 174) hx hb dX8_answer_169 (by decide) ?_
          have hpost : True := trivial
          rw [hQ]
          exact W.iret (v := v10689) hx hb hr (fun t ht hW => ⟨⟨v10689, (), rfl, hpost, by rw [ht]; exact hI, hN.warm hW, va_K.moved hW.alike hK⟩, hS.F ht⟩) hS.2.2 dX8_answer_174
      · skip
        have k10764 := iv_nlt (X := v10687.toInt) (Y := x3.toInt) rfl rfl c10757
        refine lv_iload hx hb dX8_answer_40 (lv_at hl 0 rfl) ?_
        refine lv_if_lt (tgt := 162) hx hb dX8_answer_42 (by decide) (fun c10765 => ?_) (fun c10765 => ?_)
        · skip
          have k10766 := iv_lt (X := v10687.toInt) (Y := (0)) rfl (by decide) c10765
          refine lv_iload hx hb dX8_answer_162 (lv_at hl 7 rfl) ?_
          have k10767 := iv_lo x4
          have k10768 := iv_hi x4
          refine lv_if_ne (tgt := 172) hx hb dX8_answer_164 (by decide) (fun c10769 => ?_) (fun c10769 => ?_)
          · skip
            have k10770 := iv_ne (X := x4.toInt) (Y := (0)) rfl (by decide) c10769
            refine lv_iload hx hb dX8_answer_172 (lv_at hl 1 rfl) ?_
            have hpost : True := trivial
            rw [hQ]
            exact W.iret (v := v10688) hx hb hr (fun t ht hW => ⟨⟨v10688, (), rfl, hpost, by rw [ht]; exact hI, hN.warm hW, va_K.moved hW.alike hK⟩, hS.F ht⟩) hS.2.2 dX8_answer_174
          · skip
            have k10771 := iv_eq (X := x4.toInt) (Y := (0)) rfl (by decide) c10769
            refine lv_iload hx hb dX8_answer_167 (lv_at hl 2 rfl) ?_
            refine lv_goto (tgt := 174) hx hb dX8_answer_169 (by decide) ?_
            have hpost : True := trivial
            rw [hQ]
            exact W.iret (v := v10689) hx hb hr (fun t ht hW => ⟨⟨v10689, (), rfl, hpost, by rw [ht]; exact hI, hN.warm hW, va_K.moved hW.alike hK⟩, hS.F ht⟩) hS.2.2 dX8_answer_174
        · skip
          have k10772 := iv_nlt (X := v10687.toInt) (Y := (0)) rfl (by decide) c10765
          refine lv_aload_n hx hb dX8_answer_45 rfl (lv_at hl 3 rfl) ?_
          refine lv_aload_n hx hb dX8_answer_46 rfl (lv_at hl 3 rfl) ?_
          obtain ⟨a10773, a10775, a10777, a10779, a10781, a10783, hO, hq10774, hq10776, hq10778, hq10780, hq10782, hq10784⟩ := op_13 hI hG0 List.not_mem_nil
          have hI := th_I.weak (a := h0) hI
          refine th_get hx hb hts inT8 hown hK hO rfl 1 (by decide) (hts _ (tb_c wd_302)) rfl rfl dX8_answer_47 ?_
          refine lv_iload_n hx hb dX8_answer_50 rfl (lv_at hl 5 rfl) ?_
          refine lv_iload hx hb dX8_answer_51 (lv_at hl 0 rfl) ?_
          refine lv_iconst (v := 0) hx hb dX8_answer_53 (by decide) ?_
          have hI := th_I.close hI hG0 hO (ok_13 hq10774 hq10776 hq10778 hq10780 hq10782 hq10784)
          refine th_cVv (As := [.ref a10775, .int x2, .int v10687, .int 0]) (rest := []) (n := 4) (d := 5) ⟨hx, hb, hml, hown, hts⟩ (c_X8_goBack l E D G h0 hG0 a10775 hq10776 x2 v10687 0) wd_964 wd_966 wp_26 wd_11 wd_967 (by decide +kernel) ⟨by rw [hR]; exact Nat.le_of_ble_eq_true rfl, by rw [hR]; exact Nat.le_of_ble_eq_true rfl⟩ hI hN hK hS (rc_13 hI hG0 List.not_mem_nil) rfl rfl hl.1 rfl (Nat.le_of_ble_eq_true rfl) dX8_answer_54 ⟨Nat.zero_le _, Nat.zero_le _⟩ (fun H locs hI hS => ?_)
          refine lv_aload_n hx hb dX8_answer_57 rfl (lv_at hl 3 rfl) ?_
          refine lv_aload_n hx hb dX8_answer_58 rfl (lv_at hl 3 rfl) ?_
          obtain ⟨a10786, a10788, a10790, a10792, a10794, a10796, hO, hq10787, hq10789, hq10791, hq10793, hq10795, hq10797⟩ := op_13 hI hG0 List.not_mem_nil
          have hI := th_I.weak (a := h0) hI
          refine th_get hx hb hts inT8 hown hK hO rfl 2 (by decide) (hts _ (tb_c wd_303)) rfl rfl dX8_answer_59 ?_
          refine lv_iload_n hx hb dX8_answer_62 rfl (lv_at hl 4 rfl) ?_
          refine lv_iload hx hb dX8_answer_63 (lv_at hl 0 rfl) ?_
          refine lv_iconst (v := 0) hx hb dX8_answer_65 (by decide) ?_
          have hI := th_I.close hI hG0 hO (ok_13 hq10787 hq10789 hq10791 hq10793 hq10795 hq10797)
          refine th_cVv (As := [.ref a10790, .int x1, .int v10687, .int 0]) (rest := []) (n := 4) (d := 5) ⟨hx, hb, hml, hown, hts⟩ (c_X8_goBack l E D G h0 hG0 a10790 hq10791 x1 v10687 0) wd_964 wd_966 wp_26 wd_11 wd_967 (by decide +kernel) ⟨by rw [hR]; exact Nat.le_of_ble_eq_true rfl, by rw [hR]; exact Nat.le_of_ble_eq_true rfl⟩ hI hN hK hS (rc_13 hI hG0 List.not_mem_nil) rfl rfl hl.1 rfl (Nat.le_of_ble_eq_true rfl) dX8_answer_66 ⟨Nat.zero_le _, Nat.zero_le _⟩ (fun H locs hI hS => ?_)
          refine lv_aload_n hx hb dX8_answer_69 rfl (lv_at hl 3 rfl) ?_
          refine lv_iload_n hx hb dX8_answer_70 rfl (lv_at hl 5 rfl) ?_
          refine lv_iload hx hb dX8_answer_71 (lv_at hl 0 rfl) ?_
          refine th_cVv (As := [.int x2, .int v10687]) (rest := []) (n := 2) (d := 6) ⟨hx, hb, hml, hown, hts⟩ (c_X8_reply l E D G h0 hG0 x2 v10687 ⟨by omega, by omega⟩) wd_1088 wd_1090 wp_36 wd_11 wd_1091 (by decide +kernel) ⟨by rw [hR]; exact Nat.le_of_ble_eq_true rfl, by rw [hR]; exact Nat.le_of_ble_eq_true rfl⟩ hI hN hK hS (rc_13 hI hG0 List.not_mem_nil) rfl rfl hl.1 rfl (Nat.le_of_ble_eq_true rfl) dX8_answer_73 ⟨Nat.zero_le _, Nat.zero_le _⟩ (fun H locs hI hS => ?_)
          refine lv_iload hx hb dX8_answer_76 (lv_at hl 0 rfl) ?_
          refine lv_bipush (v := 96) hx hb dX8_answer_78 (by decide) ?_
          refine lv_icmp_ge (tgt := 105) hx hb dX8_answer_80 (by decide) (fun c10800 => ?_) (fun c10800 => ?_)
          · skip
            have k10801 := iv_le (X := (96)) (Y := v10687.toInt) (by decide) rfl c10800
            exact J_105 H locs ls  (lv_sub hl [0, 1, 2, 3, 4, 5, 6, 7] rfl) ⟨by omega, by omega⟩ (by omega) hI hS
          · skip
            have k10802 := iv_nle (X := (96)) (Y := v10687.toInt) (by decide) rfl c10800
            refine lv_aload_n hx hb dX8_answer_83 rfl (lv_at hl 3 rfl) ?_
            obtain ⟨a10803, a10805, a10807, a10809, a10811, a10813, hO, hq10804, hq10806, hq10808, hq10810, hq10812, hq10814⟩ := op_13 hI hG0 List.not_mem_nil
            have hI := th_I.weak (a := h0) hI
            refine th_get hx hb hts inT8 hown hK hO rfl 0 (by decide) (hts _ (tb_c wd_301)) rfl rfl dX8_answer_84 ?_
            refine lv_iload_n hx hb dX8_answer_87 rfl (lv_at hl 4 rfl) ?_
            refine lv_iload hx hb dX8_answer_88 (lv_at hl 0 rfl) ?_
            have hI := th_I.close hI hG0 hO (ok_13 hq10804 hq10806 hq10808 hq10810 hq10812 hq10814)
            refine th_cVi (As := [.int x1, .int v10687]) (rest := []) (n := 2) (d := 5) ⟨hx, hb, hml, hown, hts⟩ (c_X7_isBarred l E D G a10803 hq10804 x1 v10687) wd_1092 wd_624 wd_625 wd_6 wd_626 (by decide +kernel) ⟨by rw [hR]; exact Nat.le_of_ble_eq_true rfl, by rw [hR]; exact Nat.le_of_ble_eq_true rfl⟩ hI hN hK hS (rc_9 hI hq10804 List.not_mem_nil) rfl rfl hl.1 rfl (Nat.le_of_ble_eq_true rfl) dX8_answer_90 ⟨Nat.zero_le _, Nat.zero_le _⟩ (fun r10815 H locs hp hI hS => ?_)
            have hp10816 := hp
            refine lv_if_ne (tgt := 105) hx hb dX8_answer_93 (by decide) (fun c10817 => ?_) (fun c10817 => ?_)
            · skip
              have k10818 := iv_ne (X := r10815.toInt) (Y := (0)) rfl (by decide) c10817
              exact J_105 H locs ls  (lv_sub hl [0, 1, 2, 3, 4, 5, 6, 7] rfl) ⟨by omega, by omega⟩ (by omega) hI hS
            · skip
              have k10819 := iv_eq (X := r10815.toInt) (Y := (0)) rfl (by decide) c10817
              refine lv_aload_n hx hb dX8_answer_96 rfl (lv_at hl 3 rfl) ?_
              obtain ⟨a10820, a10822, a10824, a10826, a10828, a10830, hO, hq10821, hq10823, hq10825, hq10827, hq10829, hq10831⟩ := op_13 hI hG0 List.not_mem_nil
              have hI := th_I.weak (a := h0) hI
              refine th_get hx hb hts inT8 hown hK hO rfl 1 (by decide) (hts _ (tb_c wd_302)) rfl rfl dX8_answer_97 ?_
              refine lv_iload_n hx hb dX8_answer_100 rfl (lv_at hl 4 rfl) ?_
              obtain ⟨_, hA10832⟩ := op_0 hI hq10823 (th_ne hG0 hq10823 (show (13 : Nat) ≠ 0 by decide))
              refine th_iald hx hb hK hA10832 0 rfl (iv_in (X := x1.toInt) rfl (by omega) (by omega)) dX8_answer_101 (fun v10833 _ => ?_)
              refine lv_goto (tgt := 106) hx hb dX8_answer_102 (by decide) ?_
              have hI := th_I.close hI hG0 hO (ok_13 hq10821 hq10823 hq10825 hq10827 hq10829 hq10831)
              exact J_106 H locs ls v10833 (lv_sub hl [0, 1, 2, 3, 4, 5, 6, 7] rfl) ⟨by omega, by omega⟩ (by omega) hI hS
  refine lv_aload_n hx hb dX8_answer_0 rfl (lv_at hl 0 rfl) ?_
  obtain ⟨a10834, a10836, a10838, a10840, a10842, a10844, hO, hq10835, hq10837, hq10839, hq10841, hq10843, hq10845⟩ := op_13 hI hG0 List.not_mem_nil
  have hI := th_I.weak (a := h0) hI
  refine th_get hx hb hts inT8 hown hK hO rfl 1 (by decide) (hts _ (tb_c wd_302)) rfl rfl dX8_answer_1 ?_
  refine lv_iconst (v := (-1)) hx hb dX8_answer_4 (by decide) ?_
  have hI := th_I.close hI hG0 hO (ok_13 hq10835 hq10837 hq10839 hq10841 hq10843 hq10845)
  refine th_cSv (As := [.ref a10836, .int (-1)]) (rest := []) (n := 2) (d := 0) ⟨hx, hb, hml, hown, hts⟩ (c_J7_fill_53178 l E D G a10836 (25) hq10837 (by omega) (-1)) wd_963 wd_541 wd_15 wd_542 (by decide +kernel) ⟨by rw [hR]; exact Nat.le_of_ble_eq_true rfl, by rw [hR]; exact Nat.le_of_ble_eq_true rfl⟩ hI hN hK hS rfl hl.1 rfl (Nat.le_of_ble_eq_true rfl) dX8_answer_5 ⟨Nat.zero_le _, Nat.zero_le _⟩ (fun H locs hI hS => ?_)
  refine lv_aload_n hx hb dX8_answer_8 rfl (lv_at hl 0 rfl) ?_
  obtain ⟨a10847, a10849, a10851, a10853, a10855, a10857, hO, hq10848, hq10850, hq10852, hq10854, hq10856, hq10858⟩ := op_13 hI hG0 List.not_mem_nil
  have hI := th_I.weak (a := h0) hI
  refine th_get hx hb hts inT8 hown hK hO rfl 2 (by decide) (hts _ (tb_c wd_303)) rfl rfl dX8_answer_9 ?_
  refine lv_iconst (v := (-1)) hx hb dX8_answer_12 (by decide) ?_
  have hI := th_I.close hI hG0 hO (ok_13 hq10848 hq10850 hq10852 hq10854 hq10856 hq10858)
  refine th_cSv (As := [.ref a10851, .int (-1)]) (rest := []) (n := 2) (d := 0) ⟨hx, hb, hml, hown, hts⟩ (c_J7_fill_53178 l E D G a10851 (25) hq10852 (by omega) (-1)) wd_963 wd_541 wd_15 wd_542 (by decide +kernel) ⟨by rw [hR]; exact Nat.le_of_ble_eq_true rfl, by rw [hR]; exact Nat.le_of_ble_eq_true rfl⟩ hI hN hK hS rfl hl.1 rfl (Nat.le_of_ble_eq_true rfl) dX8_answer_13 ⟨Nat.zero_le _, Nat.zero_le _⟩ (fun H locs hI hS => ?_)
  refine lv_aload_n hx hb dX8_answer_16 rfl (lv_at hl 0 rfl) ?_
  obtain ⟨a10860, a10862, a10864, a10866, a10868, a10870, hO, hq10861, hq10863, hq10865, hq10867, hq10869, hq10871⟩ := op_13 hI hG0 List.not_mem_nil
  have hI := th_I.weak (a := h0) hI
  refine th_get hx hb hts inT8 hown hK hO rfl 4 (by decide) (hts _ (tb_c wd_305)) rfl rfl dX8_answer_17 ?_
  refine lv_iconst (v := (-1)) hx hb dX8_answer_20 (by decide) ?_
  have hI := th_I.close hI hG0 hO (ok_13 hq10861 hq10863 hq10865 hq10867 hq10869 hq10871)
  refine th_cSv (As := [.ref a10868, .int (-1)]) (rest := []) (n := 2) (d := 0) ⟨hx, hb, hml, hown, hts⟩ (c_J7_fill_53178 l E D G a10868 (97) hq10869 (by omega) (-1)) wd_963 wd_541 wd_15 wd_542 (by decide +kernel) ⟨by rw [hR]; exact Nat.le_of_ble_eq_true rfl, by rw [hR]; exact Nat.le_of_ble_eq_true rfl⟩ hI hN hK hS rfl hl.1 rfl (Nat.le_of_ble_eq_true rfl) dX8_answer_21 ⟨Nat.zero_le _, Nat.zero_le _⟩ (fun H locs hI hS => ?_)
  refine lv_iconst (v := (-1)) hx hb dX8_answer_24 (by decide) ?_
  refine lv_istore (lv' := [(5, .int (-1)), (0, .ref h0), (1, .int x1), (2, .int x2), (3, .int x3), (4, .int x4)]) hx hb dX8_answer_25 hl (by decide) rfl (fun ls hl => ?_)
  refine lv_iconst (v := (-1)) hx hb dX8_answer_27 (by decide) ?_
  refine lv_istore (lv' := [(6, .int (-1)), (5, .int (-1)), (0, .ref h0), (1, .int x1), (2, .int x2), (3, .int x3), (4, .int x4)]) hx hb dX8_answer_28 hl (by decide) rfl (fun ls hl => ?_)
  refine lv_bipush (v := 96) hx hb dX8_answer_30 (by decide) ?_
  refine lv_istore (lv' := [(7, .int 96), (6, .int (-1)), (5, .int (-1)), (0, .ref h0), (1, .int x1), (2, .int x2), (3, .int x3), (4, .int x4)]) hx hb dX8_answer_32 hl (by decide) rfl (fun ls hl => ?_)
  have zl : (96 : Int32).toInt = 96 := by decide
  exact J_34 _ H locs ls 96 (-1) (-1) rfl (lv_sub hl [0, 1, 2, 3, 4, 5, 6, 7] rfl) ⟨by decide, by decide⟩ ⟨by decide, by decide⟩ ⟨by omega, by omega⟩ ⟨by omega, by omega⟩ hI hS
theorem dX10_tuned_0g : (decode cX10_tuned 0 = .ok (.iload_n 1, 1)) ∧ (decode cX10_tuned 1 = .ok (.ifCond .lt 21, 3)) ∧ (decode cX10_tuned 4 = .ok (.iload_n 1, 1)) ∧ (decode cX10_tuned 5 = .ok (.aload_n 0, 1)) ∧ (decode cX10_tuned 6 = .ok (.getfield 15, 3)) ∧ (decode cX10_tuned 9 = .ok (.arraylength, 1)) ∧ (decode cX10_tuned 10 = .ok (.if_icmp .ge 12, 3)) ∧ (decode cX10_tuned 13 = .ok (.aload_n 0, 1)) ∧ (decode cX10_tuned 14 = .ok (.getfield 15, 3)) ∧ (decode cX10_tuned 17 = .ok (.iload_n 1, 1)) := by decide +kernel
theorem dX10_tuned_0 : decode cX10_tuned 0 = .ok (.iload_n 1, 1) := dX10_tuned_0g.1
theorem dX10_tuned_1 : decode cX10_tuned 1 = .ok (.ifCond .lt 21, 3) := dX10_tuned_0g.2.1
theorem dX10_tuned_4 : decode cX10_tuned 4 = .ok (.iload_n 1, 1) := dX10_tuned_0g.2.2.1
theorem dX10_tuned_5 : decode cX10_tuned 5 = .ok (.aload_n 0, 1) := dX10_tuned_0g.2.2.2.1
theorem dX10_tuned_6 : decode cX10_tuned 6 = .ok (.getfield 15, 3) := dX10_tuned_0g.2.2.2.2.1
theorem dX10_tuned_9 : decode cX10_tuned 9 = .ok (.arraylength, 1) := dX10_tuned_0g.2.2.2.2.2.1
theorem dX10_tuned_10 : decode cX10_tuned 10 = .ok (.if_icmp .ge 12, 3) := dX10_tuned_0g.2.2.2.2.2.2.1
theorem dX10_tuned_13 : decode cX10_tuned 13 = .ok (.aload_n 0, 1) := dX10_tuned_0g.2.2.2.2.2.2.2.1
theorem dX10_tuned_14 : decode cX10_tuned 14 = .ok (.getfield 15, 3) := dX10_tuned_0g.2.2.2.2.2.2.2.2.1
theorem dX10_tuned_17 : decode cX10_tuned 17 = .ok (.iload_n 1, 1) := dX10_tuned_0g.2.2.2.2.2.2.2.2.2
theorem dX10_tuned_18g : (decode cX10_tuned 18 = .ok (.iaload, 1)) ∧ (decode cX10_tuned 19 = .ok (.goto 4, 3)) ∧ (decode cX10_tuned 22 = .ok (.iconst (-1), 1)) ∧ (decode cX10_tuned 23 = .ok (.ireturn, 1)) := by decide +kernel
theorem dX10_tuned_18 : decode cX10_tuned 18 = .ok (.iaload, 1) := dX10_tuned_18g.1
theorem dX10_tuned_19 : decode cX10_tuned 19 = .ok (.goto 4, 3) := dX10_tuned_18g.2.1
theorem dX10_tuned_22 : decode cX10_tuned 22 = .ok (.iconst (-1), 1) := dX10_tuned_18g.2.2.1
theorem dX10_tuned_23 : decode cX10_tuned 23 = .ok (.ireturn, 1) := dX10_tuned_18g.2.2.2
set_option maxHeartbeats 4000000 in
set_option maxRecDepth 100000 in
theorem c_X10_tuned (l : Launch) (E : Nat → Nat) (D : va_G) (G : th_G) (h0 : Nat) (hG0 : G h0 = some (14, 0)) (x1 : Int32) : Met l yX10_tuned (tb (.code yX10_tuned cX10_tuned 2 (some .int))) (rm 0) (va_Pc [.ref h0, .int x1] (th_P E D G)) (QI E D G (fun r => True)) 0 0 (th_A G) := by
  refine Met.ofW (cc := cX10_tuned) (maxL := 2) (ret := (some .int)) (by decide) rfl ?_
  intro p e s m args below meth c s₁ B hml hv
  obtain ⟨hav, hI, hN, hK⟩ := hv
  have hx := B.exec
  have hb := B.bytes
  have hr := B.returns
  have hts := atoms_spec (ws := tb (.code yX10_tuned cX10_tuned 2 (some .int))) B.pre
  have hown : s.vm.findClass RX10 = some m.cls := findClass_of_methodNamed B.named
  have hlocks := B.notSynchronized
  have hS : va_S (th_A G) s.heap s.heap [] := va_S.rf
  have hl := lv_entry ([.ref h0, .int x1]) (n := 2) (Nat.le_of_ble_eq_true rfl)
  rw [show entryFrame m args 2 = entryFrame m ([.ref h0, .int x1] : List Value).toArray 2 from by rw [hav], lg_entry_eq]
  generalize (lg_sl ([.ref h0, .int x1]) ++ List.replicate (2 - (lg_sl ([.ref h0, .int x1])).length) Slot.unset).toArray = ls at hl ⊢
  have hl : lv_has ls 2 [(0, .ref h0), (1, .int x1)] := hl
  generalize hR : (headSpec (tb (.code yX10_tuned cX10_tuned 2 (some .int))) (rm 0)).room = R
  have hR := hR.symm
  generalize hQ : MQ below (QI E D G (fun r => True)) args s 0 0 (th_A G) = QF
  have hQ := hQ.symm
  refine lv_iload_n hx hb dX10_tuned_0 rfl (lv_at hl 1 rfl) ?_
  have k1 := iv_lo x1
  have k2 := iv_hi x1
  refine lv_if_lt (tgt := 22) hx hb dX10_tuned_1 (by decide) (fun c3 => ?_) (fun c3 => ?_)
  · skip
    have k4 := iv_lt (X := x1.toInt) (Y := (0)) rfl (by decide) c3
    refine lv_iconst (v := (-1)) hx hb dX10_tuned_22 (by decide) ?_
    have hpost : True := trivial
    rw [hQ]
    exact W.iret (v := (-1)) hx hb hr (fun t ht hW => ⟨⟨(-1), (), rfl, hpost, by rw [ht]; exact hI, hN.warm hW, va_K.moved hW.alike hK⟩, hS.F ht⟩) hS.2.2 dX10_tuned_23
  · skip
    have k5 := iv_nlt (X := x1.toInt) (Y := (0)) rfl (by decide) c3
    refine lv_iload_n hx hb dX10_tuned_4 rfl (lv_at hl 1 rfl) ?_
    refine lv_aload_n hx hb dX10_tuned_5 rfl (lv_at hl 0 rfl) ?_
    obtain ⟨a6, a8, a10, a12, a14, w16, hO, hq7, hq9, hq11, hq13, hq15⟩ := op_14 hI hG0 List.not_mem_nil
    have hI := th_I.weak (a := h0) hI
    refine th_get hx hb hts inT10 hown hK hO rfl 4 (by decide) (hts _ (tb_c wd_330)) rfl rfl dX10_tuned_6 ?_
    obtain ⟨_, hA17⟩ := op_0 hI hq15 (th_ne hG0 hq15 (show (14 : Nat) ≠ 0 by decide))
    refine va_alen hx hb hK (th_one hA17) 0 0 rfl (v := 3) rfl (show Int32.ofNat 3 = (3 : Int32) from by decide) dX10_tuned_9 ?_
    refine lv_icmp_ge (tgt := 22) hx hb dX10_tuned_10 (by decide) (fun c18 => ?_) (fun c18 => ?_)
    · skip
      have k19 := iv_le (X := (3)) (Y := x1.toInt) (by decide) rfl c18
      refine lv_iconst (v := (-1)) hx hb dX10_tuned_22 (by decide) ?_
      have hI := th_I.close hI hG0 hO (ok_14 hq7 hq9 hq11 hq13 hq15)
      have hpost : True := trivial
      rw [hQ]
      exact W.iret (v := (-1)) hx hb hr (fun t ht hW => ⟨⟨(-1), (), rfl, hpost, by rw [ht]; exact hI, hN.warm hW, va_K.moved hW.alike hK⟩, hS.F ht⟩) hS.2.2 dX10_tuned_23
    · skip
      have k20 := iv_nle (X := (3)) (Y := x1.toInt) (by decide) rfl c18
      refine lv_aload_n hx hb dX10_tuned_13 rfl (lv_at hl 0 rfl) ?_
      refine th_get hx hb hts inT10 hown hK hO rfl 4 (by decide) (hts _ (tb_c wd_330)) rfl rfl dX10_tuned_14 ?_
      refine lv_iload_n hx hb dX10_tuned_17 rfl (lv_at hl 1 rfl) ?_
      obtain ⟨_, hA21⟩ := op_0 hI hq15 (th_ne hG0 hq15 (show (14 : Nat) ≠ 0 by decide))
      refine th_iald hx hb hK hA21 0 rfl (iv_in (X := x1.toInt) rfl (by omega) (by omega)) dX10_tuned_18 (fun v22 _ => ?_)
      refine lv_goto (tgt := 23) hx hb dX10_tuned_19 (by decide) ?_
      have hI := th_I.close hI hG0 hO (ok_14 hq7 hq9 hq11 hq13 hq15)
      have hpost : True := trivial
      rw [hQ]
      exact W.iret (v := v22) hx hb hr (fun t ht hW => ⟨⟨v22, (), rfl, hpost, by rw [ht]; exact hI, hN.warm hW, va_K.moved hW.alike hK⟩, hS.F ht⟩) hS.2.2 dX10_tuned_23
theorem dX10_grantedNow_0g : (decode cX10_grantedNow 0 = .ok (.iconst 0, 1)) ∧ (decode cX10_grantedNow 1 = .ok (.istore_n 1, 1)) ∧ (decode cX10_grantedNow 2 = .ok (.iconst 0, 1)) ∧ (decode cX10_grantedNow 3 = .ok (.istore_n 2, 1)) ∧ (decode cX10_grantedNow 4 = .ok (.iload_n 2, 1)) ∧ (decode cX10_grantedNow 5 = .ok (.aload_n 0, 1)) ∧ (decode cX10_grantedNow 6 = .ok (.getfield 22, 3)) ∧ (decode cX10_grantedNow 9 = .ok (.getfield 34, 3)) ∧ (decode cX10_grantedNow 12 = .ok (.invokevirtual 40, 3)) ∧ (decode cX10_grantedNow 15 = .ok (.if_icmp .ge 79, 3)) := by decide +kernel
theorem dX10_grantedNow_0 : decode cX10_grantedNow 0 = .ok (.iconst 0, 1) := dX10_grantedNow_0g.1
theorem dX10_grantedNow_1 : decode cX10_grantedNow 1 = .ok (.istore_n 1, 1) := dX10_grantedNow_0g.2.1
theorem dX10_grantedNow_2 : decode cX10_grantedNow 2 = .ok (.iconst 0, 1) := dX10_grantedNow_0g.2.2.1
theorem dX10_grantedNow_3 : decode cX10_grantedNow 3 = .ok (.istore_n 2, 1) := dX10_grantedNow_0g.2.2.2.1
theorem dX10_grantedNow_4 : decode cX10_grantedNow 4 = .ok (.iload_n 2, 1) := dX10_grantedNow_0g.2.2.2.2.1
theorem dX10_grantedNow_5 : decode cX10_grantedNow 5 = .ok (.aload_n 0, 1) := dX10_grantedNow_0g.2.2.2.2.2.1
theorem dX10_grantedNow_6 : decode cX10_grantedNow 6 = .ok (.getfield 22, 3) := dX10_grantedNow_0g.2.2.2.2.2.2.1
theorem dX10_grantedNow_9 : decode cX10_grantedNow 9 = .ok (.getfield 34, 3) := dX10_grantedNow_0g.2.2.2.2.2.2.2.1
theorem dX10_grantedNow_12 : decode cX10_grantedNow 12 = .ok (.invokevirtual 40, 3) := dX10_grantedNow_0g.2.2.2.2.2.2.2.2.1
theorem dX10_grantedNow_15 : decode cX10_grantedNow 15 = .ok (.if_icmp .ge 79, 3) := dX10_grantedNow_0g.2.2.2.2.2.2.2.2.2
theorem dX10_grantedNow_18g : (decode cX10_grantedNow 18 = .ok (.aload_n 0, 1)) ∧ (decode cX10_grantedNow 19 = .ok (.getfield 30, 3)) ∧ (decode cX10_grantedNow 22 = .ok (.aload_n 0, 1)) ∧ (decode cX10_grantedNow 23 = .ok (.getfield 22, 3)) ∧ (decode cX10_grantedNow 26 = .ok (.getfield 34, 3)) ∧ (decode cX10_grantedNow 29 = .ok (.iload_n 2, 1)) ∧ (decode cX10_grantedNow 30 = .ok (.iconst 0, 1)) ∧ (decode cX10_grantedNow 31 = .ok (.invokevirtual 46, 3)) ∧ (decode cX10_grantedNow 34 = .ok (.aload_n 0, 1)) ∧ (decode cX10_grantedNow 35 = .ok (.getfield 22, 3)) := by decide +kernel
theorem dX10_grantedNow_18 : decode cX10_grantedNow 18 = .ok (.aload_n 0, 1) := dX10_grantedNow_18g.1
theorem dX10_grantedNow_19 : decode cX10_grantedNow 19 = .ok (.getfield 30, 3) := dX10_grantedNow_18g.2.1
theorem dX10_grantedNow_22 : decode cX10_grantedNow 22 = .ok (.aload_n 0, 1) := dX10_grantedNow_18g.2.2.1
theorem dX10_grantedNow_23 : decode cX10_grantedNow 23 = .ok (.getfield 22, 3) := dX10_grantedNow_18g.2.2.2.1
theorem dX10_grantedNow_26 : decode cX10_grantedNow 26 = .ok (.getfield 34, 3) := dX10_grantedNow_18g.2.2.2.2.1
theorem dX10_grantedNow_29 : decode cX10_grantedNow 29 = .ok (.iload_n 2, 1) := dX10_grantedNow_18g.2.2.2.2.2.1
theorem dX10_grantedNow_30 : decode cX10_grantedNow 30 = .ok (.iconst 0, 1) := dX10_grantedNow_18g.2.2.2.2.2.2.1
theorem dX10_grantedNow_31 : decode cX10_grantedNow 31 = .ok (.invokevirtual 46, 3) := dX10_grantedNow_18g.2.2.2.2.2.2.2.1
theorem dX10_grantedNow_34 : decode cX10_grantedNow 34 = .ok (.aload_n 0, 1) := dX10_grantedNow_18g.2.2.2.2.2.2.2.2.1
theorem dX10_grantedNow_35 : decode cX10_grantedNow 35 = .ok (.getfield 22, 3) := dX10_grantedNow_18g.2.2.2.2.2.2.2.2.2
theorem dX10_grantedNow_38g : (decode cX10_grantedNow 38 = .ok (.getfield 34, 3)) ∧ (decode cX10_grantedNow 41 = .ok (.iload_n 2, 1)) ∧ (decode cX10_grantedNow 42 = .ok (.iconst 1, 1)) ∧ (decode cX10_grantedNow 43 = .ok (.invokevirtual 46, 3)) ∧ (decode cX10_grantedNow 46 = .ok (.aload_n 0, 1)) ∧ (decode cX10_grantedNow 47 = .ok (.getfield 22, 3)) ∧ (decode cX10_grantedNow 50 = .ok (.getfield 34, 3)) ∧ (decode cX10_grantedNow 53 = .ok (.iload_n 2, 1)) ∧ (decode cX10_grantedNow 54 = .ok (.iconst 3, 1)) ∧ (decode cX10_grantedNow 55 = .ok (.invokevirtual 46, 3)) := by decide +kernel
theorem dX10_grantedNow_38 : decode cX10_grantedNow 38 = .ok (.getfield 34, 3) := dX10_grantedNow_38g.1
theorem dX10_grantedNow_41 : decode cX10_grantedNow 41 = .ok (.iload_n 2, 1) := dX10_grantedNow_38g.2.1
theorem dX10_grantedNow_42 : decode cX10_grantedNow 42 = .ok (.iconst 1, 1) := dX10_grantedNow_38g.2.2.1
theorem dX10_grantedNow_43 : decode cX10_grantedNow 43 = .ok (.invokevirtual 46, 3) := dX10_grantedNow_38g.2.2.2.1
theorem dX10_grantedNow_46 : decode cX10_grantedNow 46 = .ok (.aload_n 0, 1) := dX10_grantedNow_38g.2.2.2.2.1
theorem dX10_grantedNow_47 : decode cX10_grantedNow 47 = .ok (.getfield 22, 3) := dX10_grantedNow_38g.2.2.2.2.2.1
theorem dX10_grantedNow_50 : decode cX10_grantedNow 50 = .ok (.getfield 34, 3) := dX10_grantedNow_38g.2.2.2.2.2.2.1
theorem dX10_grantedNow_53 : decode cX10_grantedNow 53 = .ok (.iload_n 2, 1) := dX10_grantedNow_38g.2.2.2.2.2.2.2.1
theorem dX10_grantedNow_54 : decode cX10_grantedNow 54 = .ok (.iconst 3, 1) := dX10_grantedNow_38g.2.2.2.2.2.2.2.2.1
theorem dX10_grantedNow_55 : decode cX10_grantedNow 55 = .ok (.invokevirtual 46, 3) := dX10_grantedNow_38g.2.2.2.2.2.2.2.2.2
theorem dX10_grantedNow_58g : (decode cX10_grantedNow 58 = .ok (.invokevirtual 50, 3)) ∧ (decode cX10_grantedNow 61 = .ok (.istore_n 3, 1)) ∧ (decode cX10_grantedNow 62 = .ok (.iload_n 1, 1)) ∧ (decode cX10_grantedNow 63 = .ok (.iload_n 3, 1)) ∧ (decode cX10_grantedNow 64 = .ok (.aload_n 0, 1)) ∧ (decode cX10_grantedNow 65 = .ok (.getfield 22, 3)) ∧ (decode cX10_grantedNow 68 = .ok (.getfield 34, 3)) ∧ (decode cX10_grantedNow 71 = .ok (.iload_n 2, 1)) ∧ (decode cX10_grantedNow 72 = .ok (.iconst 2, 1)) ∧ (decode cX10_grantedNow 73 = .ok (.invokevirtual 46, 3)) := by decide +kernel
theorem dX10_grantedNow_58 : decode cX10_grantedNow 58 = .ok (.invokevirtual 50, 3) := dX10_grantedNow_58g.1
theorem dX10_grantedNow_61 : decode cX10_grantedNow 61 = .ok (.istore_n 3, 1) := dX10_grantedNow_58g.2.1
theorem dX10_grantedNow_62 : decode cX10_grantedNow 62 = .ok (.iload_n 1, 1) := dX10_grantedNow_58g.2.2.1
theorem dX10_grantedNow_63 : decode cX10_grantedNow 63 = .ok (.iload_n 3, 1) := dX10_grantedNow_58g.2.2.2.1
theorem dX10_grantedNow_64 : decode cX10_grantedNow 64 = .ok (.aload_n 0, 1) := dX10_grantedNow_58g.2.2.2.2.1
theorem dX10_grantedNow_65 : decode cX10_grantedNow 65 = .ok (.getfield 22, 3) := dX10_grantedNow_58g.2.2.2.2.2.1
theorem dX10_grantedNow_68 : decode cX10_grantedNow 68 = .ok (.getfield 34, 3) := dX10_grantedNow_58g.2.2.2.2.2.2.1
theorem dX10_grantedNow_71 : decode cX10_grantedNow 71 = .ok (.iload_n 2, 1) := dX10_grantedNow_58g.2.2.2.2.2.2.2.1
theorem dX10_grantedNow_72 : decode cX10_grantedNow 72 = .ok (.iconst 2, 1) := dX10_grantedNow_58g.2.2.2.2.2.2.2.2.1
theorem dX10_grantedNow_73 : decode cX10_grantedNow 73 = .ok (.invokevirtual 46, 3) := dX10_grantedNow_58g.2.2.2.2.2.2.2.2.2
theorem dX10_grantedNow_76g : (decode cX10_grantedNow 76 = .ok (.if_icmp .ne 9, 3)) ∧ (decode cX10_grantedNow 79 = .ok (.iconst 1, 1)) ∧ (decode cX10_grantedNow 80 = .ok (.iload_n 2, 1)) ∧ (decode cX10_grantedNow 81 = .ok (.ishl, 1)) ∧ (decode cX10_grantedNow 82 = .ok (.goto 4, 3)) ∧ (decode cX10_grantedNow 85 = .ok (.iconst 0, 1)) ∧ (decode cX10_grantedNow 86 = .ok (.ior, 1)) ∧ (decode cX10_grantedNow 87 = .ok (.istore_n 1, 1)) ∧ (decode cX10_grantedNow 88 = .ok (.iinc 2 1, 3)) ∧ (decode cX10_grantedNow 91 = .ok (.goto (-87), 3)) := by decide +kernel
theorem dX10_grantedNow_76 : decode cX10_grantedNow 76 = .ok (.if_icmp .ne 9, 3) := dX10_grantedNow_76g.1
theorem dX10_grantedNow_79 : decode cX10_grantedNow 79 = .ok (.iconst 1, 1) := dX10_grantedNow_76g.2.1
theorem dX10_grantedNow_80 : decode cX10_grantedNow 80 = .ok (.iload_n 2, 1) := dX10_grantedNow_76g.2.2.1
theorem dX10_grantedNow_81 : decode cX10_grantedNow 81 = .ok (.ishl, 1) := dX10_grantedNow_76g.2.2.2.1
theorem dX10_grantedNow_82 : decode cX10_grantedNow 82 = .ok (.goto 4, 3) := dX10_grantedNow_76g.2.2.2.2.1
theorem dX10_grantedNow_85 : decode cX10_grantedNow 85 = .ok (.iconst 0, 1) := dX10_grantedNow_76g.2.2.2.2.2.1
theorem dX10_grantedNow_86 : decode cX10_grantedNow 86 = .ok (.ior, 1) := dX10_grantedNow_76g.2.2.2.2.2.2.1
theorem dX10_grantedNow_87 : decode cX10_grantedNow 87 = .ok (.istore_n 1, 1) := dX10_grantedNow_76g.2.2.2.2.2.2.2.1
theorem dX10_grantedNow_88 : decode cX10_grantedNow 88 = .ok (.iinc 2 1, 3) := dX10_grantedNow_76g.2.2.2.2.2.2.2.2.1
theorem dX10_grantedNow_91 : decode cX10_grantedNow 91 = .ok (.goto (-87), 3) := dX10_grantedNow_76g.2.2.2.2.2.2.2.2.2
theorem dX10_grantedNow_94g : (decode cX10_grantedNow 94 = .ok (.iload_n 1, 1)) ∧ (decode cX10_grantedNow 95 = .ok (.ireturn, 1)) := by decide +kernel
theorem dX10_grantedNow_94 : decode cX10_grantedNow 94 = .ok (.iload_n 1, 1) := dX10_grantedNow_94g.1
theorem dX10_grantedNow_95 : decode cX10_grantedNow 95 = .ok (.ireturn, 1) := dX10_grantedNow_94g.2
set_option maxHeartbeats 4000000 in
set_option maxRecDepth 100000 in
theorem c_X10_grantedNow (l : Launch) (E : Nat → Nat) (D : va_G) (G : th_G) (h0 : Nat) (hG0 : G h0 = some (14, 0)) : Met l yX10_grantedNow (tb (.code yX10_grantedNow cX10_grantedNow 4 (some .int))) (rm 6) (va_Pc [.ref h0] (th_P E D G)) (QI E D G (fun r => True)) 0 0 (th_A G) := by
  refine Met.ofW (cc := cX10_grantedNow) (maxL := 4) (ret := (some .int)) (by decide) rfl ?_
  intro p e s m args below meth c s₁ B hml hv
  obtain ⟨hav, hI, hN, hK⟩ := hv
  have hx := B.exec
  have hb := B.bytes
  have hr := B.returns
  have hts := atoms_spec (ws := tb (.code yX10_grantedNow cX10_grantedNow 4 (some .int))) B.pre
  have hown : s.vm.findClass RX10 = some m.cls := findClass_of_methodNamed B.named
  have hlocks := B.notSynchronized
  have hS : va_S (th_A G) s.heap s.heap [] := va_S.rf
  have hl := lv_entry ([.ref h0]) (n := 4) (Nat.le_of_ble_eq_true rfl)
  rw [show entryFrame m args 4 = entryFrame m ([.ref h0] : List Value).toArray 4 from by rw [hav], lg_entry_eq]
  generalize (lg_sl ([.ref h0]) ++ List.replicate (4 - (lg_sl ([.ref h0])).length) Slot.unset).toArray = ls at hl ⊢
  have hl : lv_has ls 4 [(0, .ref h0)] := hl
  generalize hR : (headSpec (tb (.code yX10_grantedNow cX10_grantedNow 4 (some .int))) (rm 6)).room = R
  have hR := hR.symm
  generalize hQ : MQ below (QI E D G (fun r => True)) args s 0 0 (th_A G) = QF
  have hQ := hQ.symm
  have J_4 : ∀ (nn : Nat) (H : Heap) (locs : List Loc) (ls : Array Slot) (v2711 : Int32) (v2712 : Int32), (Int.toNat (6 - v2711.toInt) = nn) → lv_has ls 4 [(2, .int v2711), (1, .int v2712), (0, .ref h0)] → ((0 : Int) ≤ v2711.toInt ∧ v2711.toInt ≤ 6) → th_I (okC E) D G [] H → va_S (th_A G) s.heap H locs → W p l e R s m args below meth c H locs 0 0 QF (F0 m 4 ls []) := by
    intro nn
    induction nn using Nat.strongRecOn with
    | ind nn ih_4 =>
      intro H locs ls v2711 v2712 hm hl k2713 hI hS
      refine lv_iload_n hx hb dX10_grantedNow_4 rfl (lv_at hl 0 rfl) ?_
      refine lv_aload_n hx hb dX10_grantedNow_5 rfl (lv_at hl 2 rfl) ?_
      obtain ⟨a2714, a2716, a2718, a2720, a2722, w2724, hO, hq2715, hq2717, hq2719, hq2721, hq2723⟩ := op_14 hI hG0 List.not_mem_nil
      have hI := th_I.weak (a := h0) hI
      refine th_get hx hb hts inT10 hown hK hO rfl 0 (by decide) (hts _ (tb_c wd_326)) rfl rfl dX10_grantedNow_6 ?_
      have hI := th_I.close hI hG0 hO (ok_14 hq2715 hq2717 hq2719 hq2721 hq2723)
      obtain ⟨a2725, a2727, a2729, a2731, a2733, a2735, a2737, a2739, a2741, a2743, w2745, w2748, w2749, w2750, hO, hq2726, hq2728, hq2730, hq2732, hq2734, hq2736, hq2738, hq2740, hq2742, hq2744, ⟨k2746, k2747⟩, k2751⟩ := op_6 hI hq2715 List.not_mem_nil
      have hI := th_I.weak (a := a2714) hI
      refine th_getN hx hb hts inT6 hown hK hN hO rfl 8 (by decide) wn_79 rfl rfl dX10_grantedNow_9 ?_
      have hI := th_I.close hI hq2715 hO (ok_6 hq2726 hq2728 hq2730 hq2732 hq2734 hq2736 hq2738 hq2740 hq2742 hq2744 ⟨by omega, by omega⟩ k2751)
      obtain ⟨a2753, w2755, hO, hq2754, ⟨k2756, k2757⟩, k2758⟩ := op_4 hI hq2742 List.not_mem_nil
      have hI := th_I.weak (a := a2741) hI
      have k2759 : (nI (6 % 32)).toInt = ((6 % 32 : Nat) : Int) := nI_toInt (by omega)
      have k2760 := k2758.1
      refine th_cVs (As := []) (rest := [.int v2711]) (n := 0) (d := 0) ⟨hx, hb, hml, hown, hts⟩ (c_X4_size l E D H a2741 (6 % 32) a2753 w2755 hO (by omega) (by omega) (by omega)) wd_1138 wd_507 wd_508 wd_3 wd_509 (by decide +kernel) ⟨by rw [hR]; exact Nat.le_of_ble_eq_true rfl, by rw [hR]; exact Nat.le_of_ble_eq_true rfl⟩ hN hK hS ⟨_, hO⟩ rfl rfl hl.1 rfl (Nat.le_of_ble_eq_true rfl) dX10_grantedNow_12 ⟨Nat.zero_le _, Nat.zero_le _⟩ (fun r2752 locs hp hS => ?_)
      have hp := hp.symm
      subst hp
      refine lv_icmp_ge (tgt := 94) hx hb dX10_grantedNow_15 (by decide) (fun c2761 => ?_) (fun c2761 => ?_)
      · skip
        have k2762 := iv_le (X := w2755.toInt) (Y := v2711.toInt) rfl rfl c2761
        refine lv_iload_n hx hb dX10_grantedNow_94 rfl (lv_at hl 1 rfl) ?_
        have hI := th_I.close hI hq2742 hO (ok_4 hq2754 ⟨by omega, by omega⟩ k2758)
        have hpost : True := trivial
        rw [hQ]
        exact W.iret (v := v2712) hx hb hr (fun t ht hW => ⟨⟨v2712, (), rfl, hpost, by rw [ht]; exact hI, hN.warm hW, va_K.moved hW.alike hK⟩, hS.F ht⟩) hS.2.2 dX10_grantedNow_95
      · skip
        have k2763 := iv_nle (X := w2755.toInt) (Y := v2711.toInt) rfl rfl c2761
        refine lv_aload_n hx hb dX10_grantedNow_18 rfl (lv_at hl 2 rfl) ?_
        have hI := th_I.close hI hq2742 hO (ok_4 hq2754 ⟨by omega, by omega⟩ k2758)
        obtain ⟨a2764, a2766, a2768, a2770, a2772, w2774, hO, hq2765, hq2767, hq2769, hq2771, hq2773⟩ := op_14 hI hG0 List.not_mem_nil
        have hI := th_I.weak (a := h0) hI
        refine th_get hx hb hts inT10 hown hK hO rfl 2 (by decide) (hts _ (tb_c wd_328)) rfl rfl dX10_grantedNow_19 ?_
        refine lv_aload_n hx hb dX10_grantedNow_22 rfl (lv_at hl 2 rfl) ?_
        refine th_get hx hb hts inT10 hown hK hO rfl 0 (by decide) (hts _ (tb_c wd_326)) rfl rfl dX10_grantedNow_23 ?_
        have hI := th_I.close hI hG0 hO (ok_14 hq2765 hq2767 hq2769 hq2771 hq2773)
        obtain ⟨a2775, a2777, a2779, a2781, a2783, a2785, a2787, a2789, a2791, a2793, w2795, w2798, w2799, w2800, hO, hq2776, hq2778, hq2780, hq2782, hq2784, hq2786, hq2788, hq2790, hq2792, hq2794, ⟨k2796, k2797⟩, k2801⟩ := op_6 hI hq2765 List.not_mem_nil
        have hI := th_I.weak (a := a2764) hI
        refine th_getN hx hb hts inT6 hown hK hN hO rfl 8 (by decide) wn_79 rfl rfl dX10_grantedNow_26 ?_
        refine lv_iload_n hx hb dX10_grantedNow_29 rfl (lv_at hl 0 rfl) ?_
        refine lv_iconst (v := 0) hx hb dX10_grantedNow_30 (by decide) ?_
        have hI := th_I.close hI hq2765 hO (ok_6 hq2776 hq2778 hq2780 hq2782 hq2784 hq2786 hq2788 hq2790 hq2792 hq2794 ⟨by omega, by omega⟩ k2801)
        refine th_cVi (As := [.int v2711, .int 0]) (rest := [.ref a2768]) (n := 2) (d := 0) ⟨hx, hb, hml, hown, hts⟩ (c_X4_at l E D G a2791 (6) hq2792 v2711 0) wd_1139 wd_519 wd_520 wd_3 wd_521 (by decide +kernel) ⟨by rw [hR]; exact Nat.le_of_ble_eq_true rfl, by rw [hR]; exact Nat.le_of_ble_eq_true rfl⟩ hI hN hK hS (rc_4 hI hq2792 List.not_mem_nil) rfl rfl hl.1 rfl (Nat.le_of_ble_eq_true rfl) dX10_grantedNow_31 ⟨Nat.zero_le _, Nat.zero_le _⟩ (fun r2802 H locs hp hI hS => ?_)
        refine lv_aload_n hx hb dX10_grantedNow_34 rfl (lv_at hl 2 rfl) ?_
        obtain ⟨a2803, a2805, a2807, a2809, a2811, w2813, hO, hq2804, hq2806, hq2808, hq2810, hq2812⟩ := op_14 hI hG0 List.not_mem_nil
        have hI := th_I.weak (a := h0) hI
        refine th_get hx hb hts inT10 hown hK hO rfl 0 (by decide) (hts _ (tb_c wd_326)) rfl rfl dX10_grantedNow_35 ?_
        have hI := th_I.close hI hG0 hO (ok_14 hq2804 hq2806 hq2808 hq2810 hq2812)
        obtain ⟨a2814, a2816, a2818, a2820, a2822, a2824, a2826, a2828, a2830, a2832, w2834, w2837, w2838, w2839, hO, hq2815, hq2817, hq2819, hq2821, hq2823, hq2825, hq2827, hq2829, hq2831, hq2833, ⟨k2835, k2836⟩, k2840⟩ := op_6 hI hq2804 List.not_mem_nil
        have hI := th_I.weak (a := a2803) hI
        refine th_getN hx hb hts inT6 hown hK hN hO rfl 8 (by decide) wn_79 rfl rfl dX10_grantedNow_38 ?_
        refine lv_iload_n hx hb dX10_grantedNow_41 rfl (lv_at hl 0 rfl) ?_
        refine lv_iconst (v := 1) hx hb dX10_grantedNow_42 (by decide) ?_
        have hI := th_I.close hI hq2804 hO (ok_6 hq2815 hq2817 hq2819 hq2821 hq2823 hq2825 hq2827 hq2829 hq2831 hq2833 ⟨by omega, by omega⟩ k2840)
        refine th_cVi (As := [.int v2711, .int 1]) (rest := [.int r2802, .ref a2768]) (n := 2) (d := 0) ⟨hx, hb, hml, hown, hts⟩ (c_X4_at l E D G a2830 (6) hq2831 v2711 1) wd_1139 wd_519 wd_520 wd_3 wd_521 (by decide +kernel) ⟨by rw [hR]; exact Nat.le_of_ble_eq_true rfl, by rw [hR]; exact Nat.le_of_ble_eq_true rfl⟩ hI hN hK hS (rc_4 hI hq2831 List.not_mem_nil) rfl rfl hl.1 rfl (Nat.le_of_ble_eq_true rfl) dX10_grantedNow_43 ⟨Nat.zero_le _, Nat.zero_le _⟩ (fun r2841 H locs hp hI hS => ?_)
        refine lv_aload_n hx hb dX10_grantedNow_46 rfl (lv_at hl 2 rfl) ?_
        obtain ⟨a2842, a2844, a2846, a2848, a2850, w2852, hO, hq2843, hq2845, hq2847, hq2849, hq2851⟩ := op_14 hI hG0 List.not_mem_nil
        have hI := th_I.weak (a := h0) hI
        refine th_get hx hb hts inT10 hown hK hO rfl 0 (by decide) (hts _ (tb_c wd_326)) rfl rfl dX10_grantedNow_47 ?_
        have hI := th_I.close hI hG0 hO (ok_14 hq2843 hq2845 hq2847 hq2849 hq2851)
        obtain ⟨a2853, a2855, a2857, a2859, a2861, a2863, a2865, a2867, a2869, a2871, w2873, w2876, w2877, w2878, hO, hq2854, hq2856, hq2858, hq2860, hq2862, hq2864, hq2866, hq2868, hq2870, hq2872, ⟨k2874, k2875⟩, k2879⟩ := op_6 hI hq2843 List.not_mem_nil
        have hI := th_I.weak (a := a2842) hI
        refine th_getN hx hb hts inT6 hown hK hN hO rfl 8 (by decide) wn_79 rfl rfl dX10_grantedNow_50 ?_
        refine lv_iload_n hx hb dX10_grantedNow_53 rfl (lv_at hl 0 rfl) ?_
        refine lv_iconst (v := 3) hx hb dX10_grantedNow_54 (by decide) ?_
        have hI := th_I.close hI hq2843 hO (ok_6 hq2854 hq2856 hq2858 hq2860 hq2862 hq2864 hq2866 hq2868 hq2870 hq2872 ⟨by omega, by omega⟩ k2879)
        refine th_cVi (As := [.int v2711, .int 3]) (rest := [.int r2841, .int r2802, .ref a2768]) (n := 2) (d := 0) ⟨hx, hb, hml, hown, hts⟩ (c_X4_at l E D G a2869 (6) hq2870 v2711 3) wd_1139 wd_519 wd_520 wd_3 wd_521 (by decide +kernel) ⟨by rw [hR]; exact Nat.le_of_ble_eq_true rfl, by rw [hR]; exact Nat.le_of_ble_eq_true rfl⟩ hI hN hK hS (rc_4 hI hq2870 List.not_mem_nil) rfl rfl hl.1 rfl (Nat.le_of_ble_eq_true rfl) dX10_grantedNow_55 ⟨Nat.zero_le _, Nat.zero_le _⟩ (fun r2880 H locs hp hI hS => ?_)
        refine th_cVi (As := [.int r2802, .int r2841, .int r2880]) (rest := []) (n := 3) (d := 5) ⟨hx, hb, hml, hown, hts⟩ (c_X9_drift l E D G a2768 hq2769 r2802 r2841 r2880) wd_1140 wd_830 wd_831 wd_8 wd_832 (by decide +kernel) ⟨by rw [hR]; exact Nat.le_of_ble_eq_true rfl, by rw [hR]; exact Nat.le_of_ble_eq_true rfl⟩ hI hN hK hS (rc_10 hI hq2769 List.not_mem_nil) rfl rfl hl.1 rfl (Nat.le_of_ble_eq_true rfl) dX10_grantedNow_58 ⟨Nat.zero_le _, Nat.zero_le _⟩ (fun r2881 H locs hp hI hS => ?_)
        refine lv_istore_n (lv' := [(3, .int r2881), (2, .int v2711), (1, .int v2712), (0, .ref h0)]) hx hb dX10_grantedNow_61 rfl hl (by decide) rfl (fun ls hl => ?_)
        refine lv_iload_n hx hb dX10_grantedNow_62 rfl (lv_at hl 2 rfl) ?_
        refine lv_iload_n hx hb dX10_grantedNow_63 rfl (lv_at hl 0 rfl) ?_
        refine lv_aload_n hx hb dX10_grantedNow_64 rfl (lv_at hl 3 rfl) ?_
        obtain ⟨a2882, a2884, a2886, a2888, a2890, w2892, hO, hq2883, hq2885, hq2887, hq2889, hq2891⟩ := op_14 hI hG0 List.not_mem_nil
        have hI := th_I.weak (a := h0) hI
        refine th_get hx hb hts inT10 hown hK hO rfl 0 (by decide) (hts _ (tb_c wd_326)) rfl rfl dX10_grantedNow_65 ?_
        have hI := th_I.close hI hG0 hO (ok_14 hq2883 hq2885 hq2887 hq2889 hq2891)
        obtain ⟨a2893, a2895, a2897, a2899, a2901, a2903, a2905, a2907, a2909, a2911, w2913, w2916, w2917, w2918, hO, hq2894, hq2896, hq2898, hq2900, hq2902, hq2904, hq2906, hq2908, hq2910, hq2912, ⟨k2914, k2915⟩, k2919⟩ := op_6 hI hq2883 List.not_mem_nil
        have hI := th_I.weak (a := a2882) hI
        refine th_getN hx hb hts inT6 hown hK hN hO rfl 8 (by decide) wn_79 rfl rfl dX10_grantedNow_68 ?_
        refine lv_iload_n hx hb dX10_grantedNow_71 rfl (lv_at hl 1 rfl) ?_
        refine lv_iconst (v := 2) hx hb dX10_grantedNow_72 (by decide) ?_
        have hI := th_I.close hI hq2883 hO (ok_6 hq2894 hq2896 hq2898 hq2900 hq2902 hq2904 hq2906 hq2908 hq2910 hq2912 ⟨by omega, by omega⟩ k2919)
        refine th_cVi (As := [.int v2711, .int 2]) (rest := [.int r2881, .int v2712]) (n := 2) (d := 0) ⟨hx, hb, hml, hown, hts⟩ (c_X4_at l E D G a2909 (6) hq2910 v2711 2) wd_1139 wd_519 wd_520 wd_3 wd_521 (by decide +kernel) ⟨by rw [hR]; exact Nat.le_of_ble_eq_true rfl, by rw [hR]; exact Nat.le_of_ble_eq_true rfl⟩ hI hN hK hS (rc_4 hI hq2910 List.not_mem_nil) rfl rfl hl.1 rfl (Nat.le_of_ble_eq_true rfl) dX10_grantedNow_73 ⟨Nat.zero_le _, Nat.zero_le _⟩ (fun r2920 H locs hp hI hS => ?_)
        have k2921 := iv_lo r2881
        have k2922 := iv_hi r2881
        have k2923 := iv_lo r2920
        have k2924 := iv_hi r2920
        refine lv_icmp_ne (tgt := 85) hx hb dX10_grantedNow_76 (by decide) (fun c2925 => ?_) (fun c2925 => ?_)
        · skip
          have k2926 := iv_ne (X := r2881.toInt) (Y := r2920.toInt) rfl rfl c2925
          refine lv_iconst (v := 0) hx hb dX10_grantedNow_85 (by decide) ?_
          refine lv_ior hx hb dX10_grantedNow_86 ?_
          refine lv_topi (fun v2927 e2928 => ?_)
          refine lv_istore_n (lv' := [(1, .int v2927), (3, .int r2881), (2, .int v2711), (0, .ref h0)]) hx hb dX10_grantedNow_87 rfl hl (by decide) rfl (fun ls hl => ?_)
          obtain ⟨v2929, e2930⟩ : ∃ y : Int32, y = v2711 + (1) := ⟨_, rfl⟩
          have tv2929 : v2929.toInt = v2711.toInt + (1) := iv_add rfl (by decide) e2930 (by omega) (by omega)
          refine lv_iinc (v := v2929) (lv' := [(2, .int v2929), (1, .int v2927), (3, .int r2881), (0, .ref h0)]) hx hb dX10_grantedNow_88 hl (k := 2) rfl (by rw [e2930]; rfl) (by decide) rfl (fun ls hl => ?_)
          refine lv_goto (tgt := 4) hx hb dX10_grantedNow_91 (by decide) ?_
          exact ih_4 _ (by omega) H locs ls v2929 v2927 rfl (lv_sub hl [0, 1, 3] rfl) ⟨by omega, by omega⟩ hI hS
        · skip
          have k2931 := iv_eq (X := r2881.toInt) (Y := r2920.toInt) rfl rfl c2925
          refine lv_iconst (v := 1) hx hb dX10_grantedNow_79 (by decide) ?_
          refine lv_iload_n hx hb dX10_grantedNow_80 rfl (lv_at hl 1 rfl) ?_
          refine lv_ishl hx hb dX10_grantedNow_81 ?_
          refine lv_topi (fun v2932 e2933 => ?_)
          refine lv_goto (tgt := 86) hx hb dX10_grantedNow_82 (by decide) ?_
          refine lv_ior hx hb dX10_grantedNow_86 ?_
          refine lv_topi (fun v2934 e2935 => ?_)
          refine lv_istore_n (lv' := [(1, .int v2934), (3, .int r2881), (2, .int v2711), (0, .ref h0)]) hx hb dX10_grantedNow_87 rfl hl (by decide) rfl (fun ls hl => ?_)
          obtain ⟨v2936, e2937⟩ : ∃ y : Int32, y = v2711 + (1) := ⟨_, rfl⟩
          have tv2936 : v2936.toInt = v2711.toInt + (1) := iv_add rfl (by decide) e2937 (by omega) (by omega)
          refine lv_iinc (v := v2936) (lv' := [(2, .int v2936), (1, .int v2934), (3, .int r2881), (0, .ref h0)]) hx hb dX10_grantedNow_88 hl (k := 2) rfl (by rw [e2937]; rfl) (by decide) rfl (fun ls hl => ?_)
          refine lv_goto (tgt := 4) hx hb dX10_grantedNow_91 (by decide) ?_
          exact ih_4 _ (by omega) H locs ls v2936 v2934 rfl (lv_sub hl [0, 1, 3] rfl) ⟨by omega, by omega⟩ hI hS
  refine lv_iconst (v := 0) hx hb dX10_grantedNow_0 (by decide) ?_
  refine lv_istore_n (lv' := [(1, .int 0), (0, .ref h0)]) hx hb dX10_grantedNow_1 rfl hl (by decide) rfl (fun ls hl => ?_)
  refine lv_iconst (v := 0) hx hb dX10_grantedNow_2 (by decide) ?_
  refine lv_istore_n (lv' := [(2, .int 0), (1, .int 0), (0, .ref h0)]) hx hb dX10_grantedNow_3 rfl hl (by decide) rfl (fun ls hl => ?_)
  have zl : (0 : Int32).toInt = 0 := by decide
  exact J_4 _ s.heap [] ls 0 0 rfl (lv_sub hl [0, 1, 2] rfl) ⟨by decide, by decide⟩ hI hS
theorem dX10_findTurn_0g : (decode cX10_findTurn 0 = .ok (.aload_n 0, 1)) ∧ (decode cX10_findTurn 1 = .ok (.getfield 22, 3)) ∧ (decode cX10_findTurn 4 = .ok (.iload_n 3, 1)) ∧ (decode cX10_findTurn 5 = .ok (.invokevirtual 75, 3)) ∧ (decode cX10_findTurn 8 = .ok (.istore 4, 2)) ∧ (decode cX10_findTurn 10 = .ok (.iload 4, 2)) ∧ (decode cX10_findTurn 12 = .ok (.iconst 1, 1)) ∧ (decode cX10_findTurn 13 = .ok (.if_icmp .ne 7, 3)) ∧ (decode cX10_findTurn 16 = .ok (.iconst 0, 1)) ∧ (decode cX10_findTurn 17 = .ok (.goto 15, 3)) := by decide +kernel
theorem dX10_findTurn_0 : decode cX10_findTurn 0 = .ok (.aload_n 0, 1) := dX10_findTurn_0g.1
theorem dX10_findTurn_1 : decode cX10_findTurn 1 = .ok (.getfield 22, 3) := dX10_findTurn_0g.2.1
theorem dX10_findTurn_4 : decode cX10_findTurn 4 = .ok (.iload_n 3, 1) := dX10_findTurn_0g.2.2.1
theorem dX10_findTurn_5 : decode cX10_findTurn 5 = .ok (.invokevirtual 75, 3) := dX10_findTurn_0g.2.2.2.1
theorem dX10_findTurn_8 : decode cX10_findTurn 8 = .ok (.istore 4, 2) := dX10_findTurn_0g.2.2.2.2.1
theorem dX10_findTurn_10 : decode cX10_findTurn 10 = .ok (.iload 4, 2) := dX10_findTurn_0g.2.2.2.2.2.1
theorem dX10_findTurn_12 : decode cX10_findTurn 12 = .ok (.iconst 1, 1) := dX10_findTurn_0g.2.2.2.2.2.2.1
theorem dX10_findTurn_13 : decode cX10_findTurn 13 = .ok (.if_icmp .ne 7, 3) := dX10_findTurn_0g.2.2.2.2.2.2.2.1
theorem dX10_findTurn_16 : decode cX10_findTurn 16 = .ok (.iconst 0, 1) := dX10_findTurn_0g.2.2.2.2.2.2.2.2.1
theorem dX10_findTurn_17 : decode cX10_findTurn 17 = .ok (.goto 15, 3) := dX10_findTurn_0g.2.2.2.2.2.2.2.2.2
theorem dX10_findTurn_20g : (decode cX10_findTurn 20 = .ok (.aload_n 0, 1)) ∧ (decode cX10_findTurn 21 = .ok (.getfield 22, 3)) ∧ (decode cX10_findTurn 24 = .ok (.iconst 1, 1)) ∧ (decode cX10_findTurn 25 = .ok (.iload_n 1, 1)) ∧ (decode cX10_findTurn 26 = .ok (.isub, 1)) ∧ (decode cX10_findTurn 27 = .ok (.iload_n 2, 1)) ∧ (decode cX10_findTurn 28 = .ok (.iload_n 3, 1)) ∧ (decode cX10_findTurn 29 = .ok (.invokevirtual 79, 3)) ∧ (decode cX10_findTurn 32 = .ok (.istore 5, 2)) ∧ (decode cX10_findTurn 34 = .ok (.iload 4, 2)) := by decide +kernel
theorem dX10_findTurn_20 : decode cX10_findTurn 20 = .ok (.aload_n 0, 1) := dX10_findTurn_20g.1
theorem dX10_findTurn_21 : decode cX10_findTurn 21 = .ok (.getfield 22, 3) := dX10_findTurn_20g.2.1
theorem dX10_findTurn_24 : decode cX10_findTurn 24 = .ok (.iconst 1, 1) := dX10_findTurn_20g.2.2.1
theorem dX10_findTurn_25 : decode cX10_findTurn 25 = .ok (.iload_n 1, 1) := dX10_findTurn_20g.2.2.2.1
theorem dX10_findTurn_26 : decode cX10_findTurn 26 = .ok (.isub, 1) := dX10_findTurn_20g.2.2.2.2.1
theorem dX10_findTurn_27 : decode cX10_findTurn 27 = .ok (.iload_n 2, 1) := dX10_findTurn_20g.2.2.2.2.2.1
theorem dX10_findTurn_28 : decode cX10_findTurn 28 = .ok (.iload_n 3, 1) := dX10_findTurn_20g.2.2.2.2.2.2.1
theorem dX10_findTurn_29 : decode cX10_findTurn 29 = .ok (.invokevirtual 79, 3) := dX10_findTurn_20g.2.2.2.2.2.2.2.1
theorem dX10_findTurn_32 : decode cX10_findTurn 32 = .ok (.istore 5, 2) := dX10_findTurn_20g.2.2.2.2.2.2.2.2.1
theorem dX10_findTurn_34 : decode cX10_findTurn 34 = .ok (.iload 4, 2) := dX10_findTurn_20g.2.2.2.2.2.2.2.2.2
theorem dX10_findTurn_36g : (decode cX10_findTurn 36 = .ok (.iconst 1, 1)) ∧ (decode cX10_findTurn 37 = .ok (.if_icmp .ne 7, 3)) ∧ (decode cX10_findTurn 40 = .ok (.iconst 0, 1)) ∧ (decode cX10_findTurn 41 = .ok (.goto 12, 3)) ∧ (decode cX10_findTurn 44 = .ok (.aload_n 0, 1)) ∧ (decode cX10_findTurn 45 = .ok (.getfield 22, 3)) ∧ (decode cX10_findTurn 48 = .ok (.iload_n 1, 1)) ∧ (decode cX10_findTurn 49 = .ok (.iload_n 2, 1)) ∧ (decode cX10_findTurn 50 = .ok (.invokevirtual 82, 3)) ∧ (decode cX10_findTurn 53 = .ok (.istore 6, 2)) := by decide +kernel
theorem dX10_findTurn_36 : decode cX10_findTurn 36 = .ok (.iconst 1, 1) := dX10_findTurn_36g.1
theorem dX10_findTurn_37 : decode cX10_findTurn 37 = .ok (.if_icmp .ne 7, 3) := dX10_findTurn_36g.2.1
theorem dX10_findTurn_40 : decode cX10_findTurn 40 = .ok (.iconst 0, 1) := dX10_findTurn_36g.2.2.1
theorem dX10_findTurn_41 : decode cX10_findTurn 41 = .ok (.goto 12, 3) := dX10_findTurn_36g.2.2.2.1
theorem dX10_findTurn_44 : decode cX10_findTurn 44 = .ok (.aload_n 0, 1) := dX10_findTurn_36g.2.2.2.2.1
theorem dX10_findTurn_45 : decode cX10_findTurn 45 = .ok (.getfield 22, 3) := dX10_findTurn_36g.2.2.2.2.2.1
theorem dX10_findTurn_48 : decode cX10_findTurn 48 = .ok (.iload_n 1, 1) := dX10_findTurn_36g.2.2.2.2.2.2.1
theorem dX10_findTurn_49 : decode cX10_findTurn 49 = .ok (.iload_n 2, 1) := dX10_findTurn_36g.2.2.2.2.2.2.2.1
theorem dX10_findTurn_50 : decode cX10_findTurn 50 = .ok (.invokevirtual 82, 3) := dX10_findTurn_36g.2.2.2.2.2.2.2.2.1
theorem dX10_findTurn_53 : decode cX10_findTurn 53 = .ok (.istore 6, 2) := dX10_findTurn_36g.2.2.2.2.2.2.2.2.2
theorem dX10_findTurn_55g : (decode cX10_findTurn 55 = .ok (.aload_n 0, 1)) ∧ (decode cX10_findTurn 56 = .ok (.getfield 26, 3)) ∧ (decode cX10_findTurn 59 = .ok (.iload_n 2, 1)) ∧ (decode cX10_findTurn 60 = .ok (.iload_n 3, 1)) ∧ (decode cX10_findTurn 61 = .ok (.iload 4, 2)) ∧ (decode cX10_findTurn 63 = .ok (.iload 5, 2)) ∧ (decode cX10_findTurn 65 = .ok (.invokevirtual 85, 3)) ∧ (decode cX10_findTurn 68 = .ok (.istore 7, 2)) ∧ (decode cX10_findTurn 70 = .ok (.iload 6, 2)) ∧ (decode cX10_findTurn 72 = .ok (.ifCond .ne 8, 3)) := by decide +kernel
theorem dX10_findTurn_55 : decode cX10_findTurn 55 = .ok (.aload_n 0, 1) := dX10_findTurn_55g.1
theorem dX10_findTurn_56 : decode cX10_findTurn 56 = .ok (.getfield 26, 3) := dX10_findTurn_55g.2.1
theorem dX10_findTurn_59 : decode cX10_findTurn 59 = .ok (.iload_n 2, 1) := dX10_findTurn_55g.2.2.1
theorem dX10_findTurn_60 : decode cX10_findTurn 60 = .ok (.iload_n 3, 1) := dX10_findTurn_55g.2.2.2.1
theorem dX10_findTurn_61 : decode cX10_findTurn 61 = .ok (.iload 4, 2) := dX10_findTurn_55g.2.2.2.2.1
theorem dX10_findTurn_63 : decode cX10_findTurn 63 = .ok (.iload 5, 2) := dX10_findTurn_55g.2.2.2.2.2.1
theorem dX10_findTurn_65 : decode cX10_findTurn 65 = .ok (.invokevirtual 85, 3) := dX10_findTurn_55g.2.2.2.2.2.2.1
theorem dX10_findTurn_68 : decode cX10_findTurn 68 = .ok (.istore 7, 2) := dX10_findTurn_55g.2.2.2.2.2.2.2.1
theorem dX10_findTurn_70 : decode cX10_findTurn 70 = .ok (.iload 6, 2) := dX10_findTurn_55g.2.2.2.2.2.2.2.2.1
theorem dX10_findTurn_72 : decode cX10_findTurn 72 = .ok (.ifCond .ne 8, 3) := dX10_findTurn_55g.2.2.2.2.2.2.2.2.2
theorem dX10_findTurn_75g : (decode cX10_findTurn 75 = .ok (.iload 7, 2)) ∧ (decode cX10_findTurn 77 = .ok (.goto 19, 3)) ∧ (decode cX10_findTurn 80 = .ok (.aload_n 0, 1)) ∧ (decode cX10_findTurn 81 = .ok (.getfield 26, 3)) ∧ (decode cX10_findTurn 84 = .ok (.iload_n 2, 1)) ∧ (decode cX10_findTurn 85 = .ok (.iload_n 3, 1)) ∧ (decode cX10_findTurn 86 = .ok (.iload 4, 2)) ∧ (decode cX10_findTurn 88 = .ok (.iload 5, 2)) ∧ (decode cX10_findTurn 90 = .ok (.iload 6, 2)) ∧ (decode cX10_findTurn 92 = .ok (.iadd, 1)) := by decide +kernel
theorem dX10_findTurn_75 : decode cX10_findTurn 75 = .ok (.iload 7, 2) := dX10_findTurn_75g.1
theorem dX10_findTurn_77 : decode cX10_findTurn 77 = .ok (.goto 19, 3) := dX10_findTurn_75g.2.1
theorem dX10_findTurn_80 : decode cX10_findTurn 80 = .ok (.aload_n 0, 1) := dX10_findTurn_75g.2.2.1
theorem dX10_findTurn_81 : decode cX10_findTurn 81 = .ok (.getfield 26, 3) := dX10_findTurn_75g.2.2.2.1
theorem dX10_findTurn_84 : decode cX10_findTurn 84 = .ok (.iload_n 2, 1) := dX10_findTurn_75g.2.2.2.2.1
theorem dX10_findTurn_85 : decode cX10_findTurn 85 = .ok (.iload_n 3, 1) := dX10_findTurn_75g.2.2.2.2.2.1
theorem dX10_findTurn_86 : decode cX10_findTurn 86 = .ok (.iload 4, 2) := dX10_findTurn_75g.2.2.2.2.2.2.1
theorem dX10_findTurn_88 : decode cX10_findTurn 88 = .ok (.iload 5, 2) := dX10_findTurn_75g.2.2.2.2.2.2.2.1
theorem dX10_findTurn_90 : decode cX10_findTurn 90 = .ok (.iload 6, 2) := dX10_findTurn_75g.2.2.2.2.2.2.2.2.1
theorem dX10_findTurn_92 : decode cX10_findTurn 92 = .ok (.iadd, 1) := dX10_findTurn_75g.2.2.2.2.2.2.2.2.2
theorem dX10_findTurn_93g : (decode cX10_findTurn 93 = .ok (.invokevirtual 85, 3)) ∧ (decode cX10_findTurn 96 = .ok (.istore 8, 2)) ∧ (decode cX10_findTurn 98 = .ok (.sipush 1024, 3)) ∧ (decode cX10_findTurn 101 = .ok (.iload 8, 2)) ∧ (decode cX10_findTurn 103 = .ok (.iconst 5, 1)) ∧ (decode cX10_findTurn 104 = .ok (.ishl, 1)) ∧ (decode cX10_findTurn 105 = .ok (.ior, 1)) ∧ (decode cX10_findTurn 106 = .ok (.iload 7, 2)) ∧ (decode cX10_findTurn 108 = .ok (.ior, 1)) ∧ (decode cX10_findTurn 109 = .ok (.istore 9, 2)) := by decide +kernel
theorem dX10_findTurn_93 : decode cX10_findTurn 93 = .ok (.invokevirtual 85, 3) := dX10_findTurn_93g.1
theorem dX10_findTurn_96 : decode cX10_findTurn 96 = .ok (.istore 8, 2) := dX10_findTurn_93g.2.1
theorem dX10_findTurn_98 : decode cX10_findTurn 98 = .ok (.sipush 1024, 3) := dX10_findTurn_93g.2.2.1
theorem dX10_findTurn_101 : decode cX10_findTurn 101 = .ok (.iload 8, 2) := dX10_findTurn_93g.2.2.2.1
theorem dX10_findTurn_103 : decode cX10_findTurn 103 = .ok (.iconst 5, 1) := dX10_findTurn_93g.2.2.2.2.1
theorem dX10_findTurn_104 : decode cX10_findTurn 104 = .ok (.ishl, 1) := dX10_findTurn_93g.2.2.2.2.2.1
theorem dX10_findTurn_105 : decode cX10_findTurn 105 = .ok (.ior, 1) := dX10_findTurn_93g.2.2.2.2.2.2.1
theorem dX10_findTurn_106 : decode cX10_findTurn 106 = .ok (.iload 7, 2) := dX10_findTurn_93g.2.2.2.2.2.2.2.1
theorem dX10_findTurn_108 : decode cX10_findTurn 108 = .ok (.ior, 1) := dX10_findTurn_93g.2.2.2.2.2.2.2.2.1
theorem dX10_findTurn_109 : decode cX10_findTurn 109 = .ok (.istore 9, 2) := dX10_findTurn_93g.2.2.2.2.2.2.2.2.2
theorem dX10_findTurn_111g : (decode cX10_findTurn 111 = .ok (.iload_n 2, 1)) ∧ (decode cX10_findTurn 112 = .ok (.invokestatic 69, 3)) ∧ (decode cX10_findTurn 115 = .ok (.ifCond .eq 23, 3)) ∧ (decode cX10_findTurn 118 = .ok (.iload_n 3, 1)) ∧ (decode cX10_findTurn 119 = .ok (.invokestatic 65, 3)) ∧ (decode cX10_findTurn 122 = .ok (.ifCond .eq 16, 3)) ∧ (decode cX10_findTurn 125 = .ok (.aload_n 0, 1)) ∧ (decode cX10_findTurn 126 = .ok (.getfield 9, 3)) ∧ (decode cX10_findTurn 129 = .ok (.iload_n 3, 1)) ∧ (decode cX10_findTurn 130 = .ok (.bipush 24, 2)) := by decide +kernel
theorem dX10_findTurn_111 : decode cX10_findTurn 111 = .ok (.iload_n 2, 1) := dX10_findTurn_111g.1
theorem dX10_findTurn_112 : decode cX10_findTurn 112 = .ok (.invokestatic 69, 3) := dX10_findTurn_111g.2.1
theorem dX10_findTurn_115 : decode cX10_findTurn 115 = .ok (.ifCond .eq 23, 3) := dX10_findTurn_111g.2.2.1
theorem dX10_findTurn_118 : decode cX10_findTurn 118 = .ok (.iload_n 3, 1) := dX10_findTurn_111g.2.2.2.1
theorem dX10_findTurn_119 : decode cX10_findTurn 119 = .ok (.invokestatic 65, 3) := dX10_findTurn_111g.2.2.2.2.1
theorem dX10_findTurn_122 : decode cX10_findTurn 122 = .ok (.ifCond .eq 16, 3) := dX10_findTurn_111g.2.2.2.2.2.1
theorem dX10_findTurn_125 : decode cX10_findTurn 125 = .ok (.aload_n 0, 1) := dX10_findTurn_111g.2.2.2.2.2.2.1
theorem dX10_findTurn_126 : decode cX10_findTurn 126 = .ok (.getfield 9, 3) := dX10_findTurn_111g.2.2.2.2.2.2.2.1
theorem dX10_findTurn_129 : decode cX10_findTurn 129 = .ok (.iload_n 3, 1) := dX10_findTurn_111g.2.2.2.2.2.2.2.2.1
theorem dX10_findTurn_130 : decode cX10_findTurn 130 = .ok (.bipush 24, 2) := dX10_findTurn_111g.2.2.2.2.2.2.2.2.2
theorem dX10_findTurn_132g : (decode cX10_findTurn 132 = .ok (.imul, 1)) ∧ (decode cX10_findTurn 133 = .ok (.iload_n 2, 1)) ∧ (decode cX10_findTurn 134 = .ok (.iadd, 1)) ∧ (decode cX10_findTurn 135 = .ok (.iload 9, 2)) ∧ (decode cX10_findTurn 137 = .ok (.iastore, 1)) ∧ (decode cX10_findTurn 138 = .ok (.iload 9, 2)) ∧ (decode cX10_findTurn 140 = .ok (.ireturn, 1)) := by decide +kernel
theorem dX10_findTurn_132 : decode cX10_findTurn 132 = .ok (.imul, 1) := dX10_findTurn_132g.1
theorem dX10_findTurn_133 : decode cX10_findTurn 133 = .ok (.iload_n 2, 1) := dX10_findTurn_132g.2.1
theorem dX10_findTurn_134 : decode cX10_findTurn 134 = .ok (.iadd, 1) := dX10_findTurn_132g.2.2.1
theorem dX10_findTurn_135 : decode cX10_findTurn 135 = .ok (.iload 9, 2) := dX10_findTurn_132g.2.2.2.1
theorem dX10_findTurn_137 : decode cX10_findTurn 137 = .ok (.iastore, 1) := dX10_findTurn_132g.2.2.2.2.1
theorem dX10_findTurn_138 : decode cX10_findTurn 138 = .ok (.iload 9, 2) := dX10_findTurn_132g.2.2.2.2.2.1
theorem dX10_findTurn_140 : decode cX10_findTurn 140 = .ok (.ireturn, 1) := dX10_findTurn_132g.2.2.2.2.2.2
set_option maxHeartbeats 4000000 in
set_option maxRecDepth 100000 in
theorem c_X10_findTurn (l : Launch) (E : Nat → Nat) (D : va_G) (G : th_G) (h0 : Nat) (hG0 : G h0 = some (14, 0)) (x1 x2 x3 : Int32) : Met l yX10_findTurn (tb (.code yX10_findTurn cX10_findTurn 10 (some .int))) (rm 5) (va_Pc [.ref h0, .int x1, .int x2, .int x3] (th_P E D G)) (QI E D G (fun r => True)) 0 0 (th_A G) := by
  refine Met.ofW (cc := cX10_findTurn) (maxL := 10) (ret := (some .int)) (by decide) rfl ?_
  intro p e s m args below meth c s₁ B hml hv
  obtain ⟨hav, hI, hN, hK⟩ := hv
  have hx := B.exec
  have hb := B.bytes
  have hr := B.returns
  have hts := atoms_spec (ws := tb (.code yX10_findTurn cX10_findTurn 10 (some .int))) B.pre
  have hown : s.vm.findClass RX10 = some m.cls := findClass_of_methodNamed B.named
  have hlocks := B.notSynchronized
  have hS : va_S (th_A G) s.heap s.heap [] := va_S.rf
  have hl := lv_entry ([.ref h0, .int x1, .int x2, .int x3]) (n := 10) (Nat.le_of_ble_eq_true rfl)
  rw [show entryFrame m args 10 = entryFrame m ([.ref h0, .int x1, .int x2, .int x3] : List Value).toArray 10 from by rw [hav], lg_entry_eq]
  generalize (lg_sl ([.ref h0, .int x1, .int x2, .int x3]) ++ List.replicate (10 - (lg_sl ([.ref h0, .int x1, .int x2, .int x3])).length) Slot.unset).toArray = ls at hl ⊢
  have hl : lv_has ls 10 [(0, .ref h0), (1, .int x1), (2, .int x2), (3, .int x3)] := hl
  generalize hR : (headSpec (tb (.code yX10_findTurn cX10_findTurn 10 (some .int))) (rm 5)).room = R
  have hR := hR.symm
  generalize hQ : MQ below (QI E D G (fun r => True)) args s 0 0 (th_A G) = QF
  have hQ := hQ.symm
  have J_96 : ∀ (H : Heap) (locs : List Loc) (ls : Array Slot) (v985 : Int32) (v986 : Int32) (v987 : Int32) (v988 : Int32) (v989 : Int32), lv_has ls 10 [(7, .int v985), (6, .int v986), (5, .int v987), (4, .int v988), (0, .ref h0), (1, .int x1), (2, .int x2), (3, .int x3)] → th_I (okC E) D G [] H → va_S (th_A G) s.heap H locs → W p l e R s m args below meth c H locs 0 0 QF (F0 m 96 ls [.int v989]) := by
    intro H locs ls v985 v986 v987 v988 v989 hl  hI hS
    refine lv_istore (lv' := [(8, .int v989), (7, .int v985), (6, .int v986), (5, .int v987), (4, .int v988), (0, .ref h0), (1, .int x1), (2, .int x2), (3, .int x3)]) hx hb dX10_findTurn_96 hl (by decide) rfl (fun ls hl => ?_)
    refine lv_sipush (v := 1024) hx hb dX10_findTurn_98 (by decide) ?_
    refine lv_iload hx hb dX10_findTurn_101 (lv_at hl 0 rfl) ?_
    refine lv_iconst (v := 5) hx hb dX10_findTurn_103 (by decide) ?_
    refine lv_ishl hx hb dX10_findTurn_104 ?_
    refine lv_topi (fun v990 e991 => ?_)
    refine lv_ior hx hb dX10_findTurn_105 ?_
    refine lv_topi (fun v992 e993 => ?_)
    refine lv_iload hx hb dX10_findTurn_106 (lv_at hl 1 rfl) ?_
    refine lv_ior hx hb dX10_findTurn_108 ?_
    refine lv_topi (fun v994 e995 => ?_)
    refine lv_istore (lv' := [(9, .int v994), (8, .int v989), (7, .int v985), (6, .int v986), (5, .int v987), (4, .int v988), (0, .ref h0), (1, .int x1), (2, .int x2), (3, .int x3)]) hx hb dX10_findTurn_109 hl (by decide) rfl (fun ls hl => ?_)
    refine lv_iload_n hx hb dX10_findTurn_111 rfl (lv_at hl 8 rfl) ?_
    refine th_cSN (As := [.int x2]) (rest := []) (n := 1) (d := 0) ⟨hx, hb, hml, hown, hts⟩ (c_X11_isCell l H x2) wn_1155 wd_402 wd_1 wd_403 (by decide +kernel) ⟨by rw [hR]; exact Nat.le_of_ble_eq_true rfl, by rw [hR]; exact Nat.le_of_ble_eq_true rfl⟩ hN hS rfl hl.1 rfl (Nat.le_of_ble_eq_true rfl) dX10_findTurn_112 ⟨Nat.zero_le _, Nat.zero_le _⟩ (fun r996 locs hp hS => ?_)
    rcases hp with ⟨rfl, hp⟩ | ⟨rfl, hp⟩
    · skip
      try simp only [rg, not_and, Int.not_le] at hp
      have hp997 := hp
      refine lv_if_eq (tgt := 138) hx hb dX10_findTurn_115 (by decide) (fun c => absurd c (by decide)) (fun _ => ?_)
      refine lv_iload_n hx hb dX10_findTurn_118 rfl (lv_at hl 9 rfl) ?_
      refine th_cSN (As := [.int x3]) (rest := []) (n := 1) (d := 0) ⟨hx, hb, hml, hown, hts⟩ (c_X11_isHour l H x3) wn_1154 wd_467 wd_1 wd_468 (by decide +kernel) ⟨by rw [hR]; exact Nat.le_of_ble_eq_true rfl, by rw [hR]; exact Nat.le_of_ble_eq_true rfl⟩ hN hS rfl hl.1 rfl (Nat.le_of_ble_eq_true rfl) dX10_findTurn_119 ⟨Nat.zero_le _, Nat.zero_le _⟩ (fun r998 locs hp hS => ?_)
      rcases hp with ⟨rfl, hp⟩ | ⟨rfl, hp⟩
      · skip
        try simp only [rg, not_and, Int.not_le] at hp
        have hp999 := hp
        refine lv_if_eq (tgt := 138) hx hb dX10_findTurn_122 (by decide) (fun c => absurd c (by decide)) (fun _ => ?_)
        refine lv_aload_n hx hb dX10_findTurn_125 rfl (lv_at hl 6 rfl) ?_
        obtain ⟨a1000, a1002, a1004, a1006, a1008, w1010, hO, hq1001, hq1003, hq1005, hq1007, hq1009⟩ := op_14 hI hG0 List.not_mem_nil
        have hI := th_I.weak (a := h0) hI
        refine th_get hx hb hts inT10 hown hK hO rfl 3 (by decide) (hts _ (tb_c wd_329)) rfl rfl dX10_findTurn_126 ?_
        refine lv_iload_n hx hb dX10_findTurn_129 rfl (lv_at hl 9 rfl) ?_
        refine lv_bipush (v := 24) hx hb dX10_findTurn_130 (by decide) ?_
        refine lv_imul hx hb dX10_findTurn_132 ?_
        refine lv_topi (fun v1011 e1012 => ?_)
        have tv1011 : v1011.toInt = x3.toInt * (24) := iv_mul rfl (by decide) e1012 (by omega) (by omega)
        refine lv_iload_n hx hb dX10_findTurn_133 rfl (lv_at hl 8 rfl) ?_
        refine lv_iadd hx hb dX10_findTurn_134 ?_
        refine lv_topi (fun v1013 e1014 => ?_)
        have tv1013 : v1013.toInt = v1011.toInt + x2.toInt := iv_add rfl rfl e1014 (by omega) (by omega)
        refine lv_iload hx hb dX10_findTurn_135 (lv_at hl 0 rfl) ?_
        obtain ⟨_, hA1015⟩ := op_0 hI hq1007 (th_ne hG0 hq1007 (show (14 : Nat) ≠ 0 by decide))
        refine th_iast hx hb hK hA1015 0 rfl hS ⟨_, hq1007⟩ (iv_in (X := v1013.toInt) rfl (by omega) (by omega)) dX10_findTurn_137 (fun H locs hA1015 oq hS => ?_)
        have hI := th_I.put hI hq1007 hA1015 ok_0 oq
        have hO := hO.kept (oq _ (fun z => th_ne hG0 hq1007 (show (14 : Nat) ≠ 0 by decide) (List.mem_singleton.mpr z.symm)))
        refine lv_iload hx hb dX10_findTurn_138 (lv_at hl 0 rfl) ?_
        have hI := th_I.close hI hG0 hO (ok_14 hq1001 hq1003 hq1005 hq1007 hq1009)
        have hpost : True := trivial
        rw [hQ]
        exact W.iret (v := v994) hx hb hr (fun t ht hW => ⟨⟨v994, (), rfl, hpost, by rw [ht]; exact hI, hN.warm hW, va_K.moved hW.alike hK⟩, hS.F ht⟩) hS.2.2 dX10_findTurn_140
      · skip
        try simp only [rg, not_and, Int.not_le] at hp
        have hp1016 := hp
        refine lv_if_eq (tgt := 138) hx hb dX10_findTurn_122 (by decide) (fun _ => ?_) (fun c => absurd c (by decide))
        refine lv_iload hx hb dX10_findTurn_138 (lv_at hl 0 rfl) ?_
        have hpost : True := trivial
        rw [hQ]
        exact W.iret (v := v994) hx hb hr (fun t ht hW => ⟨⟨v994, (), rfl, hpost, by rw [ht]; exact hI, hN.warm hW, va_K.moved hW.alike hK⟩, hS.F ht⟩) hS.2.2 dX10_findTurn_140
    · skip
      try simp only [rg, not_and, Int.not_le] at hp
      have hp1017 := hp
      refine lv_if_eq (tgt := 138) hx hb dX10_findTurn_115 (by decide) (fun _ => ?_) (fun c => absurd c (by decide))
      refine lv_iload hx hb dX10_findTurn_138 (lv_at hl 0 rfl) ?_
      have hpost : True := trivial
      rw [hQ]
      exact W.iret (v := v994) hx hb hr (fun t ht hW => ⟨⟨v994, (), rfl, hpost, by rw [ht]; exact hI, hN.warm hW, va_K.moved hW.alike hK⟩, hS.F ht⟩) hS.2.2 dX10_findTurn_140
  have J_53 : ∀ (H : Heap) (locs : List Loc) (ls : Array Slot) (v1018 : Int32) (v1019 : Int32) (v1020 : Int32), lv_has ls 10 [(5, .int v1018), (4, .int v1019), (0, .ref h0), (1, .int x1), (2, .int x2), (3, .int x3)] → th_I (okC E) D G [] H → va_S (th_A G) s.heap H locs → W p l e R s m args below meth c H locs 0 0 QF (F0 m 53 ls [.int v1020]) := by
    intro H locs ls v1018 v1019 v1020 hl  hI hS
    refine lv_istore (lv' := [(6, .int v1020), (5, .int v1018), (4, .int v1019), (0, .ref h0), (1, .int x1), (2, .int x2), (3, .int x3)]) hx hb dX10_findTurn_53 hl (by decide) rfl (fun ls hl => ?_)
    refine lv_aload_n hx hb dX10_findTurn_55 rfl (lv_at hl 3 rfl) ?_
    obtain ⟨a1021, a1023, a1025, a1027, a1029, w1031, hO, hq1022, hq1024, hq1026, hq1028, hq1030⟩ := op_14 hI hG0 List.not_mem_nil
    have hI := th_I.weak (a := h0) hI
    refine th_get hx hb hts inT10 hown hK hO rfl 1 (by decide) (hts _ (tb_c wd_327)) rfl rfl dX10_findTurn_56 ?_
    refine lv_iload_n hx hb dX10_findTurn_59 rfl (lv_at hl 5 rfl) ?_
    refine lv_iload_n hx hb dX10_findTurn_60 rfl (lv_at hl 6 rfl) ?_
    refine lv_iload hx hb dX10_findTurn_61 (lv_at hl 2 rfl) ?_
    refine lv_iload hx hb dX10_findTurn_63 (lv_at hl 1 rfl) ?_
    have hI := th_I.close hI hG0 hO (ok_14 hq1022 hq1024 hq1026 hq1028 hq1030)
    refine th_cVi (As := [.int x2, .int x3, .int v1019, .int v1018]) (rest := []) (n := 4) (d := 4) ⟨hx, hb, hml, hown, hts⟩ (c_X7_stepBy l E D G a1023 hq1024 x2 x3 v1019 v1018) wd_1167 wd_1119 wd_1120 wd_6 wd_1121 (by decide +kernel) ⟨by rw [hR]; exact Nat.le_of_ble_eq_true rfl, by rw [hR]; exact Nat.le_of_ble_eq_true rfl⟩ hI hN hK hS (rc_9 hI hq1024 List.not_mem_nil) rfl rfl hl.1 rfl (Nat.le_of_ble_eq_true rfl) dX10_findTurn_65 ⟨Nat.zero_le _, Nat.zero_le _⟩ (fun r1032 H locs hp hI hS => ?_)
    refine lv_istore (lv' := [(7, .int r1032), (6, .int v1020), (5, .int v1018), (4, .int v1019), (0, .ref h0), (1, .int x1), (2, .int x2), (3, .int x3)]) hx hb dX10_findTurn_68 hl (by decide) rfl (fun ls hl => ?_)
    refine lv_iload hx hb dX10_findTurn_70 (lv_at hl 1 rfl) ?_
    have k1033 := iv_lo v1020
    have k1034 := iv_hi v1020
    refine lv_if_ne (tgt := 80) hx hb dX10_findTurn_72 (by decide) (fun c1035 => ?_) (fun c1035 => ?_)
    · skip
      have k1036 := iv_ne (X := v1020.toInt) (Y := (0)) rfl (by decide) c1035
      refine lv_aload_n hx hb dX10_findTurn_80 rfl (lv_at hl 4 rfl) ?_
      obtain ⟨a1037, a1039, a1041, a1043, a1045, w1047, hO, hq1038, hq1040, hq1042, hq1044, hq1046⟩ := op_14 hI hG0 List.not_mem_nil
      have hI := th_I.weak (a := h0) hI
      refine th_get hx hb hts inT10 hown hK hO rfl 1 (by decide) (hts _ (tb_c wd_327)) rfl rfl dX10_findTurn_81 ?_
      refine lv_iload_n hx hb dX10_findTurn_84 rfl (lv_at hl 6 rfl) ?_
      refine lv_iload_n hx hb dX10_findTurn_85 rfl (lv_at hl 7 rfl) ?_
      refine lv_iload hx hb dX10_findTurn_86 (lv_at hl 3 rfl) ?_
      refine lv_iload hx hb dX10_findTurn_88 (lv_at hl 2 rfl) ?_
      refine lv_iload hx hb dX10_findTurn_90 (lv_at hl 1 rfl) ?_
      refine lv_iadd hx hb dX10_findTurn_92 ?_
      refine lv_topi (fun v1048 e1049 => ?_)
      try have tv1048 : v1048.toInt = v1018.toInt + v1020.toInt := iv_add rfl rfl e1049 (by omega) (by omega)
      have hI := th_I.close hI hG0 hO (ok_14 hq1038 hq1040 hq1042 hq1044 hq1046)
      refine th_cVi (As := [.int x2, .int x3, .int v1019, .int v1048]) (rest := []) (n := 4) (d := 4) ⟨hx, hb, hml, hown, hts⟩ (c_X7_stepBy l E D G a1039 hq1040 x2 x3 v1019 v1048) wd_1167 wd_1119 wd_1120 wd_6 wd_1121 (by decide +kernel) ⟨by rw [hR]; exact Nat.le_of_ble_eq_true rfl, by rw [hR]; exact Nat.le_of_ble_eq_true rfl⟩ hI hN hK hS (rc_9 hI hq1040 List.not_mem_nil) rfl rfl hl.1 rfl (Nat.le_of_ble_eq_true rfl) dX10_findTurn_93 ⟨Nat.zero_le _, Nat.zero_le _⟩ (fun r1050 H locs hp hI hS => ?_)
      exact J_96 H locs ls r1032 v1020 v1018 v1019 r1050 (lv_sub hl [0, 1, 2, 3, 4, 5, 6, 7] rfl)  hI hS
    · skip
      have k1051 := iv_eq (X := v1020.toInt) (Y := (0)) rfl (by decide) c1035
      refine lv_iload hx hb dX10_findTurn_75 (lv_at hl 0 rfl) ?_
      refine lv_goto (tgt := 96) hx hb dX10_findTurn_77 (by decide) ?_
      exact J_96 H locs ls r1032 v1020 v1018 v1019 r1032 (lv_sub hl [0, 1, 2, 3, 4, 5, 6, 7] rfl)  hI hS
  have J_32 : ∀ (H : Heap) (locs : List Loc) (ls : Array Slot) (v1052 : Int32) (v1053 : Int32), lv_has ls 10 [(4, .int v1052), (0, .ref h0), (1, .int x1), (2, .int x2), (3, .int x3)] → th_I (okC E) D G [] H → va_S (th_A G) s.heap H locs → W p l e R s m args below meth c H locs 0 0 QF (F0 m 32 ls [.int v1053]) := by
    intro H locs ls v1052 v1053 hl  hI hS
    refine lv_istore (lv' := [(5, .int v1053), (4, .int v1052), (0, .ref h0), (1, .int x1), (2, .int x2), (3, .int x3)]) hx hb dX10_findTurn_32 hl (by decide) rfl (fun ls hl => ?_)
    refine lv_iload hx hb dX10_findTurn_34 (lv_at hl 1 rfl) ?_
    refine lv_iconst (v := 1) hx hb dX10_findTurn_36 (by decide) ?_
    have k1054 := iv_lo v1052
    have k1055 := iv_hi v1052
    refine lv_icmp_ne (tgt := 44) hx hb dX10_findTurn_37 (by decide) (fun c1056 => ?_) (fun c1056 => ?_)
    · skip
      have k1057 := iv_ne (X := v1052.toInt) (Y := (1)) rfl (by decide) c1056
      refine lv_aload_n hx hb dX10_findTurn_44 rfl (lv_at hl 2 rfl) ?_
      obtain ⟨a1058, a1060, a1062, a1064, a1066, w1068, hO, hq1059, hq1061, hq1063, hq1065, hq1067⟩ := op_14 hI hG0 List.not_mem_nil
      have hI := th_I.weak (a := h0) hI
      refine th_get hx hb hts inT10 hown hK hO rfl 0 (by decide) (hts _ (tb_c wd_326)) rfl rfl dX10_findTurn_45 ?_
      refine lv_iload_n hx hb dX10_findTurn_48 rfl (lv_at hl 3 rfl) ?_
      refine lv_iload_n hx hb dX10_findTurn_49 rfl (lv_at hl 4 rfl) ?_
      have hI := th_I.close hI hG0 hO (ok_14 hq1059 hq1061 hq1063 hq1065 hq1067)
      refine th_cVi (As := [.int x1, .int x2]) (rest := []) (n := 2) (d := 2) ⟨hx, hb, hml, hown, hts⟩ (c_X6_strengthAt l E D G a1058 hq1059 x1 x2) wd_1162 wd_1163 wd_1164 wd_2 wd_1165 (by decide +kernel) ⟨by rw [hR]; exact Nat.le_of_ble_eq_true rfl, by rw [hR]; exact Nat.le_of_ble_eq_true rfl⟩ hI hN hK hS (rc_6 hI hq1059 List.not_mem_nil) rfl rfl hl.1 rfl (Nat.le_of_ble_eq_true rfl) dX10_findTurn_50 ⟨Nat.zero_le _, Nat.zero_le _⟩ (fun r1069 H locs hp hI hS => ?_)
      exact J_53 H locs ls v1053 v1052 r1069 (lv_sub hl [0, 1, 2, 3, 4, 5] rfl)  hI hS
    · skip
      have k1070 := iv_eq (X := v1052.toInt) (Y := (1)) rfl (by decide) c1056
      refine lv_iconst (v := 0) hx hb dX10_findTurn_40 (by decide) ?_
      refine lv_goto (tgt := 53) hx hb dX10_findTurn_41 (by decide) ?_
      exact J_53 H locs ls v1053 v1052 0 (lv_sub hl [0, 1, 2, 3, 4, 5] rfl)  hI hS
  refine lv_aload_n hx hb dX10_findTurn_0 rfl (lv_at hl 0 rfl) ?_
  obtain ⟨a1071, a1073, a1075, a1077, a1079, w1081, hO, hq1072, hq1074, hq1076, hq1078, hq1080⟩ := op_14 hI hG0 List.not_mem_nil
  have hI := th_I.weak (a := h0) hI
  refine th_get hx hb hts inT10 hown hK hO rfl 0 (by decide) (hts _ (tb_c wd_326)) rfl rfl dX10_findTurn_1 ?_
  refine lv_iload_n hx hb dX10_findTurn_4 rfl (lv_at hl 3 rfl) ?_
  have hI := th_I.close hI hG0 hO (ok_14 hq1072 hq1074 hq1076 hq1078 hq1080)
  refine th_cVi (As := [.int x3]) (rest := []) (n := 1) (d := 1) ⟨hx, hb, hml, hown, hts⟩ (c_X6_strikeIn l E D G a1071 hq1072 x3) wd_1160 wd_546 wd_547 wd_2 wd_548 (by decide +kernel) ⟨by rw [hR]; exact Nat.le_of_ble_eq_true rfl, by rw [hR]; exact Nat.le_of_ble_eq_true rfl⟩ hI hN hK hS (rc_6 hI hq1072 List.not_mem_nil) rfl rfl hl.1 rfl (Nat.le_of_ble_eq_true rfl) dX10_findTurn_5 ⟨Nat.zero_le _, Nat.zero_le _⟩ (fun r1082 H locs hp hI hS => ?_)
  refine lv_istore (lv' := [(4, .int r1082), (0, .ref h0), (1, .int x1), (2, .int x2), (3, .int x3)]) hx hb dX10_findTurn_8 hl (by decide) rfl (fun ls hl => ?_)
  refine lv_iload hx hb dX10_findTurn_10 (lv_at hl 0 rfl) ?_
  refine lv_iconst (v := 1) hx hb dX10_findTurn_12 (by decide) ?_
  have k1083 := iv_lo r1082
  have k1084 := iv_hi r1082
  refine lv_icmp_ne (tgt := 20) hx hb dX10_findTurn_13 (by decide) (fun c1085 => ?_) (fun c1085 => ?_)
  · skip
    have k1086 := iv_ne (X := r1082.toInt) (Y := (1)) rfl (by decide) c1085
    refine lv_aload_n hx hb dX10_findTurn_20 rfl (lv_at hl 1 rfl) ?_
    obtain ⟨a1087, a1089, a1091, a1093, a1095, w1097, hO, hq1088, hq1090, hq1092, hq1094, hq1096⟩ := op_14 hI hG0 List.not_mem_nil
    have hI := th_I.weak (a := h0) hI
    refine th_get hx hb hts inT10 hown hK hO rfl 0 (by decide) (hts _ (tb_c wd_326)) rfl rfl dX10_findTurn_21 ?_
    refine lv_iconst (v := 1) hx hb dX10_findTurn_24 (by decide) ?_
    refine lv_iload_n hx hb dX10_findTurn_25 rfl (lv_at hl 2 rfl) ?_
    refine lv_isub hx hb dX10_findTurn_26 ?_
    refine lv_topi (fun v1098 e1099 => ?_)
    try have tv1098 : v1098.toInt = (1) - x1.toInt := iv_sub (by decide) rfl e1099 (by omega) (by omega)
    refine lv_iload_n hx hb dX10_findTurn_27 rfl (lv_at hl 3 rfl) ?_
    refine lv_iload_n hx hb dX10_findTurn_28 rfl (lv_at hl 4 rfl) ?_
    have hI := th_I.close hI hG0 hO (ok_14 hq1088 hq1090 hq1092 hq1094 hq1096)
    refine th_cVi (As := [.int v1098, .int x2, .int x3]) (rest := []) (n := 3) (d := 0) ⟨hx, hb, hml, hown, hts⟩ (c_X6_pumpedBy l E D G a1087 hq1088 v1098 x2 x3) wd_1161 wd_555 wd_556 wd_2 wd_557 (by decide +kernel) ⟨by rw [hR]; exact Nat.le_of_ble_eq_true rfl, by rw [hR]; exact Nat.le_of_ble_eq_true rfl⟩ hI hN hK hS (rc_6 hI hq1088 List.not_mem_nil) rfl rfl hl.1 rfl (Nat.le_of_ble_eq_true rfl) dX10_findTurn_29 ⟨Nat.zero_le _, Nat.zero_le _⟩ (fun r1100 H locs hp hI hS => ?_)
    exact J_32 H locs ls r1082 r1100 (lv_sub hl [0, 1, 2, 3, 4] rfl)  hI hS
  · skip
    have k1101 := iv_eq (X := r1082.toInt) (Y := (1)) rfl (by decide) c1085
    refine lv_iconst (v := 0) hx hb dX10_findTurn_16 (by decide) ?_
    refine lv_goto (tgt := 32) hx hb dX10_findTurn_17 (by decide) ?_
    exact J_32 H locs ls r1082 0 (lv_sub hl [0, 1, 2, 3, 4] rfl)  hI hS
theorem dX10_tryClocks_0g : (decode cX10_tryClocks 0 = .ok (.iconst 0, 1)) ∧ (decode cX10_tryClocks 1 = .ok (.istore 4, 2)) ∧ (decode cX10_tryClocks 3 = .ok (.iconst 0, 1)) ∧ (decode cX10_tryClocks 4 = .ok (.istore 5, 2)) ∧ (decode cX10_tryClocks 6 = .ok (.iload 5, 2)) ∧ (decode cX10_tryClocks 8 = .ok (.aload_n 0, 1)) ∧ (decode cX10_tryClocks 9 = .ok (.getfield 22, 3)) ∧ (decode cX10_tryClocks 12 = .ok (.getfield 34, 3)) ∧ (decode cX10_tryClocks 15 = .ok (.invokevirtual 40, 3)) ∧ (decode cX10_tryClocks 18 = .ok (.if_icmp .ge 190, 3)) := by decide +kernel
theorem dX10_tryClocks_0 : decode cX10_tryClocks 0 = .ok (.iconst 0, 1) := dX10_tryClocks_0g.1
theorem dX10_tryClocks_1 : decode cX10_tryClocks 1 = .ok (.istore 4, 2) := dX10_tryClocks_0g.2.1
theorem dX10_tryClocks_3 : decode cX10_tryClocks 3 = .ok (.iconst 0, 1) := dX10_tryClocks_0g.2.2.1
theorem dX10_tryClocks_4 : decode cX10_tryClocks 4 = .ok (.istore 5, 2) := dX10_tryClocks_0g.2.2.2.1
theorem dX10_tryClocks_6 : decode cX10_tryClocks 6 = .ok (.iload 5, 2) := dX10_tryClocks_0g.2.2.2.2.1
theorem dX10_tryClocks_8 : decode cX10_tryClocks 8 = .ok (.aload_n 0, 1) := dX10_tryClocks_0g.2.2.2.2.2.1
theorem dX10_tryClocks_9 : decode cX10_tryClocks 9 = .ok (.getfield 22, 3) := dX10_tryClocks_0g.2.2.2.2.2.2.1
theorem dX10_tryClocks_12 : decode cX10_tryClocks 12 = .ok (.getfield 34, 3) := dX10_tryClocks_0g.2.2.2.2.2.2.2.1
theorem dX10_tryClocks_15 : decode cX10_tryClocks 15 = .ok (.invokevirtual 40, 3) := dX10_tryClocks_0g.2.2.2.2.2.2.2.2.1
theorem dX10_tryClocks_18 : decode cX10_tryClocks 18 = .ok (.if_icmp .ge 190, 3) := dX10_tryClocks_0g.2.2.2.2.2.2.2.2.2
theorem dX10_tryClocks_21g : (decode cX10_tryClocks 21 = .ok (.aload_n 0, 1)) ∧ (decode cX10_tryClocks 22 = .ok (.getfield 22, 3)) ∧ (decode cX10_tryClocks 25 = .ok (.getfield 34, 3)) ∧ (decode cX10_tryClocks 28 = .ok (.iload 5, 2)) ∧ (decode cX10_tryClocks 30 = .ok (.iconst 0, 1)) ∧ (decode cX10_tryClocks 31 = .ok (.invokevirtual 46, 3)) ∧ (decode cX10_tryClocks 34 = .ok (.istore 6, 2)) ∧ (decode cX10_tryClocks 36 = .ok (.aload_n 0, 1)) ∧ (decode cX10_tryClocks 37 = .ok (.getfield 22, 3)) ∧ (decode cX10_tryClocks 40 = .ok (.getfield 34, 3)) := by decide +kernel
theorem dX10_tryClocks_21 : decode cX10_tryClocks 21 = .ok (.aload_n 0, 1) := dX10_tryClocks_21g.1
theorem dX10_tryClocks_22 : decode cX10_tryClocks 22 = .ok (.getfield 22, 3) := dX10_tryClocks_21g.2.1
theorem dX10_tryClocks_25 : decode cX10_tryClocks 25 = .ok (.getfield 34, 3) := dX10_tryClocks_21g.2.2.1
theorem dX10_tryClocks_28 : decode cX10_tryClocks 28 = .ok (.iload 5, 2) := dX10_tryClocks_21g.2.2.2.1
theorem dX10_tryClocks_30 : decode cX10_tryClocks 30 = .ok (.iconst 0, 1) := dX10_tryClocks_21g.2.2.2.2.1
theorem dX10_tryClocks_31 : decode cX10_tryClocks 31 = .ok (.invokevirtual 46, 3) := dX10_tryClocks_21g.2.2.2.2.2.1
theorem dX10_tryClocks_34 : decode cX10_tryClocks 34 = .ok (.istore 6, 2) := dX10_tryClocks_21g.2.2.2.2.2.2.1
theorem dX10_tryClocks_36 : decode cX10_tryClocks 36 = .ok (.aload_n 0, 1) := dX10_tryClocks_21g.2.2.2.2.2.2.2.1
theorem dX10_tryClocks_37 : decode cX10_tryClocks 37 = .ok (.getfield 22, 3) := dX10_tryClocks_21g.2.2.2.2.2.2.2.2.1
theorem dX10_tryClocks_40 : decode cX10_tryClocks 40 = .ok (.getfield 34, 3) := dX10_tryClocks_21g.2.2.2.2.2.2.2.2.2
theorem dX10_tryClocks_43g : (decode cX10_tryClocks 43 = .ok (.iload 5, 2)) ∧ (decode cX10_tryClocks 45 = .ok (.iconst 3, 1)) ∧ (decode cX10_tryClocks 46 = .ok (.invokevirtual 46, 3)) ∧ (decode cX10_tryClocks 49 = .ok (.istore 7, 2)) ∧ (decode cX10_tryClocks 51 = .ok (.aload_n 0, 1)) ∧ (decode cX10_tryClocks 52 = .ok (.getfield 22, 3)) ∧ (decode cX10_tryClocks 55 = .ok (.getfield 34, 3)) ∧ (decode cX10_tryClocks 58 = .ok (.iload 5, 2)) ∧ (decode cX10_tryClocks 60 = .ok (.iconst 1, 1)) ∧ (decode cX10_tryClocks 61 = .ok (.invokevirtual 46, 3)) := by decide +kernel
theorem dX10_tryClocks_43 : decode cX10_tryClocks 43 = .ok (.iload 5, 2) := dX10_tryClocks_43g.1
theorem dX10_tryClocks_45 : decode cX10_tryClocks 45 = .ok (.iconst 3, 1) := dX10_tryClocks_43g.2.1
theorem dX10_tryClocks_46 : decode cX10_tryClocks 46 = .ok (.invokevirtual 46, 3) := dX10_tryClocks_43g.2.2.1
theorem dX10_tryClocks_49 : decode cX10_tryClocks 49 = .ok (.istore 7, 2) := dX10_tryClocks_43g.2.2.2.1
theorem dX10_tryClocks_51 : decode cX10_tryClocks 51 = .ok (.aload_n 0, 1) := dX10_tryClocks_43g.2.2.2.2.1
theorem dX10_tryClocks_52 : decode cX10_tryClocks 52 = .ok (.getfield 22, 3) := dX10_tryClocks_43g.2.2.2.2.2.1
theorem dX10_tryClocks_55 : decode cX10_tryClocks 55 = .ok (.getfield 34, 3) := dX10_tryClocks_43g.2.2.2.2.2.2.1
theorem dX10_tryClocks_58 : decode cX10_tryClocks 58 = .ok (.iload 5, 2) := dX10_tryClocks_43g.2.2.2.2.2.2.2.1
theorem dX10_tryClocks_60 : decode cX10_tryClocks 60 = .ok (.iconst 1, 1) := dX10_tryClocks_43g.2.2.2.2.2.2.2.2.1
theorem dX10_tryClocks_61 : decode cX10_tryClocks 61 = .ok (.invokevirtual 46, 3) := dX10_tryClocks_43g.2.2.2.2.2.2.2.2.2
theorem dX10_tryClocks_64g : (decode cX10_tryClocks 64 = .ok (.istore 8, 2)) ∧ (decode cX10_tryClocks 66 = .ok (.iload 8, 2)) ∧ (decode cX10_tryClocks 68 = .ok (.iload 7, 2)) ∧ (decode cX10_tryClocks 70 = .ok (.if_icmp .ge 104, 3)) ∧ (decode cX10_tryClocks 73 = .ok (.iload 8, 2)) ∧ (decode cX10_tryClocks 75 = .ok (.invokestatic 65, 3)) ∧ (decode cX10_tryClocks 78 = .ok (.ifCond .eq 96, 3)) ∧ (decode cX10_tryClocks 81 = .ok (.iload 6, 2)) ∧ (decode cX10_tryClocks 83 = .ok (.invokestatic 69, 3)) ∧ (decode cX10_tryClocks 86 = .ok (.ifCond .eq 88, 3)) := by decide +kernel
theorem dX10_tryClocks_64 : decode cX10_tryClocks 64 = .ok (.istore 8, 2) := dX10_tryClocks_64g.1
theorem dX10_tryClocks_66 : decode cX10_tryClocks 66 = .ok (.iload 8, 2) := dX10_tryClocks_64g.2.1
theorem dX10_tryClocks_68 : decode cX10_tryClocks 68 = .ok (.iload 7, 2) := dX10_tryClocks_64g.2.2.1
theorem dX10_tryClocks_70 : decode cX10_tryClocks 70 = .ok (.if_icmp .ge 104, 3) := dX10_tryClocks_64g.2.2.2.1
theorem dX10_tryClocks_73 : decode cX10_tryClocks 73 = .ok (.iload 8, 2) := dX10_tryClocks_64g.2.2.2.2.1
theorem dX10_tryClocks_75 : decode cX10_tryClocks 75 = .ok (.invokestatic 65, 3) := dX10_tryClocks_64g.2.2.2.2.2.1
theorem dX10_tryClocks_78 : decode cX10_tryClocks 78 = .ok (.ifCond .eq 96, 3) := dX10_tryClocks_64g.2.2.2.2.2.2.1
theorem dX10_tryClocks_81 : decode cX10_tryClocks 81 = .ok (.iload 6, 2) := dX10_tryClocks_64g.2.2.2.2.2.2.2.1
theorem dX10_tryClocks_83 : decode cX10_tryClocks 83 = .ok (.invokestatic 69, 3) := dX10_tryClocks_64g.2.2.2.2.2.2.2.2.1
theorem dX10_tryClocks_86 : decode cX10_tryClocks 86 = .ok (.ifCond .eq 88, 3) := dX10_tryClocks_64g.2.2.2.2.2.2.2.2.2
theorem dX10_tryClocks_89g : (decode cX10_tryClocks 89 = .ok (.aload_n 0, 1)) ∧ (decode cX10_tryClocks 90 = .ok (.getfield 9, 3)) ∧ (decode cX10_tryClocks 93 = .ok (.iload 8, 2)) ∧ (decode cX10_tryClocks 95 = .ok (.bipush 24, 2)) ∧ (decode cX10_tryClocks 97 = .ok (.imul, 1)) ∧ (decode cX10_tryClocks 98 = .ok (.iload 6, 2)) ∧ (decode cX10_tryClocks 100 = .ok (.iadd, 1)) ∧ (decode cX10_tryClocks 101 = .ok (.iaload, 1)) ∧ (decode cX10_tryClocks 102 = .ok (.istore 9, 2)) ∧ (decode cX10_tryClocks 104 = .ok (.iload 9, 2)) := by decide +kernel
theorem dX10_tryClocks_89 : decode cX10_tryClocks 89 = .ok (.aload_n 0, 1) := dX10_tryClocks_89g.1
theorem dX10_tryClocks_90 : decode cX10_tryClocks 90 = .ok (.getfield 9, 3) := dX10_tryClocks_89g.2.1
theorem dX10_tryClocks_93 : decode cX10_tryClocks 93 = .ok (.iload 8, 2) := dX10_tryClocks_89g.2.2.1
theorem dX10_tryClocks_95 : decode cX10_tryClocks 95 = .ok (.bipush 24, 2) := dX10_tryClocks_89g.2.2.2.1
theorem dX10_tryClocks_97 : decode cX10_tryClocks 97 = .ok (.imul, 1) := dX10_tryClocks_89g.2.2.2.2.1
theorem dX10_tryClocks_98 : decode cX10_tryClocks 98 = .ok (.iload 6, 2) := dX10_tryClocks_89g.2.2.2.2.2.1
theorem dX10_tryClocks_100 : decode cX10_tryClocks 100 = .ok (.iadd, 1) := dX10_tryClocks_89g.2.2.2.2.2.2.1
theorem dX10_tryClocks_101 : decode cX10_tryClocks 101 = .ok (.iaload, 1) := dX10_tryClocks_89g.2.2.2.2.2.2.2.1
theorem dX10_tryClocks_102 : decode cX10_tryClocks 102 = .ok (.istore 9, 2) := dX10_tryClocks_89g.2.2.2.2.2.2.2.2.1
theorem dX10_tryClocks_104 : decode cX10_tryClocks 104 = .ok (.iload 9, 2) := dX10_tryClocks_89g.2.2.2.2.2.2.2.2.2
theorem dX10_tryClocks_106g : (decode cX10_tryClocks 106 = .ok (.ifCond .ne 15, 3)) ∧ (decode cX10_tryClocks 109 = .ok (.aload_n 0, 1)) ∧ (decode cX10_tryClocks 110 = .ok (.iload_n 1, 1)) ∧ (decode cX10_tryClocks 111 = .ok (.iload 6, 2)) ∧ (decode cX10_tryClocks 113 = .ok (.iload 8, 2)) ∧ (decode cX10_tryClocks 115 = .ok (.invokevirtual 72, 3)) ∧ (decode cX10_tryClocks 118 = .ok (.goto 5, 3)) ∧ (decode cX10_tryClocks 121 = .ok (.iload 9, 2)) ∧ (decode cX10_tryClocks 123 = .ok (.istore 10, 2)) ∧ (decode cX10_tryClocks 125 = .ok (.iload 8, 2)) := by decide +kernel
theorem dX10_tryClocks_106 : decode cX10_tryClocks 106 = .ok (.ifCond .ne 15, 3) := dX10_tryClocks_106g.1
theorem dX10_tryClocks_109 : decode cX10_tryClocks 109 = .ok (.aload_n 0, 1) := dX10_tryClocks_106g.2.1
theorem dX10_tryClocks_110 : decode cX10_tryClocks 110 = .ok (.iload_n 1, 1) := dX10_tryClocks_106g.2.2.1
theorem dX10_tryClocks_111 : decode cX10_tryClocks 111 = .ok (.iload 6, 2) := dX10_tryClocks_106g.2.2.2.1
theorem dX10_tryClocks_113 : decode cX10_tryClocks 113 = .ok (.iload 8, 2) := dX10_tryClocks_106g.2.2.2.2.1
theorem dX10_tryClocks_115 : decode cX10_tryClocks 115 = .ok (.invokevirtual 72, 3) := dX10_tryClocks_106g.2.2.2.2.2.1
theorem dX10_tryClocks_118 : decode cX10_tryClocks 118 = .ok (.goto 5, 3) := dX10_tryClocks_106g.2.2.2.2.2.2.1
theorem dX10_tryClocks_121 : decode cX10_tryClocks 121 = .ok (.iload 9, 2) := dX10_tryClocks_106g.2.2.2.2.2.2.2.1
theorem dX10_tryClocks_123 : decode cX10_tryClocks 123 = .ok (.istore 10, 2) := dX10_tryClocks_106g.2.2.2.2.2.2.2.2.1
theorem dX10_tryClocks_125 : decode cX10_tryClocks 125 = .ok (.iload 8, 2) := dX10_tryClocks_106g.2.2.2.2.2.2.2.2.2
theorem dX10_tryClocks_127g : (decode cX10_tryClocks 127 = .ok (.bipush 24, 2)) ∧ (decode cX10_tryClocks 129 = .ok (.irem, 1)) ∧ (decode cX10_tryClocks 130 = .ok (.iload_n 2, 1)) ∧ (decode cX10_tryClocks 131 = .ok (.isub, 1)) ∧ (decode cX10_tryClocks 132 = .ok (.bipush 24, 2)) ∧ (decode cX10_tryClocks 134 = .ok (.iadd, 1)) ∧ (decode cX10_tryClocks 135 = .ok (.bipush 24, 2)) ∧ (decode cX10_tryClocks 137 = .ok (.irem, 1)) ∧ (decode cX10_tryClocks 138 = .ok (.iload_n 3, 1)) ∧ (decode cX10_tryClocks 139 = .ok (.if_icmp .ge 7, 3)) := by decide +kernel
theorem dX10_tryClocks_127 : decode cX10_tryClocks 127 = .ok (.bipush 24, 2) := dX10_tryClocks_127g.1
theorem dX10_tryClocks_129 : decode cX10_tryClocks 129 = .ok (.irem, 1) := dX10_tryClocks_127g.2.1
theorem dX10_tryClocks_130 : decode cX10_tryClocks 130 = .ok (.iload_n 2, 1) := dX10_tryClocks_127g.2.2.1
theorem dX10_tryClocks_131 : decode cX10_tryClocks 131 = .ok (.isub, 1) := dX10_tryClocks_127g.2.2.2.1
theorem dX10_tryClocks_132 : decode cX10_tryClocks 132 = .ok (.bipush 24, 2) := dX10_tryClocks_127g.2.2.2.2.1
theorem dX10_tryClocks_134 : decode cX10_tryClocks 134 = .ok (.iadd, 1) := dX10_tryClocks_127g.2.2.2.2.2.1
theorem dX10_tryClocks_135 : decode cX10_tryClocks 135 = .ok (.bipush 24, 2) := dX10_tryClocks_127g.2.2.2.2.2.2.1
theorem dX10_tryClocks_137 : decode cX10_tryClocks 137 = .ok (.irem, 1) := dX10_tryClocks_127g.2.2.2.2.2.2.2.1
theorem dX10_tryClocks_138 : decode cX10_tryClocks 138 = .ok (.iload_n 3, 1) := dX10_tryClocks_127g.2.2.2.2.2.2.2.2.1
theorem dX10_tryClocks_139 : decode cX10_tryClocks 139 = .ok (.if_icmp .ge 7, 3) := dX10_tryClocks_127g.2.2.2.2.2.2.2.2.2
theorem dX10_tryClocks_142g : (decode cX10_tryClocks 142 = .ok (.iconst 1, 1)) ∧ (decode cX10_tryClocks 143 = .ok (.goto 4, 3)) ∧ (decode cX10_tryClocks 146 = .ok (.iconst 0, 1)) ∧ (decode cX10_tryClocks 147 = .ok (.istore 11, 2)) ∧ (decode cX10_tryClocks 149 = .ok (.iload 11, 2)) ∧ (decode cX10_tryClocks 151 = .ok (.ifCond .eq 10, 3)) ∧ (decode cX10_tryClocks 154 = .ok (.iload 10, 2)) ∧ (decode cX10_tryClocks 156 = .ok (.iconst 5, 1)) ∧ (decode cX10_tryClocks 157 = .ok (.ishr, 1)) ∧ (decode cX10_tryClocks 158 = .ok (.goto 5, 3)) := by decide +kernel
theorem dX10_tryClocks_142 : decode cX10_tryClocks 142 = .ok (.iconst 1, 1) := dX10_tryClocks_142g.1
theorem dX10_tryClocks_143 : decode cX10_tryClocks 143 = .ok (.goto 4, 3) := dX10_tryClocks_142g.2.1
theorem dX10_tryClocks_146 : decode cX10_tryClocks 146 = .ok (.iconst 0, 1) := dX10_tryClocks_142g.2.2.1
theorem dX10_tryClocks_147 : decode cX10_tryClocks 147 = .ok (.istore 11, 2) := dX10_tryClocks_142g.2.2.2.1
theorem dX10_tryClocks_149 : decode cX10_tryClocks 149 = .ok (.iload 11, 2) := dX10_tryClocks_142g.2.2.2.2.1
theorem dX10_tryClocks_151 : decode cX10_tryClocks 151 = .ok (.ifCond .eq 10, 3) := dX10_tryClocks_142g.2.2.2.2.2.1
theorem dX10_tryClocks_154 : decode cX10_tryClocks 154 = .ok (.iload 10, 2) := dX10_tryClocks_142g.2.2.2.2.2.2.1
theorem dX10_tryClocks_156 : decode cX10_tryClocks 156 = .ok (.iconst 5, 1) := dX10_tryClocks_142g.2.2.2.2.2.2.2.1
theorem dX10_tryClocks_157 : decode cX10_tryClocks 157 = .ok (.ishr, 1) := dX10_tryClocks_142g.2.2.2.2.2.2.2.2.1
theorem dX10_tryClocks_158 : decode cX10_tryClocks 158 = .ok (.goto 5, 3) := dX10_tryClocks_142g.2.2.2.2.2.2.2.2.2
theorem dX10_tryClocks_161g : (decode cX10_tryClocks 161 = .ok (.iload 10, 2)) ∧ (decode cX10_tryClocks 163 = .ok (.bipush 31, 2)) ∧ (decode cX10_tryClocks 165 = .ok (.iand, 1)) ∧ (decode cX10_tryClocks 166 = .ok (.istore 6, 2)) ∧ (decode cX10_tryClocks 168 = .ok (.iinc 8 1, 3)) ∧ (decode cX10_tryClocks 171 = .ok (.goto (-105), 3)) ∧ (decode cX10_tryClocks 174 = .ok (.iload 4, 2)) ∧ (decode cX10_tryClocks 176 = .ok (.iload 6, 2)) ∧ (decode cX10_tryClocks 178 = .ok (.aload_n 0, 1)) ∧ (decode cX10_tryClocks 179 = .ok (.getfield 22, 3)) := by decide +kernel
theorem dX10_tryClocks_161 : decode cX10_tryClocks 161 = .ok (.iload 10, 2) := dX10_tryClocks_161g.1
theorem dX10_tryClocks_163 : decode cX10_tryClocks 163 = .ok (.bipush 31, 2) := dX10_tryClocks_161g.2.1
theorem dX10_tryClocks_165 : decode cX10_tryClocks 165 = .ok (.iand, 1) := dX10_tryClocks_161g.2.2.1
theorem dX10_tryClocks_166 : decode cX10_tryClocks 166 = .ok (.istore 6, 2) := dX10_tryClocks_161g.2.2.2.1
theorem dX10_tryClocks_168 : decode cX10_tryClocks 168 = .ok (.iinc 8 1, 3) := dX10_tryClocks_161g.2.2.2.2.1
theorem dX10_tryClocks_171 : decode cX10_tryClocks 171 = .ok (.goto (-105), 3) := dX10_tryClocks_161g.2.2.2.2.2.1
theorem dX10_tryClocks_174 : decode cX10_tryClocks 174 = .ok (.iload 4, 2) := dX10_tryClocks_161g.2.2.2.2.2.2.1
theorem dX10_tryClocks_176 : decode cX10_tryClocks 176 = .ok (.iload 6, 2) := dX10_tryClocks_161g.2.2.2.2.2.2.2.1
theorem dX10_tryClocks_178 : decode cX10_tryClocks 178 = .ok (.aload_n 0, 1) := dX10_tryClocks_161g.2.2.2.2.2.2.2.2.1
theorem dX10_tryClocks_179 : decode cX10_tryClocks 179 = .ok (.getfield 22, 3) := dX10_tryClocks_161g.2.2.2.2.2.2.2.2.2
theorem dX10_tryClocks_182g : (decode cX10_tryClocks 182 = .ok (.getfield 34, 3)) ∧ (decode cX10_tryClocks 185 = .ok (.iload 5, 2)) ∧ (decode cX10_tryClocks 187 = .ok (.iconst 2, 1)) ∧ (decode cX10_tryClocks 188 = .ok (.invokevirtual 46, 3)) ∧ (decode cX10_tryClocks 191 = .ok (.if_icmp .ne 7, 3)) ∧ (decode cX10_tryClocks 194 = .ok (.iconst 1, 1)) ∧ (decode cX10_tryClocks 195 = .ok (.goto 4, 3)) ∧ (decode cX10_tryClocks 198 = .ok (.iconst 0, 1)) ∧ (decode cX10_tryClocks 199 = .ok (.iadd, 1)) ∧ (decode cX10_tryClocks 200 = .ok (.istore 4, 2)) := by decide +kernel
theorem dX10_tryClocks_182 : decode cX10_tryClocks 182 = .ok (.getfield 34, 3) := dX10_tryClocks_182g.1
theorem dX10_tryClocks_185 : decode cX10_tryClocks 185 = .ok (.iload 5, 2) := dX10_tryClocks_182g.2.1
theorem dX10_tryClocks_187 : decode cX10_tryClocks 187 = .ok (.iconst 2, 1) := dX10_tryClocks_182g.2.2.1
theorem dX10_tryClocks_188 : decode cX10_tryClocks 188 = .ok (.invokevirtual 46, 3) := dX10_tryClocks_182g.2.2.2.1
theorem dX10_tryClocks_191 : decode cX10_tryClocks 191 = .ok (.if_icmp .ne 7, 3) := dX10_tryClocks_182g.2.2.2.2.1
theorem dX10_tryClocks_194 : decode cX10_tryClocks 194 = .ok (.iconst 1, 1) := dX10_tryClocks_182g.2.2.2.2.2.1
theorem dX10_tryClocks_195 : decode cX10_tryClocks 195 = .ok (.goto 4, 3) := dX10_tryClocks_182g.2.2.2.2.2.2.1
theorem dX10_tryClocks_198 : decode cX10_tryClocks 198 = .ok (.iconst 0, 1) := dX10_tryClocks_182g.2.2.2.2.2.2.2.1
theorem dX10_tryClocks_199 : decode cX10_tryClocks 199 = .ok (.iadd, 1) := dX10_tryClocks_182g.2.2.2.2.2.2.2.2.1
theorem dX10_tryClocks_200 : decode cX10_tryClocks 200 = .ok (.istore 4, 2) := dX10_tryClocks_182g.2.2.2.2.2.2.2.2.2
theorem dX10_tryClocks_202g : (decode cX10_tryClocks 202 = .ok (.iinc 5 1, 3)) ∧ (decode cX10_tryClocks 205 = .ok (.goto (-199), 3)) ∧ (decode cX10_tryClocks 208 = .ok (.iload 4, 2)) ∧ (decode cX10_tryClocks 210 = .ok (.ireturn, 1)) := by decide +kernel
theorem dX10_tryClocks_202 : decode cX10_tryClocks 202 = .ok (.iinc 5 1, 3) := dX10_tryClocks_202g.1
theorem dX10_tryClocks_205 : decode cX10_tryClocks 205 = .ok (.goto (-199), 3) := dX10_tryClocks_202g.2.1
theorem dX10_tryClocks_208 : decode cX10_tryClocks 208 = .ok (.iload 4, 2) := dX10_tryClocks_202g.2.2.1
theorem dX10_tryClocks_210 : decode cX10_tryClocks 210 = .ok (.ireturn, 1) := dX10_tryClocks_202g.2.2.2
set_option maxHeartbeats 4000000 in
set_option maxRecDepth 100000 in
theorem c_X10_tryClocks (l : Launch) (E : Nat → Nat) (D : va_G) (G : th_G) (h0 : Nat) (hG0 : G h0 = some (14, 0)) (x1 x2 x3 : Int32) : Met l yX10_tryClocks (tb (.code yX10_tryClocks cX10_tryClocks 12 (some .int))) (rm 6) (va_Pc [.ref h0, .int x1, .int x2, .int x3] (th_P E D G)) (QI E D G (fun r => True)) 0 0 (th_A G) := by
  refine Met.ofW (cc := cX10_tryClocks) (maxL := 12) (ret := (some .int)) (by decide) rfl ?_
  intro p e s m args below meth c s₁ B hml hv
  obtain ⟨hav, hI, hN, hK⟩ := hv
  have hx := B.exec
  have hb := B.bytes
  have hr := B.returns
  have hts := atoms_spec (ws := tb (.code yX10_tryClocks cX10_tryClocks 12 (some .int))) B.pre
  have hown : s.vm.findClass RX10 = some m.cls := findClass_of_methodNamed B.named
  have hlocks := B.notSynchronized
  have hS : va_S (th_A G) s.heap s.heap [] := va_S.rf
  have hl := lv_entry ([.ref h0, .int x1, .int x2, .int x3]) (n := 12) (Nat.le_of_ble_eq_true rfl)
  rw [show entryFrame m args 12 = entryFrame m ([.ref h0, .int x1, .int x2, .int x3] : List Value).toArray 12 from by rw [hav], lg_entry_eq]
  generalize (lg_sl ([.ref h0, .int x1, .int x2, .int x3]) ++ List.replicate (12 - (lg_sl ([.ref h0, .int x1, .int x2, .int x3])).length) Slot.unset).toArray = ls at hl ⊢
  have hl : lv_has ls 12 [(0, .ref h0), (1, .int x1), (2, .int x2), (3, .int x3)] := hl
  generalize hR : (headSpec (tb (.code yX10_tryClocks cX10_tryClocks 12 (some .int))) (rm 6)).room = R
  have hR := hR.symm
  generalize hQ : MQ below (QI E D G (fun r => True)) args s 0 0 (th_A G) = QF
  have hQ := hQ.symm
  have J_6 : ∀ (nn : Nat) (H : Heap) (locs : List Loc) (ls : Array Slot) (v27908 : Int32) (v27909 : Int32), (Int.toNat (6 - v27908.toInt) = nn) → lv_has ls 12 [(5, .int v27908), (4, .int v27909), (0, .ref h0), (1, .int x1), (2, .int x2), (3, .int x3)] → ((0 : Int) ≤ v27908.toInt ∧ v27908.toInt ≤ 6) → th_I (okC E) D G [] H → va_S (th_A G) s.heap H locs → W p l e R s m args below meth c H locs 0 0 QF (F0 m 6 ls []) := by
    intro nn
    induction nn using Nat.strongRecOn with
    | ind nn ih_6 =>
      intro H locs ls v27908 v27909 hm hl k27910 hI hS
      have J_174 : ∀ (H : Heap) (locs : List Loc) (ls : Array Slot) (v27911 : Int32) (v27912 : Int32) (v27913 : Int32), lv_has ls 12 [(8, .int v27911), (7, .int v27912), (6, .int v27913), (5, .int v27908), (4, .int v27909), (0, .ref h0), (1, .int x1), (2, .int x2), (3, .int x3)] → ((0 : Int) ≤ v27908.toInt ∧ v27908.toInt ≤ 5) → th_I (okC E) D G [] H → va_S (th_A G) s.heap H locs → W p l e R s m args below meth c H locs 0 0 QF (F0 m 174 ls []) := by
        intro H locs ls v27911 v27912 v27913 hl k27916 hI hS
        refine lv_iload hx hb dX10_tryClocks_174 (lv_at hl 4 rfl) ?_
        refine lv_iload hx hb dX10_tryClocks_176 (lv_at hl 2 rfl) ?_
        refine lv_aload_n hx hb dX10_tryClocks_178 rfl (lv_at hl 5 rfl) ?_
        obtain ⟨a27917, a27919, a27921, a27923, a27925, w27927, hO, hq27918, hq27920, hq27922, hq27924, hq27926⟩ := op_14 hI hG0 List.not_mem_nil
        have hI := th_I.weak (a := h0) hI
        refine th_get hx hb hts inT10 hown hK hO rfl 0 (by decide) (hts _ (tb_c wd_326)) rfl rfl dX10_tryClocks_179 ?_
        have hI := th_I.close hI hG0 hO (ok_14 hq27918 hq27920 hq27922 hq27924 hq27926)
        obtain ⟨a27928, a27930, a27932, a27934, a27936, a27938, a27940, a27942, a27944, a27946, w27948, w27951, w27952, w27953, hO, hq27929, hq27931, hq27933, hq27935, hq27937, hq27939, hq27941, hq27943, hq27945, hq27947, ⟨k27949, k27950⟩, k27954⟩ := op_6 hI hq27918 List.not_mem_nil
        have hI := th_I.weak (a := a27917) hI
        refine th_getN hx hb hts inT6 hown hK hN hO rfl 8 (by decide) wn_79 rfl rfl dX10_tryClocks_182 ?_
        refine lv_iload hx hb dX10_tryClocks_185 (lv_at hl 3 rfl) ?_
        refine lv_iconst (v := 2) hx hb dX10_tryClocks_187 (by decide) ?_
        have hI := th_I.close hI hq27918 hO (ok_6 hq27929 hq27931 hq27933 hq27935 hq27937 hq27939 hq27941 hq27943 hq27945 hq27947 ⟨by omega, by omega⟩ k27954)
        refine th_cVi (As := [.int v27908, .int 2]) (rest := [.int v27913, .int v27909]) (n := 2) (d := 0) ⟨hx, hb, hml, hown, hts⟩ (c_X4_at l E D G a27944 (6) hq27945 v27908 2) wd_1139 wd_519 wd_520 wd_3 wd_521 (by decide +kernel) ⟨by rw [hR]; exact Nat.le_of_ble_eq_true rfl, by rw [hR]; exact Nat.le_of_ble_eq_true rfl⟩ hI hN hK hS (rc_4 hI hq27945 List.not_mem_nil) rfl rfl hl.1 rfl (Nat.le_of_ble_eq_true rfl) dX10_tryClocks_188 ⟨Nat.zero_le _, Nat.zero_le _⟩ (fun r27955 H locs hp hI hS => ?_)
        have k27956 := iv_lo v27913
        have k27957 := iv_hi v27913
        have k27958 := iv_lo r27955
        have k27959 := iv_hi r27955
        refine lv_icmp_ne (tgt := 198) hx hb dX10_tryClocks_191 (by decide) (fun c27960 => ?_) (fun c27960 => ?_)
        · skip
          have k27961 := iv_ne (X := v27913.toInt) (Y := r27955.toInt) rfl rfl c27960
          refine lv_iconst (v := 0) hx hb dX10_tryClocks_198 (by decide) ?_
          refine lv_iadd hx hb dX10_tryClocks_199 ?_
          refine lv_topi (fun v27962 e27963 => ?_)
          have k27964 := iv_lo v27909
          have k27965 := iv_hi v27909
          have tv27962 : v27962.toInt = v27909.toInt + (0) := iv_add rfl (by decide) e27963 (by omega) (by omega)
          refine lv_istore (lv' := [(4, .int v27962), (8, .int v27911), (7, .int v27912), (6, .int v27913), (5, .int v27908), (0, .ref h0), (1, .int x1), (2, .int x2), (3, .int x3)]) hx hb dX10_tryClocks_200 hl (by decide) rfl (fun ls hl => ?_)
          obtain ⟨v27966, e27967⟩ : ∃ y : Int32, y = v27908 + (1) := ⟨_, rfl⟩
          have tv27966 : v27966.toInt = v27908.toInt + (1) := iv_add rfl (by decide) e27967 (by omega) (by omega)
          refine lv_iinc (v := v27966) (lv' := [(5, .int v27966), (4, .int v27962), (8, .int v27911), (7, .int v27912), (6, .int v27913), (0, .ref h0), (1, .int x1), (2, .int x2), (3, .int x3)]) hx hb dX10_tryClocks_202 hl (k := 4) rfl (by rw [e27967]; rfl) (by decide) rfl (fun ls hl => ?_)
          refine lv_goto (tgt := 6) hx hb dX10_tryClocks_205 (by decide) ?_
          exact ih_6 _ (by omega) H locs ls v27966 v27962 rfl (lv_sub hl [0, 1, 5, 6, 7, 8] rfl) ⟨by omega, by omega⟩ hI hS
        · skip
          have k27968 := iv_eq (X := v27913.toInt) (Y := r27955.toInt) rfl rfl c27960
          refine lv_iconst (v := 1) hx hb dX10_tryClocks_194 (by decide) ?_
          refine lv_goto (tgt := 199) hx hb dX10_tryClocks_195 (by decide) ?_
          refine lv_iadd hx hb dX10_tryClocks_199 ?_
          refine lv_topi (fun v27969 e27970 => ?_)
          try have tv27969 : v27969.toInt = v27909.toInt + (1) := iv_add rfl (by decide) e27970 (by omega) (by omega)
          refine lv_istore (lv' := [(4, .int v27969), (8, .int v27911), (7, .int v27912), (6, .int v27913), (5, .int v27908), (0, .ref h0), (1, .int x1), (2, .int x2), (3, .int x3)]) hx hb dX10_tryClocks_200 hl (by decide) rfl (fun ls hl => ?_)
          obtain ⟨v27971, e27972⟩ : ∃ y : Int32, y = v27908 + (1) := ⟨_, rfl⟩
          have tv27971 : v27971.toInt = v27908.toInt + (1) := iv_add rfl (by decide) e27972 (by omega) (by omega)
          refine lv_iinc (v := v27971) (lv' := [(5, .int v27971), (4, .int v27969), (8, .int v27911), (7, .int v27912), (6, .int v27913), (0, .ref h0), (1, .int x1), (2, .int x2), (3, .int x3)]) hx hb dX10_tryClocks_202 hl (k := 4) rfl (by rw [e27972]; rfl) (by decide) rfl (fun ls hl => ?_)
          refine lv_goto (tgt := 6) hx hb dX10_tryClocks_205 (by decide) ?_
          exact ih_6 _ (by omega) H locs ls v27971 v27969 rfl (lv_sub hl [0, 1, 5, 6, 7, 8] rfl) ⟨by omega, by omega⟩ hI hS
      have J_66 : ∀ (nn : Nat) (H : Heap) (locs : List Loc) (ls : Array Slot) (v27973 : Int32) (v27974 : Int32) (v27975 : Int32), (Int.toNat (96 - v27973.toInt) = nn) → lv_has ls 12 [(8, .int v27973), (7, .int v27974), (6, .int v27975), (5, .int v27908), (4, .int v27909), (0, .ref h0), (1, .int x1), (2, .int x2), (3, .int x3)] → ((0 : Int) ≤ v27908.toInt ∧ v27908.toInt ≤ 5) → th_I (okC E) D G [] H → va_S (th_A G) s.heap H locs → W p l e R s m args below meth c H locs 0 0 QF (F0 m 66 ls []) := by
        intro nn
        induction nn using Nat.strongRecOn with
        | ind nn ih_66 =>
          intro H locs ls v27973 v27974 v27975 hm hl k27978 hI hS
          have J_163 : ∀ (H : Heap) (locs : List Loc) (ls : Array Slot) (v27979 : Int32) (v27980 : Int32) (v27981 : Int32) (v27987 : Int32), lv_has ls 12 [(11, .int v27979), (10, .int v27980), (9, .int v27981), (8, .int v27973), (7, .int v27974), (6, .int v27975), (5, .int v27908), (4, .int v27909), (0, .ref h0), (1, .int x1), (2, .int x2), (3, .int x3)] → ((0 : Int) ≤ v27979.toInt ∧ v27979.toInt ≤ 1) → ((0 : Int) ≤ v27973.toInt ∧ v27973.toInt ≤ 95) → ((0 : Int) ≤ v27975.toInt ∧ v27975.toInt ≤ 23) → th_I (okC E) D G [] H → va_S (th_A G) s.heap H locs → W p l e R s m args below meth c H locs 0 0 QF (F0 m 163 ls [.int v27987]) := by
            intro H locs ls v27979 v27980 v27981 v27987 hl k27988 k27989 k27990 hI hS
            refine lv_bipush (v := 31) hx hb dX10_tryClocks_163 (by decide) ?_
            refine lv_iand hx hb dX10_tryClocks_165 ?_
            refine lv_topi (fun v27991 e27992 => ?_)
            have tv27991 := iv_andr (m := 31) (M := 31) e27992 (by decide) (by decide)
            refine lv_istore (lv' := [(6, .int v27991), (11, .int v27979), (10, .int v27980), (9, .int v27981), (8, .int v27973), (7, .int v27974), (5, .int v27908), (4, .int v27909), (0, .ref h0), (1, .int x1), (2, .int x2), (3, .int x3)]) hx hb dX10_tryClocks_166 hl (by decide) rfl (fun ls hl => ?_)
            obtain ⟨v27993, e27994⟩ : ∃ y : Int32, y = v27973 + (1) := ⟨_, rfl⟩
            have tv27993 : v27993.toInt = v27973.toInt + (1) := iv_add rfl (by decide) e27994 (by omega) (by omega)
            refine lv_iinc (v := v27993) (lv' := [(8, .int v27993), (6, .int v27991), (11, .int v27979), (10, .int v27980), (9, .int v27981), (7, .int v27974), (5, .int v27908), (4, .int v27909), (0, .ref h0), (1, .int x1), (2, .int x2), (3, .int x3)]) hx hb dX10_tryClocks_168 hl (k := 4) rfl (by rw [e27994]; rfl) (by decide) rfl (fun ls hl => ?_)
            refine lv_goto (tgt := 66) hx hb dX10_tryClocks_171 (by decide) ?_
            exact ih_66 _ (by omega) H locs ls v27993 v27974 v27991 rfl (lv_sub hl [0, 5, 1, 6, 7, 8, 9, 10, 11] rfl) ⟨by omega, by omega⟩ hI hS
          have J_147 : ∀ (H : Heap) (locs : List Loc) (ls : Array Slot) (v27995 : Int32) (v27996 : Int32) (v28002 : Int32), lv_has ls 12 [(10, .int v27995), (9, .int v27996), (8, .int v27973), (7, .int v27974), (6, .int v27975), (5, .int v27908), (4, .int v27909), (0, .ref h0), (1, .int x1), (2, .int x2), (3, .int x3)] → ((0 : Int) ≤ v27973.toInt ∧ v27973.toInt ≤ 95) → ((0 : Int) ≤ v27975.toInt ∧ v27975.toInt ≤ 23) → ((0 : Int) ≤ v28002.toInt ∧ v28002.toInt ≤ 1) → th_I (okC E) D G [] H → va_S (th_A G) s.heap H locs → W p l e R s m args below meth c H locs 0 0 QF (F0 m 147 ls [.int v28002]) := by
            intro H locs ls v27995 v27996 v28002 hl k28003 k28004 k28005 hI hS
            refine lv_istore (lv' := [(11, .int v28002), (10, .int v27995), (9, .int v27996), (8, .int v27973), (7, .int v27974), (6, .int v27975), (5, .int v27908), (4, .int v27909), (0, .ref h0), (1, .int x1), (2, .int x2), (3, .int x3)]) hx hb dX10_tryClocks_147 hl (by decide) rfl (fun ls hl => ?_)
            refine lv_iload hx hb dX10_tryClocks_149 (lv_at hl 0 rfl) ?_
            refine lv_if_eq (tgt := 161) hx hb dX10_tryClocks_151 (by decide) (fun c28006 => ?_) (fun c28006 => ?_)
            · skip
              have k28007 := iv_eq (X := v28002.toInt) (Y := (0)) rfl (by decide) c28006
              refine lv_iload hx hb dX10_tryClocks_161 (lv_at hl 1 rfl) ?_
              exact J_163 H locs ls v28002 v27995 v27996 v27995 (lv_sub hl [0, 1, 2, 3, 4, 5, 6, 7, 8, 9, 10, 11] rfl) ⟨by omega, by omega⟩ ⟨by omega, by omega⟩ ⟨by omega, by omega⟩ hI hS
            · skip
              have k28008 := iv_ne (X := v28002.toInt) (Y := (0)) rfl (by decide) c28006
              refine lv_iload hx hb dX10_tryClocks_154 (lv_at hl 1 rfl) ?_
              refine lv_iconst (v := 5) hx hb dX10_tryClocks_156 (by decide) ?_
              refine lv_ishr hx hb dX10_tryClocks_157 ?_
              refine lv_topi (fun v28009 e28010 => ?_)
              refine lv_goto (tgt := 163) hx hb dX10_tryClocks_158 (by decide) ?_
              exact J_163 H locs ls v28002 v27995 v27996 v28009 (lv_sub hl [0, 1, 2, 3, 4, 5, 6, 7, 8, 9, 10, 11] rfl) ⟨by omega, by omega⟩ ⟨by omega, by omega⟩ ⟨by omega, by omega⟩ hI hS
          have J_123 : ∀ (H : Heap) (locs : List Loc) (ls : Array Slot) (v28011 : Int32) (v28017 : Int32), lv_has ls 12 [(9, .int v28011), (8, .int v27973), (7, .int v27974), (6, .int v27975), (5, .int v27908), (4, .int v27909), (0, .ref h0), (1, .int x1), (2, .int x2), (3, .int x3)] → ((0 : Int) ≤ v27973.toInt ∧ v27973.toInt ≤ 95) → ((0 : Int) ≤ v27975.toInt ∧ v27975.toInt ≤ 23) → th_I (okC E) D G [] H → va_S (th_A G) s.heap H locs → W p l e R s m args below meth c H locs 0 0 QF (F0 m 123 ls [.int v28017]) := by
            intro H locs ls v28011 v28017 hl k28018 k28019 hI hS
            refine lv_istore (lv' := [(10, .int v28017), (9, .int v28011), (8, .int v27973), (7, .int v27974), (6, .int v27975), (5, .int v27908), (4, .int v27909), (0, .ref h0), (1, .int x1), (2, .int x2), (3, .int x3)]) hx hb dX10_tryClocks_123 hl (by decide) rfl (fun ls hl => ?_)
            refine lv_iload hx hb dX10_tryClocks_125 (lv_at hl 2 rfl) ?_
            refine lv_bipush (v := 24) hx hb dX10_tryClocks_127 (by decide) ?_
            refine lv_irem hx hb dX10_tryClocks_129 (by decide) ?_
            refine lv_topi (fun v28020 e28021 => ?_)
            have tv28020 := iv_remp (X := v27973.toInt) (Y := 24) rfl (by decide) e28021 (by decide) (by omega)
            refine lv_iload_n hx hb dX10_tryClocks_130 rfl (lv_at hl 9 rfl) ?_
            refine lv_isub hx hb dX10_tryClocks_131 ?_
            refine lv_topi (fun v28022 e28023 => ?_)
            try have tv28022 : v28022.toInt = v28020.toInt - x2.toInt := iv_sub rfl rfl e28023 (by omega) (by omega)
            refine lv_bipush (v := 24) hx hb dX10_tryClocks_132 (by decide) ?_
            refine lv_iadd hx hb dX10_tryClocks_134 ?_
            refine lv_topi (fun v28024 e28025 => ?_)
            try have tv28024 : v28024.toInt = v28022.toInt + (24) := iv_add rfl (by decide) e28025 (by omega) (by omega)
            refine lv_bipush (v := 24) hx hb dX10_tryClocks_135 (by decide) ?_
            refine lv_irem hx hb dX10_tryClocks_137 (by decide) ?_
            refine lv_topi (fun v28026 e28027 => ?_)
            refine lv_iload_n hx hb dX10_tryClocks_138 rfl (lv_at hl 10 rfl) ?_
            have k28028 := iv_lo v28026
            have k28029 := iv_hi v28026
            have k28030 := iv_lo x3
            have k28031 := iv_hi x3
            refine lv_icmp_ge (tgt := 146) hx hb dX10_tryClocks_139 (by decide) (fun c28032 => ?_) (fun c28032 => ?_)
            · skip
              have k28033 := iv_le (X := x3.toInt) (Y := v28026.toInt) rfl rfl c28032
              refine lv_iconst (v := 0) hx hb dX10_tryClocks_146 (by decide) ?_
              exact J_147 H locs ls v28017 v28011 0 (lv_sub hl [0, 1, 2, 3, 4, 5, 6, 7, 8, 9, 10] rfl) ⟨by omega, by omega⟩ ⟨by omega, by omega⟩ ⟨by decide, by decide⟩ hI hS
            · skip
              have k28034 := iv_nle (X := x3.toInt) (Y := v28026.toInt) rfl rfl c28032
              refine lv_iconst (v := 1) hx hb dX10_tryClocks_142 (by decide) ?_
              refine lv_goto (tgt := 147) hx hb dX10_tryClocks_143 (by decide) ?_
              exact J_147 H locs ls v28017 v28011 1 (lv_sub hl [0, 1, 2, 3, 4, 5, 6, 7, 8, 9, 10] rfl) ⟨by omega, by omega⟩ ⟨by omega, by omega⟩ ⟨by decide, by decide⟩ hI hS
          refine lv_iload hx hb dX10_tryClocks_66 (lv_at hl 0 rfl) ?_
          refine lv_iload hx hb dX10_tryClocks_68 (lv_at hl 1 rfl) ?_
          have k28035 := iv_lo v27973
          have k28036 := iv_hi v27973
          have k28037 := iv_lo v27974
          have k28038 := iv_hi v27974
          refine lv_icmp_ge (tgt := 174) hx hb dX10_tryClocks_70 (by decide) (fun c28039 => ?_) (fun c28039 => ?_)
          · skip
            have k28040 := iv_le (X := v27974.toInt) (Y := v27973.toInt) rfl rfl c28039
            exact J_174 H locs ls v27973 v27974 v27975 (lv_sub hl [0, 1, 2, 3, 4, 5, 6, 7, 8] rfl) ⟨by omega, by omega⟩ hI hS
          · skip
            have k28041 := iv_nle (X := v27974.toInt) (Y := v27973.toInt) rfl rfl c28039
            refine lv_iload hx hb dX10_tryClocks_73 (lv_at hl 0 rfl) ?_
            refine th_cSN (As := [.int v27973]) (rest := []) (n := 1) (d := 0) ⟨hx, hb, hml, hown, hts⟩ (c_X11_isHour l H v27973) wn_1154 wd_467 wd_1 wd_468 (by decide +kernel) ⟨by rw [hR]; exact Nat.le_of_ble_eq_true rfl, by rw [hR]; exact Nat.le_of_ble_eq_true rfl⟩ hN hS rfl hl.1 rfl (Nat.le_of_ble_eq_true rfl) dX10_tryClocks_75 ⟨Nat.zero_le _, Nat.zero_le _⟩ (fun r28042 locs hp hS => ?_)
            rcases hp with ⟨rfl, hp⟩ | ⟨rfl, hp⟩
            · skip
              try simp only [rg, not_and, Int.not_le] at hp
              have hp28043 := hp
              refine lv_if_eq (tgt := 174) hx hb dX10_tryClocks_78 (by decide) (fun c => absurd c (by decide)) (fun _ => ?_)
              refine lv_iload hx hb dX10_tryClocks_81 (lv_at hl 2 rfl) ?_
              refine th_cSN (As := [.int v27975]) (rest := []) (n := 1) (d := 0) ⟨hx, hb, hml, hown, hts⟩ (c_X11_isCell l H v27975) wn_1155 wd_402 wd_1 wd_403 (by decide +kernel) ⟨by rw [hR]; exact Nat.le_of_ble_eq_true rfl, by rw [hR]; exact Nat.le_of_ble_eq_true rfl⟩ hN hS rfl hl.1 rfl (Nat.le_of_ble_eq_true rfl) dX10_tryClocks_83 ⟨Nat.zero_le _, Nat.zero_le _⟩ (fun r28044 locs hp hS => ?_)
              rcases hp with ⟨rfl, hp⟩ | ⟨rfl, hp⟩
              · skip
                try simp only [rg, not_and, Int.not_le] at hp
                have hp28045 := hp
                refine lv_if_eq (tgt := 174) hx hb dX10_tryClocks_86 (by decide) (fun c => absurd c (by decide)) (fun _ => ?_)
                refine lv_aload_n hx hb dX10_tryClocks_89 rfl (lv_at hl 5 rfl) ?_
                obtain ⟨a28046, a28048, a28050, a28052, a28054, w28056, hO, hq28047, hq28049, hq28051, hq28053, hq28055⟩ := op_14 hI hG0 List.not_mem_nil
                have hI := th_I.weak (a := h0) hI
                refine th_get hx hb hts inT10 hown hK hO rfl 3 (by decide) (hts _ (tb_c wd_329)) rfl rfl dX10_tryClocks_90 ?_
                refine lv_iload hx hb dX10_tryClocks_93 (lv_at hl 0 rfl) ?_
                refine lv_bipush (v := 24) hx hb dX10_tryClocks_95 (by decide) ?_
                refine lv_imul hx hb dX10_tryClocks_97 ?_
                refine lv_topi (fun v28057 e28058 => ?_)
                have tv28057 : v28057.toInt = v27973.toInt * (24) := iv_mul rfl (by decide) e28058 (by omega) (by omega)
                refine lv_iload hx hb dX10_tryClocks_98 (lv_at hl 2 rfl) ?_
                refine lv_iadd hx hb dX10_tryClocks_100 ?_
                refine lv_topi (fun v28059 e28060 => ?_)
                have tv28059 : v28059.toInt = v28057.toInt + v27975.toInt := iv_add rfl rfl e28060 (by omega) (by omega)
                obtain ⟨_, hA28061⟩ := op_0 hI hq28053 (th_ne hG0 hq28053 (show (14 : Nat) ≠ 0 by decide))
                refine th_iald hx hb hK hA28061 0 rfl (iv_in (X := v28059.toInt) rfl (by omega) (by omega)) dX10_tryClocks_101 (fun v28062 _ => ?_)
                refine lv_istore (lv' := [(9, .int v28062), (8, .int v27973), (7, .int v27974), (6, .int v27975), (5, .int v27908), (4, .int v27909), (0, .ref h0), (1, .int x1), (2, .int x2), (3, .int x3)]) hx hb dX10_tryClocks_102 hl (by decide) rfl (fun ls hl => ?_)
                refine lv_iload hx hb dX10_tryClocks_104 (lv_at hl 0 rfl) ?_
                have k28063 := iv_lo v28062
                have k28064 := iv_hi v28062
                refine lv_if_ne (tgt := 121) hx hb dX10_tryClocks_106 (by decide) (fun c28065 => ?_) (fun c28065 => ?_)
                · skip
                  have k28066 := iv_ne (X := v28062.toInt) (Y := (0)) rfl (by decide) c28065
                  refine lv_iload hx hb dX10_tryClocks_121 (lv_at hl 0 rfl) ?_
                  have hI := th_I.close hI hG0 hO (ok_14 hq28047 hq28049 hq28051 hq28053 hq28055)
                  exact J_123 H locs ls v28062 v28062 (lv_sub hl [0, 1, 2, 3, 4, 5, 6, 7, 8, 9] rfl) ⟨by omega, by omega⟩ ⟨by omega, by omega⟩ hI hS
                · skip
                  have k28067 := iv_eq (X := v28062.toInt) (Y := (0)) rfl (by decide) c28065
                  refine lv_aload_n hx hb dX10_tryClocks_109 rfl (lv_at hl 6 rfl) ?_
                  refine lv_iload_n hx hb dX10_tryClocks_110 rfl (lv_at hl 7 rfl) ?_
                  refine lv_iload hx hb dX10_tryClocks_111 (lv_at hl 3 rfl) ?_
                  refine lv_iload hx hb dX10_tryClocks_113 (lv_at hl 1 rfl) ?_
                  have hI := th_I.close hI hG0 hO (ok_14 hq28047 hq28049 hq28051 hq28053 hq28055)
                  refine th_cVi (As := [.int x1, .int v27975, .int v27973]) (rest := []) (n := 3) (d := 5) ⟨hx, hb, hml, hown, hts⟩ (c_X10_findTurn l E D G h0 hG0 x1 v27975 v27973) wd_1156 wd_1158 wp_38 wd_12 wd_1159 (by decide +kernel) ⟨by rw [hR]; exact Nat.le_of_ble_eq_true rfl, by rw [hR]; exact Nat.le_of_ble_eq_true rfl⟩ hI hN hK hS (rc_14 hI hG0 List.not_mem_nil) rfl rfl hl.1 rfl (Nat.le_of_ble_eq_true rfl) dX10_tryClocks_115 ⟨Nat.zero_le _, Nat.zero_le _⟩ (fun r28068 H locs hp hI hS => ?_)
                  refine lv_goto (tgt := 123) hx hb dX10_tryClocks_118 (by decide) ?_
                  exact J_123 H locs ls v28062 r28068 (lv_sub hl [0, 1, 2, 3, 4, 5, 6, 7, 8, 9] rfl) ⟨by omega, by omega⟩ ⟨by omega, by omega⟩ hI hS
              · skip
                try simp only [rg, not_and, Int.not_le] at hp
                have hp28069 := hp
                refine lv_if_eq (tgt := 174) hx hb dX10_tryClocks_86 (by decide) (fun _ => ?_) (fun c => absurd c (by decide))
                exact J_174 H locs ls v27973 v27974 v27975 (lv_sub hl [0, 1, 2, 3, 4, 5, 6, 7, 8] rfl) ⟨by omega, by omega⟩ hI hS
            · skip
              try simp only [rg, not_and, Int.not_le] at hp
              have hp28070 := hp
              refine lv_if_eq (tgt := 174) hx hb dX10_tryClocks_78 (by decide) (fun _ => ?_) (fun c => absurd c (by decide))
              exact J_174 H locs ls v27973 v27974 v27975 (lv_sub hl [0, 1, 2, 3, 4, 5, 6, 7, 8] rfl) ⟨by omega, by omega⟩ hI hS
      refine lv_iload hx hb dX10_tryClocks_6 (lv_at hl 0 rfl) ?_
      refine lv_aload_n hx hb dX10_tryClocks_8 rfl (lv_at hl 2 rfl) ?_
      obtain ⟨a28071, a28073, a28075, a28077, a28079, w28081, hO, hq28072, hq28074, hq28076, hq28078, hq28080⟩ := op_14 hI hG0 List.not_mem_nil
      have hI := th_I.weak (a := h0) hI
      refine th_get hx hb hts inT10 hown hK hO rfl 0 (by decide) (hts _ (tb_c wd_326)) rfl rfl dX10_tryClocks_9 ?_
      have hI := th_I.close hI hG0 hO (ok_14 hq28072 hq28074 hq28076 hq28078 hq28080)
      obtain ⟨a28082, a28084, a28086, a28088, a28090, a28092, a28094, a28096, a28098, a28100, w28102, w28105, w28106, w28107, hO, hq28083, hq28085, hq28087, hq28089, hq28091, hq28093, hq28095, hq28097, hq28099, hq28101, ⟨k28103, k28104⟩, k28108⟩ := op_6 hI hq28072 List.not_mem_nil
      have hI := th_I.weak (a := a28071) hI
      refine th_getN hx hb hts inT6 hown hK hN hO rfl 8 (by decide) wn_79 rfl rfl dX10_tryClocks_12 ?_
      have hI := th_I.close hI hq28072 hO (ok_6 hq28083 hq28085 hq28087 hq28089 hq28091 hq28093 hq28095 hq28097 hq28099 hq28101 ⟨by omega, by omega⟩ k28108)
      obtain ⟨a28110, w28112, hO, hq28111, ⟨k28113, k28114⟩, k28115⟩ := op_4 hI hq28099 List.not_mem_nil
      have hI := th_I.weak (a := a28098) hI
      have k28116 : (nI (6 % 32)).toInt = ((6 % 32 : Nat) : Int) := nI_toInt (by omega)
      have k28117 := k28115.1
      refine th_cVs (As := []) (rest := [.int v27908]) (n := 0) (d := 0) ⟨hx, hb, hml, hown, hts⟩ (c_X4_size l E D H a28098 (6 % 32) a28110 w28112 hO (by omega) (by omega) (by omega)) wd_1138 wd_507 wd_508 wd_3 wd_509 (by decide +kernel) ⟨by rw [hR]; exact Nat.le_of_ble_eq_true rfl, by rw [hR]; exact Nat.le_of_ble_eq_true rfl⟩ hN hK hS ⟨_, hO⟩ rfl rfl hl.1 rfl (Nat.le_of_ble_eq_true rfl) dX10_tryClocks_15 ⟨Nat.zero_le _, Nat.zero_le _⟩ (fun r28109 locs hp hS => ?_)
      have hp := hp.symm
      subst hp
      refine lv_icmp_ge (tgt := 208) hx hb dX10_tryClocks_18 (by decide) (fun c28118 => ?_) (fun c28118 => ?_)
      · skip
        have k28119 := iv_le (X := w28112.toInt) (Y := v27908.toInt) rfl rfl c28118
        refine lv_iload hx hb dX10_tryClocks_208 (lv_at hl 1 rfl) ?_
        have hI := th_I.close hI hq28099 hO (ok_4 hq28111 ⟨by omega, by omega⟩ k28115)
        have hpost : True := trivial
        rw [hQ]
        exact W.iret (v := v27909) hx hb hr (fun t ht hW => ⟨⟨v27909, (), rfl, hpost, by rw [ht]; exact hI, hN.warm hW, va_K.moved hW.alike hK⟩, hS.F ht⟩) hS.2.2 dX10_tryClocks_210
      · skip
        have k28120 := iv_nle (X := w28112.toInt) (Y := v27908.toInt) rfl rfl c28118
        refine lv_aload_n hx hb dX10_tryClocks_21 rfl (lv_at hl 2 rfl) ?_
        have hI := th_I.close hI hq28099 hO (ok_4 hq28111 ⟨by omega, by omega⟩ k28115)
        obtain ⟨a28121, a28123, a28125, a28127, a28129, w28131, hO, hq28122, hq28124, hq28126, hq28128, hq28130⟩ := op_14 hI hG0 List.not_mem_nil
        have hI := th_I.weak (a := h0) hI
        refine th_get hx hb hts inT10 hown hK hO rfl 0 (by decide) (hts _ (tb_c wd_326)) rfl rfl dX10_tryClocks_22 ?_
        have hI := th_I.close hI hG0 hO (ok_14 hq28122 hq28124 hq28126 hq28128 hq28130)
        obtain ⟨a28132, a28134, a28136, a28138, a28140, a28142, a28144, a28146, a28148, a28150, w28152, w28155, w28156, w28157, hO, hq28133, hq28135, hq28137, hq28139, hq28141, hq28143, hq28145, hq28147, hq28149, hq28151, ⟨k28153, k28154⟩, k28158⟩ := op_6 hI hq28122 List.not_mem_nil
        have hI := th_I.weak (a := a28121) hI
        refine th_getN hx hb hts inT6 hown hK hN hO rfl 8 (by decide) wn_79 rfl rfl dX10_tryClocks_25 ?_
        refine lv_iload hx hb dX10_tryClocks_28 (lv_at hl 0 rfl) ?_
        refine lv_iconst (v := 0) hx hb dX10_tryClocks_30 (by decide) ?_
        have hI := th_I.close hI hq28122 hO (ok_6 hq28133 hq28135 hq28137 hq28139 hq28141 hq28143 hq28145 hq28147 hq28149 hq28151 ⟨by omega, by omega⟩ k28158)
        refine th_cVi (As := [.int v27908, .int 0]) (rest := []) (n := 2) (d := 0) ⟨hx, hb, hml, hown, hts⟩ (c_X4_at l E D G a28148 (6) hq28149 v27908 0) wd_1139 wd_519 wd_520 wd_3 wd_521 (by decide +kernel) ⟨by rw [hR]; exact Nat.le_of_ble_eq_true rfl, by rw [hR]; exact Nat.le_of_ble_eq_true rfl⟩ hI hN hK hS (rc_4 hI hq28149 List.not_mem_nil) rfl rfl hl.1 rfl (Nat.le_of_ble_eq_true rfl) dX10_tryClocks_31 ⟨Nat.zero_le _, Nat.zero_le _⟩ (fun r28159 H locs hp hI hS => ?_)
        refine lv_istore (lv' := [(6, .int r28159), (5, .int v27908), (4, .int v27909), (0, .ref h0), (1, .int x1), (2, .int x2), (3, .int x3)]) hx hb dX10_tryClocks_34 hl (by decide) rfl (fun ls hl => ?_)
        refine lv_aload_n hx hb dX10_tryClocks_36 rfl (lv_at hl 3 rfl) ?_
        obtain ⟨a28160, a28162, a28164, a28166, a28168, w28170, hO, hq28161, hq28163, hq28165, hq28167, hq28169⟩ := op_14 hI hG0 List.not_mem_nil
        have hI := th_I.weak (a := h0) hI
        refine th_get hx hb hts inT10 hown hK hO rfl 0 (by decide) (hts _ (tb_c wd_326)) rfl rfl dX10_tryClocks_37 ?_
        have hI := th_I.close hI hG0 hO (ok_14 hq28161 hq28163 hq28165 hq28167 hq28169)
        obtain ⟨a28171, a28173, a28175, a28177, a28179, a28181, a28183, a28185, a28187, a28189, w28191, w28194, w28195, w28196, hO, hq28172, hq28174, hq28176, hq28178, hq28180, hq28182, hq28184, hq28186, hq28188, hq28190, ⟨k28192, k28193⟩, k28197⟩ := op_6 hI hq28161 List.not_mem_nil
        have hI := th_I.weak (a := a28160) hI
        refine th_getN hx hb hts inT6 hown hK hN hO rfl 8 (by decide) wn_79 rfl rfl dX10_tryClocks_40 ?_
        refine lv_iload hx hb dX10_tryClocks_43 (lv_at hl 1 rfl) ?_
        refine lv_iconst (v := 3) hx hb dX10_tryClocks_45 (by decide) ?_
        have hI := th_I.close hI hq28161 hO (ok_6 hq28172 hq28174 hq28176 hq28178 hq28180 hq28182 hq28184 hq28186 hq28188 hq28190 ⟨by omega, by omega⟩ k28197)
        refine th_cVi (As := [.int v27908, .int 3]) (rest := []) (n := 2) (d := 0) ⟨hx, hb, hml, hown, hts⟩ (c_X4_at l E D G a28187 (6) hq28188 v27908 3) wd_1139 wd_519 wd_520 wd_3 wd_521 (by decide +kernel) ⟨by rw [hR]; exact Nat.le_of_ble_eq_true rfl, by rw [hR]; exact Nat.le_of_ble_eq_true rfl⟩ hI hN hK hS (rc_4 hI hq28188 List.not_mem_nil) rfl rfl hl.1 rfl (Nat.le_of_ble_eq_true rfl) dX10_tryClocks_46 ⟨Nat.zero_le _, Nat.zero_le _⟩ (fun r28198 H locs hp hI hS => ?_)
        refine lv_istore (lv' := [(7, .int r28198), (6, .int r28159), (5, .int v27908), (4, .int v27909), (0, .ref h0), (1, .int x1), (2, .int x2), (3, .int x3)]) hx hb dX10_tryClocks_49 hl (by decide) rfl (fun ls hl => ?_)
        refine lv_aload_n hx hb dX10_tryClocks_51 rfl (lv_at hl 4 rfl) ?_
        obtain ⟨a28199, a28201, a28203, a28205, a28207, w28209, hO, hq28200, hq28202, hq28204, hq28206, hq28208⟩ := op_14 hI hG0 List.not_mem_nil
        have hI := th_I.weak (a := h0) hI
        refine th_get hx hb hts inT10 hown hK hO rfl 0 (by decide) (hts _ (tb_c wd_326)) rfl rfl dX10_tryClocks_52 ?_
        have hI := th_I.close hI hG0 hO (ok_14 hq28200 hq28202 hq28204 hq28206 hq28208)
        obtain ⟨a28210, a28212, a28214, a28216, a28218, a28220, a28222, a28224, a28226, a28228, w28230, w28233, w28234, w28235, hO, hq28211, hq28213, hq28215, hq28217, hq28219, hq28221, hq28223, hq28225, hq28227, hq28229, ⟨k28231, k28232⟩, k28236⟩ := op_6 hI hq28200 List.not_mem_nil
        have hI := th_I.weak (a := a28199) hI
        refine th_getN hx hb hts inT6 hown hK hN hO rfl 8 (by decide) wn_79 rfl rfl dX10_tryClocks_55 ?_
        refine lv_iload hx hb dX10_tryClocks_58 (lv_at hl 2 rfl) ?_
        refine lv_iconst (v := 1) hx hb dX10_tryClocks_60 (by decide) ?_
        have hI := th_I.close hI hq28200 hO (ok_6 hq28211 hq28213 hq28215 hq28217 hq28219 hq28221 hq28223 hq28225 hq28227 hq28229 ⟨by omega, by omega⟩ k28236)
        refine th_cVi (As := [.int v27908, .int 1]) (rest := []) (n := 2) (d := 0) ⟨hx, hb, hml, hown, hts⟩ (c_X4_at l E D G a28226 (6) hq28227 v27908 1) wd_1139 wd_519 wd_520 wd_3 wd_521 (by decide +kernel) ⟨by rw [hR]; exact Nat.le_of_ble_eq_true rfl, by rw [hR]; exact Nat.le_of_ble_eq_true rfl⟩ hI hN hK hS (rc_4 hI hq28227 List.not_mem_nil) rfl rfl hl.1 rfl (Nat.le_of_ble_eq_true rfl) dX10_tryClocks_61 ⟨Nat.zero_le _, Nat.zero_le _⟩ (fun r28237 H locs hp hI hS => ?_)
        refine lv_istore (lv' := [(8, .int r28237), (7, .int r28198), (6, .int r28159), (5, .int v27908), (4, .int v27909), (0, .ref h0), (1, .int x1), (2, .int x2), (3, .int x3)]) hx hb dX10_tryClocks_64 hl (by decide) rfl (fun ls hl => ?_)
        exact J_66 _ H locs ls r28237 r28198 r28159 rfl (lv_sub hl [0, 1, 2, 3, 4, 5, 6, 7, 8] rfl) ⟨by omega, by omega⟩ hI hS
  refine lv_iconst (v := 0) hx hb dX10_tryClocks_0 (by decide) ?_
  refine lv_istore (lv' := [(4, .int 0), (0, .ref h0), (1, .int x1), (2, .int x2), (3, .int x3)]) hx hb dX10_tryClocks_1 hl (by decide) rfl (fun ls hl => ?_)
  refine lv_iconst (v := 0) hx hb dX10_tryClocks_3 (by decide) ?_
  refine lv_istore (lv' := [(5, .int 0), (4, .int 0), (0, .ref h0), (1, .int x1), (2, .int x2), (3, .int x3)]) hx hb dX10_tryClocks_4 hl (by decide) rfl (fun ls hl => ?_)
  have zl : (0 : Int32).toInt = 0 := by decide
  exact J_6 _ s.heap [] ls 0 0 rfl (lv_sub hl [0, 1, 2, 3, 4, 5] rfl) ⟨by decide, by decide⟩ hI hS
theorem dX10_tune_0g : (decode cX10_tune 0 = .ok (.aload_n 0, 1)) ∧ (decode cX10_tune 1 = .ok (.getfield 18, 3)) ∧ (decode cX10_tune 4 = .ok (.iload_n 1, 1)) ∧ (decode cX10_tune 5 = .ok (.if_icmp .ne 4, 3)) ∧ (decode cX10_tune 8 = .ok (.return_, 1)) ∧ (decode cX10_tune 9 = .ok (.aload_n 0, 1)) ∧ (decode cX10_tune 10 = .ok (.iload_n 1, 1)) ∧ (decode cX10_tune 11 = .ok (.putfield 18, 3)) ∧ (decode cX10_tune 14 = .ok (.aload_n 0, 1)) ∧ (decode cX10_tune 15 = .ok (.getfield 9, 3)) := by decide +kernel
theorem dX10_tune_0 : decode cX10_tune 0 = .ok (.aload_n 0, 1) := dX10_tune_0g.1
theorem dX10_tune_1 : decode cX10_tune 1 = .ok (.getfield 18, 3) := dX10_tune_0g.2.1
theorem dX10_tune_4 : decode cX10_tune 4 = .ok (.iload_n 1, 1) := dX10_tune_0g.2.2.1
theorem dX10_tune_5 : decode cX10_tune 5 = .ok (.if_icmp .ne 4, 3) := dX10_tune_0g.2.2.2.1
theorem dX10_tune_8 : decode cX10_tune 8 = .ok (.return_, 1) := dX10_tune_0g.2.2.2.2.1
theorem dX10_tune_9 : decode cX10_tune 9 = .ok (.aload_n 0, 1) := dX10_tune_0g.2.2.2.2.2.1
theorem dX10_tune_10 : decode cX10_tune 10 = .ok (.iload_n 1, 1) := dX10_tune_0g.2.2.2.2.2.2.1
theorem dX10_tune_11 : decode cX10_tune 11 = .ok (.putfield 18, 3) := dX10_tune_0g.2.2.2.2.2.2.2.1
theorem dX10_tune_14 : decode cX10_tune 14 = .ok (.aload_n 0, 1) := dX10_tune_0g.2.2.2.2.2.2.2.2.1
theorem dX10_tune_15 : decode cX10_tune 15 = .ok (.getfield 9, 3) := dX10_tune_0g.2.2.2.2.2.2.2.2.2
theorem dX10_tune_18g : (decode cX10_tune 18 = .ok (.iconst 0, 1)) ∧ (decode cX10_tune 19 = .ok (.invokestatic 56, 3)) ∧ (decode cX10_tune 22 = .ok (.aload_n 0, 1)) ∧ (decode cX10_tune 23 = .ok (.getfield 15, 3)) ∧ (decode cX10_tune 26 = .ok (.iconst 0, 1)) ∧ (decode cX10_tune 27 = .ok (.iconst (-1), 1)) ∧ (decode cX10_tune 28 = .ok (.iastore, 1)) ∧ (decode cX10_tune 29 = .ok (.iconst 1, 1)) ∧ (decode cX10_tune 30 = .ok (.istore_n 2, 1)) ∧ (decode cX10_tune 31 = .ok (.iload_n 2, 1)) := by decide +kernel
theorem dX10_tune_18 : decode cX10_tune 18 = .ok (.iconst 0, 1) := dX10_tune_18g.1
theorem dX10_tune_19 : decode cX10_tune 19 = .ok (.invokestatic 56, 3) := dX10_tune_18g.2.1
theorem dX10_tune_22 : decode cX10_tune 22 = .ok (.aload_n 0, 1) := dX10_tune_18g.2.2.1
theorem dX10_tune_23 : decode cX10_tune 23 = .ok (.getfield 15, 3) := dX10_tune_18g.2.2.2.1
theorem dX10_tune_26 : decode cX10_tune 26 = .ok (.iconst 0, 1) := dX10_tune_18g.2.2.2.2.1
theorem dX10_tune_27 : decode cX10_tune 27 = .ok (.iconst (-1), 1) := dX10_tune_18g.2.2.2.2.2.1
theorem dX10_tune_28 : decode cX10_tune 28 = .ok (.iastore, 1) := dX10_tune_18g.2.2.2.2.2.2.1
theorem dX10_tune_29 : decode cX10_tune 29 = .ok (.iconst 1, 1) := dX10_tune_18g.2.2.2.2.2.2.2.1
theorem dX10_tune_30 : decode cX10_tune 30 = .ok (.istore_n 2, 1) := dX10_tune_18g.2.2.2.2.2.2.2.2.1
theorem dX10_tune_31 : decode cX10_tune 31 = .ok (.iload_n 2, 1) := dX10_tune_18g.2.2.2.2.2.2.2.2.2
theorem dX10_tune_32g : (decode cX10_tune 32 = .ok (.bipush 6, 2)) ∧ (decode cX10_tune 34 = .ok (.if_icmp .gt 84, 3)) ∧ (decode cX10_tune 37 = .ok (.iconst 0, 1)) ∧ (decode cX10_tune 38 = .ok (.istore_n 3, 1)) ∧ (decode cX10_tune 39 = .ok (.iload_n 3, 1)) ∧ (decode cX10_tune 40 = .ok (.bipush 24, 2)) ∧ (decode cX10_tune 42 = .ok (.if_icmp .ge 70, 3)) ∧ (decode cX10_tune 45 = .ok (.aload_n 0, 1)) ∧ (decode cX10_tune 46 = .ok (.getfield 15, 3)) ∧ (decode cX10_tune 49 = .ok (.iconst 0, 1)) := by decide +kernel
theorem dX10_tune_32 : decode cX10_tune 32 = .ok (.bipush 6, 2) := dX10_tune_32g.1
theorem dX10_tune_34 : decode cX10_tune 34 = .ok (.if_icmp .gt 84, 3) := dX10_tune_32g.2.1
theorem dX10_tune_37 : decode cX10_tune 37 = .ok (.iconst 0, 1) := dX10_tune_32g.2.2.1
theorem dX10_tune_38 : decode cX10_tune 38 = .ok (.istore_n 3, 1) := dX10_tune_32g.2.2.2.1
theorem dX10_tune_39 : decode cX10_tune 39 = .ok (.iload_n 3, 1) := dX10_tune_32g.2.2.2.2.1
theorem dX10_tune_40 : decode cX10_tune 40 = .ok (.bipush 24, 2) := dX10_tune_32g.2.2.2.2.2.1
theorem dX10_tune_42 : decode cX10_tune 42 = .ok (.if_icmp .ge 70, 3) := dX10_tune_32g.2.2.2.2.2.2.1
theorem dX10_tune_45 : decode cX10_tune 45 = .ok (.aload_n 0, 1) := dX10_tune_32g.2.2.2.2.2.2.2.1
theorem dX10_tune_46 : decode cX10_tune 46 = .ok (.getfield 15, 3) := dX10_tune_32g.2.2.2.2.2.2.2.2.1
theorem dX10_tune_49 : decode cX10_tune 49 = .ok (.iconst 0, 1) := dX10_tune_32g.2.2.2.2.2.2.2.2.2
theorem dX10_tune_50g : (decode cX10_tune 50 = .ok (.iaload, 1)) ∧ (decode cX10_tune 51 = .ok (.aload_n 0, 1)) ∧ (decode cX10_tune 52 = .ok (.getfield 22, 3)) ∧ (decode cX10_tune 55 = .ok (.getfield 34, 3)) ∧ (decode cX10_tune 58 = .ok (.invokevirtual 40, 3)) ∧ (decode cX10_tune 61 = .ok (.if_icmp .ge 51, 3)) ∧ (decode cX10_tune 64 = .ok (.aload_n 0, 1)) ∧ (decode cX10_tune 65 = .ok (.iload_n 1, 1)) ∧ (decode cX10_tune 66 = .ok (.iload_n 3, 1)) ∧ (decode cX10_tune 67 = .ok (.iload_n 2, 1)) := by decide +kernel
theorem dX10_tune_50 : decode cX10_tune 50 = .ok (.iaload, 1) := dX10_tune_50g.1
theorem dX10_tune_51 : decode cX10_tune 51 = .ok (.aload_n 0, 1) := dX10_tune_50g.2.1
theorem dX10_tune_52 : decode cX10_tune 52 = .ok (.getfield 22, 3) := dX10_tune_50g.2.2.1
theorem dX10_tune_55 : decode cX10_tune 55 = .ok (.getfield 34, 3) := dX10_tune_50g.2.2.2.1
theorem dX10_tune_58 : decode cX10_tune 58 = .ok (.invokevirtual 40, 3) := dX10_tune_50g.2.2.2.2.1
theorem dX10_tune_61 : decode cX10_tune 61 = .ok (.if_icmp .ge 51, 3) := dX10_tune_50g.2.2.2.2.2.1
theorem dX10_tune_64 : decode cX10_tune 64 = .ok (.aload_n 0, 1) := dX10_tune_50g.2.2.2.2.2.2.1
theorem dX10_tune_65 : decode cX10_tune 65 = .ok (.iload_n 1, 1) := dX10_tune_50g.2.2.2.2.2.2.2.1
theorem dX10_tune_66 : decode cX10_tune 66 = .ok (.iload_n 3, 1) := dX10_tune_50g.2.2.2.2.2.2.2.2.1
theorem dX10_tune_67 : decode cX10_tune 67 = .ok (.iload_n 2, 1) := dX10_tune_50g.2.2.2.2.2.2.2.2.2
theorem dX10_tune_68g : (decode cX10_tune 68 = .ok (.invokevirtual 62, 3)) ∧ (decode cX10_tune 71 = .ok (.istore 4, 2)) ∧ (decode cX10_tune 73 = .ok (.iload 4, 2)) ∧ (decode cX10_tune 75 = .ok (.aload_n 0, 1)) ∧ (decode cX10_tune 76 = .ok (.getfield 15, 3)) ∧ (decode cX10_tune 79 = .ok (.iconst 0, 1)) ∧ (decode cX10_tune 80 = .ok (.iaload, 1)) ∧ (decode cX10_tune 81 = .ok (.if_icmp .le 25, 3)) ∧ (decode cX10_tune 84 = .ok (.aload_n 0, 1)) ∧ (decode cX10_tune 85 = .ok (.getfield 15, 3)) := by decide +kernel
theorem dX10_tune_68 : decode cX10_tune 68 = .ok (.invokevirtual 62, 3) := dX10_tune_68g.1
theorem dX10_tune_71 : decode cX10_tune 71 = .ok (.istore 4, 2) := dX10_tune_68g.2.1
theorem dX10_tune_73 : decode cX10_tune 73 = .ok (.iload 4, 2) := dX10_tune_68g.2.2.1
theorem dX10_tune_75 : decode cX10_tune 75 = .ok (.aload_n 0, 1) := dX10_tune_68g.2.2.2.1
theorem dX10_tune_76 : decode cX10_tune 76 = .ok (.getfield 15, 3) := dX10_tune_68g.2.2.2.2.1
theorem dX10_tune_79 : decode cX10_tune 79 = .ok (.iconst 0, 1) := dX10_tune_68g.2.2.2.2.2.1
theorem dX10_tune_80 : decode cX10_tune 80 = .ok (.iaload, 1) := dX10_tune_68g.2.2.2.2.2.2.1
theorem dX10_tune_81 : decode cX10_tune 81 = .ok (.if_icmp .le 25, 3) := dX10_tune_68g.2.2.2.2.2.2.2.1
theorem dX10_tune_84 : decode cX10_tune 84 = .ok (.aload_n 0, 1) := dX10_tune_68g.2.2.2.2.2.2.2.2.1
theorem dX10_tune_85 : decode cX10_tune 85 = .ok (.getfield 15, 3) := dX10_tune_68g.2.2.2.2.2.2.2.2.2
theorem dX10_tune_88g : (decode cX10_tune 88 = .ok (.iconst 0, 1)) ∧ (decode cX10_tune 89 = .ok (.iload 4, 2)) ∧ (decode cX10_tune 91 = .ok (.iastore, 1)) ∧ (decode cX10_tune 92 = .ok (.aload_n 0, 1)) ∧ (decode cX10_tune 93 = .ok (.getfield 15, 3)) ∧ (decode cX10_tune 96 = .ok (.iconst 1, 1)) ∧ (decode cX10_tune 97 = .ok (.iload_n 3, 1)) ∧ (decode cX10_tune 98 = .ok (.iastore, 1)) ∧ (decode cX10_tune 99 = .ok (.aload_n 0, 1)) ∧ (decode cX10_tune 100 = .ok (.getfield 15, 3)) := by decide +kernel
theorem dX10_tune_88 : decode cX10_tune 88 = .ok (.iconst 0, 1) := dX10_tune_88g.1
theorem dX10_tune_89 : decode cX10_tune 89 = .ok (.iload 4, 2) := dX10_tune_88g.2.1
theorem dX10_tune_91 : decode cX10_tune 91 = .ok (.iastore, 1) := dX10_tune_88g.2.2.1
theorem dX10_tune_92 : decode cX10_tune 92 = .ok (.aload_n 0, 1) := dX10_tune_88g.2.2.2.1
theorem dX10_tune_93 : decode cX10_tune 93 = .ok (.getfield 15, 3) := dX10_tune_88g.2.2.2.2.1
theorem dX10_tune_96 : decode cX10_tune 96 = .ok (.iconst 1, 1) := dX10_tune_88g.2.2.2.2.2.1
theorem dX10_tune_97 : decode cX10_tune 97 = .ok (.iload_n 3, 1) := dX10_tune_88g.2.2.2.2.2.2.1
theorem dX10_tune_98 : decode cX10_tune 98 = .ok (.iastore, 1) := dX10_tune_88g.2.2.2.2.2.2.2.1
theorem dX10_tune_99 : decode cX10_tune 99 = .ok (.aload_n 0, 1) := dX10_tune_88g.2.2.2.2.2.2.2.2.1
theorem dX10_tune_100 : decode cX10_tune 100 = .ok (.getfield 15, 3) := dX10_tune_88g.2.2.2.2.2.2.2.2.2
theorem dX10_tune_103g : (decode cX10_tune 103 = .ok (.iconst 2, 1)) ∧ (decode cX10_tune 104 = .ok (.iload_n 2, 1)) ∧ (decode cX10_tune 105 = .ok (.iastore, 1)) ∧ (decode cX10_tune 106 = .ok (.iinc 3 1, 3)) ∧ (decode cX10_tune 109 = .ok (.goto (-70), 3)) ∧ (decode cX10_tune 112 = .ok (.iinc 2 1, 3)) ∧ (decode cX10_tune 115 = .ok (.goto (-84), 3)) ∧ (decode cX10_tune 118 = .ok (.return_, 1)) := by decide +kernel
theorem dX10_tune_103 : decode cX10_tune 103 = .ok (.iconst 2, 1) := dX10_tune_103g.1
theorem dX10_tune_104 : decode cX10_tune 104 = .ok (.iload_n 2, 1) := dX10_tune_103g.2.1
theorem dX10_tune_105 : decode cX10_tune 105 = .ok (.iastore, 1) := dX10_tune_103g.2.2.1
theorem dX10_tune_106 : decode cX10_tune 106 = .ok (.iinc 3 1, 3) := dX10_tune_103g.2.2.2.1
theorem dX10_tune_109 : decode cX10_tune 109 = .ok (.goto (-70), 3) := dX10_tune_103g.2.2.2.2.1
theorem dX10_tune_112 : decode cX10_tune 112 = .ok (.iinc 2 1, 3) := dX10_tune_103g.2.2.2.2.2.1
theorem dX10_tune_115 : decode cX10_tune 115 = .ok (.goto (-84), 3) := dX10_tune_103g.2.2.2.2.2.2.1
theorem dX10_tune_118 : decode cX10_tune 118 = .ok (.return_, 1) := dX10_tune_103g.2.2.2.2.2.2.2
set_option maxHeartbeats 4000000 in
set_option maxRecDepth 100000 in
theorem c_X10_tune (l : Launch) (E : Nat → Nat) (D : va_G) (G : th_G) (h0 : Nat) (hG0 : G h0 = some (14, 0)) (x1 : Int32) : Met l yX10_tune (tb (.code yX10_tune cX10_tune 5 none)) (rm 7) (va_Pc [.ref h0, .int x1] (th_P E D G)) (QV E D G) 0 0 (th_A G) := by
  refine Met.ofW (cc := cX10_tune) (maxL := 5) (ret := none) (by decide) rfl ?_
  intro p e s m args below meth c s₁ B hml hv
  obtain ⟨hav, hI, hN, hK⟩ := hv
  have hx := B.exec
  have hb := B.bytes
  have hr := B.returns
  have hts := atoms_spec (ws := tb (.code yX10_tune cX10_tune 5 none)) B.pre
  have hown : s.vm.findClass RX10 = some m.cls := findClass_of_methodNamed B.named
  have hlocks := B.notSynchronized
  have hS : va_S (th_A G) s.heap s.heap [] := va_S.rf
  have hl := lv_entry ([.ref h0, .int x1]) (n := 5) (Nat.le_of_ble_eq_true rfl)
  rw [show entryFrame m args 5 = entryFrame m ([.ref h0, .int x1] : List Value).toArray 5 from by rw [hav], lg_entry_eq]
  generalize (lg_sl ([.ref h0, .int x1]) ++ List.replicate (5 - (lg_sl ([.ref h0, .int x1])).length) Slot.unset).toArray = ls at hl ⊢
  have hl : lv_has ls 5 [(0, .ref h0), (1, .int x1)] := hl
  generalize hR : (headSpec (tb (.code yX10_tune cX10_tune 5 none)) (rm 7)).room = R
  have hR := hR.symm
  generalize hQ : MQ below (QV E D G) args s 0 0 (th_A G) = QF
  have hQ := hQ.symm
  have J_31 : ∀ (nn : Nat) (H : Heap) (locs : List Loc) (ls : Array Slot) (v2556 : Int32), (Int.toNat (7 - v2556.toInt) = nn) → lv_has ls 5 [(2, .int v2556), (0, .ref h0), (1, .int x1)] → ((1 : Int) ≤ v2556.toInt ∧ v2556.toInt ≤ 7) → th_I (okC E) D G [] H → va_S (th_A G) s.heap H locs → W p l e R s m args below meth c H locs 0 0 QF (F0 m 31 ls []) := by
    intro nn
    induction nn using Nat.strongRecOn with
    | ind nn ih_31 =>
      intro H locs ls v2556 hm hl k2557 hI hS
      have J_39 : ∀ (nn : Nat) (H : Heap) (locs : List Loc) (ls : Array Slot) (v2558 : Int32), (Int.toNat (24 - v2558.toInt) = nn) → lv_has ls 5 [(3, .int v2558), (2, .int v2556), (0, .ref h0), (1, .int x1)] → ((0 : Int) ≤ v2558.toInt ∧ v2558.toInt ≤ 24) → ((1 : Int) ≤ v2556.toInt ∧ v2556.toInt ≤ 6) → th_I (okC E) D G [] H → va_S (th_A G) s.heap H locs → W p l e R s m args below meth c H locs 0 0 QF (F0 m 39 ls []) := by
        intro nn
        induction nn using Nat.strongRecOn with
        | ind nn ih_39 =>
          intro H locs ls v2558 hm hl k2560 k2561 hI hS
          refine lv_iload_n hx hb dX10_tune_39 rfl (lv_at hl 0 rfl) ?_
          refine lv_bipush (v := 24) hx hb dX10_tune_40 (by decide) ?_
          refine lv_icmp_ge (tgt := 112) hx hb dX10_tune_42 (by decide) (fun c2562 => ?_) (fun c2562 => ?_)
          · skip
            have k2563 := iv_le (X := (24)) (Y := v2558.toInt) (by decide) rfl c2562
            obtain ⟨v2564, e2565⟩ : ∃ y : Int32, y = v2556 + (1) := ⟨_, rfl⟩
            have tv2564 : v2564.toInt = v2556.toInt + (1) := iv_add rfl (by decide) e2565 (by omega) (by omega)
            refine lv_iinc (v := v2564) (lv' := [(2, .int v2564), (3, .int v2558), (0, .ref h0), (1, .int x1)]) hx hb dX10_tune_112 hl (k := 1) rfl (by rw [e2565]; rfl) (by decide) rfl (fun ls hl => ?_)
            refine lv_goto (tgt := 31) hx hb dX10_tune_115 (by decide) ?_
            exact ih_31 _ (by omega) H locs ls v2564 rfl (lv_sub hl [0, 2, 3] rfl) ⟨by omega, by omega⟩ hI hS
          · skip
            have k2566 := iv_nle (X := (24)) (Y := v2558.toInt) (by decide) rfl c2562
            refine lv_aload_n hx hb dX10_tune_45 rfl (lv_at hl 2 rfl) ?_
            obtain ⟨a2567, a2569, a2571, a2573, a2575, w2577, hO, hq2568, hq2570, hq2572, hq2574, hq2576⟩ := op_14 hI hG0 List.not_mem_nil
            have hI := th_I.weak (a := h0) hI
            refine th_get hx hb hts inT10 hown hK hO rfl 4 (by decide) (hts _ (tb_c wd_330)) rfl rfl dX10_tune_46 ?_
            refine lv_iconst (v := 0) hx hb dX10_tune_49 (by decide) ?_
            obtain ⟨_, hA2578⟩ := op_0 hI hq2576 (th_ne hG0 hq2576 (show (14 : Nat) ≠ 0 by decide))
            refine th_iald hx hb hK hA2578 0 rfl (iv_in (X := (0)) (by decide) (by omega) (by omega)) dX10_tune_50 (fun v2579 _ => ?_)
            refine lv_aload_n hx hb dX10_tune_51 rfl (lv_at hl 2 rfl) ?_
            refine th_get hx hb hts inT10 hown hK hO rfl 0 (by decide) (hts _ (tb_c wd_326)) rfl rfl dX10_tune_52 ?_
            have hI := th_I.close hI hG0 hO (ok_14 hq2568 hq2570 hq2572 hq2574 hq2576)
            obtain ⟨a2580, a2582, a2584, a2586, a2588, a2590, a2592, a2594, a2596, a2598, w2600, w2603, w2604, w2605, hO, hq2581, hq2583, hq2585, hq2587, hq2589, hq2591, hq2593, hq2595, hq2597, hq2599, ⟨k2601, k2602⟩, k2606⟩ := op_6 hI hq2568 List.not_mem_nil
            have hI := th_I.weak (a := a2567) hI
            refine th_getN hx hb hts inT6 hown hK hN hO rfl 8 (by decide) wn_79 rfl rfl dX10_tune_55 ?_
            have hI := th_I.close hI hq2568 hO (ok_6 hq2581 hq2583 hq2585 hq2587 hq2589 hq2591 hq2593 hq2595 hq2597 hq2599 ⟨by omega, by omega⟩ k2606)
            obtain ⟨a2608, w2610, hO, hq2609, ⟨k2611, k2612⟩, k2613⟩ := op_4 hI hq2597 List.not_mem_nil
            have hI := th_I.weak (a := a2596) hI
            have k2614 : (nI (6 % 32)).toInt = ((6 % 32 : Nat) : Int) := nI_toInt (by omega)
            have k2615 := k2613.1
            refine th_cVs (As := []) (rest := [.int v2579]) (n := 0) (d := 0) ⟨hx, hb, hml, hown, hts⟩ (c_X4_size l E D H a2596 (6 % 32) a2608 w2610 hO (by omega) (by omega) (by omega)) wd_1138 wd_507 wd_508 wd_3 wd_509 (by decide +kernel) ⟨by rw [hR]; exact Nat.le_of_ble_eq_true rfl, by rw [hR]; exact Nat.le_of_ble_eq_true rfl⟩ hN hK hS ⟨_, hO⟩ rfl rfl hl.1 rfl (Nat.le_of_ble_eq_true rfl) dX10_tune_58 ⟨Nat.zero_le _, Nat.zero_le _⟩ (fun r2607 locs hp hS => ?_)
            have hp := hp.symm
            subst hp
            have k2616 := iv_lo v2579
            have k2617 := iv_hi v2579
            refine lv_icmp_ge (tgt := 112) hx hb dX10_tune_61 (by decide) (fun c2618 => ?_) (fun c2618 => ?_)
            · skip
              have k2619 := iv_le (X := w2610.toInt) (Y := v2579.toInt) rfl rfl c2618
              obtain ⟨v2620, e2621⟩ : ∃ y : Int32, y = v2556 + (1) := ⟨_, rfl⟩
              have tv2620 : v2620.toInt = v2556.toInt + (1) := iv_add rfl (by decide) e2621 (by omega) (by omega)
              refine lv_iinc (v := v2620) (lv' := [(2, .int v2620), (3, .int v2558), (0, .ref h0), (1, .int x1)]) hx hb dX10_tune_112 hl (k := 1) rfl (by rw [e2621]; rfl) (by decide) rfl (fun ls hl => ?_)
              refine lv_goto (tgt := 31) hx hb dX10_tune_115 (by decide) ?_
              have hI := th_I.close hI hq2597 hO (ok_4 hq2609 ⟨by omega, by omega⟩ k2613)
              exact ih_31 _ (by omega) H locs ls v2620 rfl (lv_sub hl [0, 2, 3] rfl) ⟨by omega, by omega⟩ hI hS
            · skip
              have k2622 := iv_nle (X := w2610.toInt) (Y := v2579.toInt) rfl rfl c2618
              refine lv_aload_n hx hb dX10_tune_64 rfl (lv_at hl 2 rfl) ?_
              refine lv_iload_n hx hb dX10_tune_65 rfl (lv_at hl 3 rfl) ?_
              refine lv_iload_n hx hb dX10_tune_66 rfl (lv_at hl 0 rfl) ?_
              refine lv_iload_n hx hb dX10_tune_67 rfl (lv_at hl 1 rfl) ?_
              have hI := th_I.close hI hq2597 hO (ok_4 hq2609 ⟨by omega, by omega⟩ k2613)
              refine th_cVi (As := [.int x1, .int v2558, .int v2556]) (rest := []) (n := 3) (d := 6) ⟨hx, hb, hml, hown, hts⟩ (c_X10_tryClocks l E D G h0 hG0 x1 v2558 v2556) wd_1150 wd_1152 wp_37 wd_12 wd_1153 (by decide +kernel) ⟨by rw [hR]; exact Nat.le_of_ble_eq_true rfl, by rw [hR]; exact Nat.le_of_ble_eq_true rfl⟩ hI hN hK hS (rc_14 hI hG0 List.not_mem_nil) rfl rfl hl.1 rfl (Nat.le_of_ble_eq_true rfl) dX10_tune_68 ⟨Nat.zero_le _, Nat.zero_le _⟩ (fun r2623 H locs hp hI hS => ?_)
              refine lv_istore (lv' := [(4, .int r2623), (3, .int v2558), (2, .int v2556), (0, .ref h0), (1, .int x1)]) hx hb dX10_tune_71 hl (by decide) rfl (fun ls hl => ?_)
              refine lv_iload hx hb dX10_tune_73 (lv_at hl 0 rfl) ?_
              refine lv_aload_n hx hb dX10_tune_75 rfl (lv_at hl 3 rfl) ?_
              obtain ⟨a2624, a2626, a2628, a2630, a2632, w2634, hO, hq2625, hq2627, hq2629, hq2631, hq2633⟩ := op_14 hI hG0 List.not_mem_nil
              have hI := th_I.weak (a := h0) hI
              refine th_get hx hb hts inT10 hown hK hO rfl 4 (by decide) (hts _ (tb_c wd_330)) rfl rfl dX10_tune_76 ?_
              refine lv_iconst (v := 0) hx hb dX10_tune_79 (by decide) ?_
              obtain ⟨_, hA2635⟩ := op_0 hI hq2633 (th_ne hG0 hq2633 (show (14 : Nat) ≠ 0 by decide))
              refine th_iald hx hb hK hA2635 0 rfl (iv_in (X := (0)) (by decide) (by omega) (by omega)) dX10_tune_80 (fun v2636 _ => ?_)
              have k2637 := iv_lo r2623
              have k2638 := iv_hi r2623
              have k2639 := iv_lo v2636
              have k2640 := iv_hi v2636
              refine lv_icmp_le (tgt := 106) hx hb dX10_tune_81 (by decide) (fun c2641 => ?_) (fun c2641 => ?_)
              · skip
                have k2642 := iv_le (X := r2623.toInt) (Y := v2636.toInt) rfl rfl c2641
                obtain ⟨v2643, e2644⟩ : ∃ y : Int32, y = v2558 + (1) := ⟨_, rfl⟩
                have tv2643 : v2643.toInt = v2558.toInt + (1) := iv_add rfl (by decide) e2644 (by omega) (by omega)
                refine lv_iinc (v := v2643) (lv' := [(3, .int v2643), (4, .int r2623), (2, .int v2556), (0, .ref h0), (1, .int x1)]) hx hb dX10_tune_106 hl (k := 1) rfl (by rw [e2644]; rfl) (by decide) rfl (fun ls hl => ?_)
                refine lv_goto (tgt := 39) hx hb dX10_tune_109 (by decide) ?_
                have hI := th_I.close hI hG0 hO (ok_14 hq2625 hq2627 hq2629 hq2631 hq2633)
                exact ih_39 _ (by omega) H locs ls v2643 rfl (lv_sub hl [0, 2, 3, 4] rfl) ⟨by omega, by omega⟩ ⟨by omega, by omega⟩ hI hS
              · skip
                have k2645 := iv_nle (X := r2623.toInt) (Y := v2636.toInt) rfl rfl c2641
                refine lv_aload_n hx hb dX10_tune_84 rfl (lv_at hl 3 rfl) ?_
                refine th_get hx hb hts inT10 hown hK hO rfl 4 (by decide) (hts _ (tb_c wd_330)) rfl rfl dX10_tune_85 ?_
                refine lv_iconst (v := 0) hx hb dX10_tune_88 (by decide) ?_
                refine lv_iload hx hb dX10_tune_89 (lv_at hl 0 rfl) ?_
                obtain ⟨_, hA2646⟩ := op_0 hI hq2633 (th_ne hG0 hq2633 (show (14 : Nat) ≠ 0 by decide))
                refine th_iast hx hb hK hA2646 0 rfl hS ⟨_, hq2633⟩ (iv_in (X := (0)) (by decide) (by omega) (by omega)) dX10_tune_91 (fun H locs hA2646 oq hS => ?_)
                have hI := th_I.put hI hq2633 hA2646 ok_0 oq
                have hO := hO.kept (oq _ (fun z => th_ne hG0 hq2633 (show (14 : Nat) ≠ 0 by decide) (List.mem_singleton.mpr z.symm)))
                refine lv_aload_n hx hb dX10_tune_92 rfl (lv_at hl 3 rfl) ?_
                refine th_get hx hb hts inT10 hown hK hO rfl 4 (by decide) (hts _ (tb_c wd_330)) rfl rfl dX10_tune_93 ?_
                refine lv_iconst (v := 1) hx hb dX10_tune_96 (by decide) ?_
                refine lv_iload_n hx hb dX10_tune_97 rfl (lv_at hl 1 rfl) ?_
                obtain ⟨_, hA2647⟩ := op_0 hI hq2633 (th_ne hG0 hq2633 (show (14 : Nat) ≠ 0 by decide))
                refine th_iast hx hb hK hA2647 0 rfl hS ⟨_, hq2633⟩ (iv_in (X := (1)) (by decide) (by omega) (by omega)) dX10_tune_98 (fun H locs hA2647 oq hS => ?_)
                have hI := th_I.put hI hq2633 hA2647 ok_0 oq
                have hO := hO.kept (oq _ (fun z => th_ne hG0 hq2633 (show (14 : Nat) ≠ 0 by decide) (List.mem_singleton.mpr z.symm)))
                refine lv_aload_n hx hb dX10_tune_99 rfl (lv_at hl 3 rfl) ?_
                refine th_get hx hb hts inT10 hown hK hO rfl 4 (by decide) (hts _ (tb_c wd_330)) rfl rfl dX10_tune_100 ?_
                refine lv_iconst (v := 2) hx hb dX10_tune_103 (by decide) ?_
                refine lv_iload_n hx hb dX10_tune_104 rfl (lv_at hl 2 rfl) ?_
                obtain ⟨_, hA2648⟩ := op_0 hI hq2633 (th_ne hG0 hq2633 (show (14 : Nat) ≠ 0 by decide))
                refine th_iast hx hb hK hA2648 0 rfl hS ⟨_, hq2633⟩ (iv_in (X := (2)) (by decide) (by omega) (by omega)) dX10_tune_105 (fun H locs hA2648 oq hS => ?_)
                have hI := th_I.put hI hq2633 hA2648 ok_0 oq
                have hO := hO.kept (oq _ (fun z => th_ne hG0 hq2633 (show (14 : Nat) ≠ 0 by decide) (List.mem_singleton.mpr z.symm)))
                obtain ⟨v2649, e2650⟩ : ∃ y : Int32, y = v2558 + (1) := ⟨_, rfl⟩
                have tv2649 : v2649.toInt = v2558.toInt + (1) := iv_add rfl (by decide) e2650 (by omega) (by omega)
                refine lv_iinc (v := v2649) (lv' := [(3, .int v2649), (4, .int r2623), (2, .int v2556), (0, .ref h0), (1, .int x1)]) hx hb dX10_tune_106 hl (k := 1) rfl (by rw [e2650]; rfl) (by decide) rfl (fun ls hl => ?_)
                refine lv_goto (tgt := 39) hx hb dX10_tune_109 (by decide) ?_
                have hI := th_I.close hI hG0 hO (ok_14 hq2625 hq2627 hq2629 hq2631 hq2633)
                exact ih_39 _ (by omega) H locs ls v2649 rfl (lv_sub hl [0, 2, 3, 4] rfl) ⟨by omega, by omega⟩ ⟨by omega, by omega⟩ hI hS
      refine lv_iload_n hx hb dX10_tune_31 rfl (lv_at hl 0 rfl) ?_
      refine lv_bipush (v := 6) hx hb dX10_tune_32 (by decide) ?_
      refine lv_icmp_gt (tgt := 118) hx hb dX10_tune_34 (by decide) (fun c2651 => ?_) (fun c2651 => ?_)
      · skip
        have k2652 := iv_lt (X := (6)) (Y := v2556.toInt) (by decide) rfl c2651
        rw [hQ]
        exact W.vret hx hb hr (fun t ht hW => ⟨⟨(), rfl, trivial, by rw [ht]; exact hI, hN.warm hW, va_K.moved hW.alike hK⟩, hS.F ht⟩) hS.2.2 dX10_tune_118
      · skip
        have k2653 := iv_nlt (X := (6)) (Y := v2556.toInt) (by decide) rfl c2651
        refine lv_iconst (v := 0) hx hb dX10_tune_37 (by decide) ?_
        refine lv_istore_n (lv' := [(3, .int 0), (2, .int v2556), (0, .ref h0), (1, .int x1)]) hx hb dX10_tune_38 rfl hl (by decide) rfl (fun ls hl => ?_)
        have zl : (0 : Int32).toInt = 0 := by decide
        exact J_39 _ H locs ls 0 rfl (lv_sub hl [0, 1, 2, 3] rfl) ⟨by decide, by decide⟩ ⟨by omega, by omega⟩ hI hS
  refine lv_aload_n hx hb dX10_tune_0 rfl (lv_at hl 0 rfl) ?_
  obtain ⟨a2654, a2656, a2658, a2660, a2662, w2664, hO, hq2655, hq2657, hq2659, hq2661, hq2663⟩ := op_14 hI hG0 List.not_mem_nil
  have hI := th_I.weak (a := h0) hI
  refine th_get hx hb hts inT10 hown hK hO rfl 5 (by decide) (hts _ (tb_c wd_331)) rfl rfl dX10_tune_1 ?_
  refine lv_iload_n hx hb dX10_tune_4 rfl (lv_at hl 1 rfl) ?_
  have k2665 := iv_lo w2664
  have k2666 := iv_hi w2664
  have k2667 := iv_lo x1
  have k2668 := iv_hi x1
  refine lv_icmp_ne (tgt := 9) hx hb dX10_tune_5 (by decide) (fun c2669 => ?_) (fun c2669 => ?_)
  · skip
    have k2670 := iv_ne (X := w2664.toInt) (Y := x1.toInt) rfl rfl c2669
    refine lv_aload_n hx hb dX10_tune_9 rfl (lv_at hl 0 rfl) ?_
    refine lv_iload_n hx hb dX10_tune_10 rfl (lv_at hl 1 rfl) ?_
    refine th_put (ty := .int) hx hb hts inT10 tyX10 tyX10_ok nmX10 hown hK hO hS ⟨_, hG0⟩ rfl 5 (by decide) (hts _ (tb_c wd_331)) rfl rfl (by decide +kernel) rfl rfl (Nat.le_of_ble_eq_true rfl) dX10_tune_11 (fun H locs hO oq hS => ?_)
    have hI := th_I.moved hI oq
    have hO : va_at D vwCl (h0, .inr (10, [.ref a2654, .ref a2656, .ref a2658, .ref a2660, .ref a2662, .int x1])) H := hO
    refine lv_aload_n hx hb dX10_tune_14 rfl (lv_at hl 0 rfl) ?_
    refine th_get hx hb hts inT10 hown hK hO rfl 3 (by decide) (hts _ (tb_c wd_329)) rfl rfl dX10_tune_15 ?_
    refine lv_iconst (v := 0) hx hb dX10_tune_18 (by decide) ?_
    have hI := th_I.close hI hG0 hO (ok_14 hq2655 hq2657 hq2659 hq2661 hq2663)
    refine th_cSv (As := [.ref a2660, .int 0]) (rest := []) (n := 2) (d := 0) ⟨hx, hb, hml, hown, hts⟩ (c_J7_fill_53178 l E D G a2660 (2304) hq2661 (by omega) 0) wd_1149 wd_541 wd_15 wd_542 (by decide +kernel) ⟨by rw [hR]; exact Nat.le_of_ble_eq_true rfl, by rw [hR]; exact Nat.le_of_ble_eq_true rfl⟩ hI hN hK hS rfl hl.1 rfl (Nat.le_of_ble_eq_true rfl) dX10_tune_19 ⟨Nat.zero_le _, Nat.zero_le _⟩ (fun H locs hI hS => ?_)
    refine lv_aload_n hx hb dX10_tune_22 rfl (lv_at hl 0 rfl) ?_
    obtain ⟨a2672, a2674, a2676, a2678, a2680, w2682, hO, hq2673, hq2675, hq2677, hq2679, hq2681⟩ := op_14 hI hG0 List.not_mem_nil
    have hI := th_I.weak (a := h0) hI
    refine th_get hx hb hts inT10 hown hK hO rfl 4 (by decide) (hts _ (tb_c wd_330)) rfl rfl dX10_tune_23 ?_
    refine lv_iconst (v := 0) hx hb dX10_tune_26 (by decide) ?_
    refine lv_iconst (v := (-1)) hx hb dX10_tune_27 (by decide) ?_
    obtain ⟨_, hA2683⟩ := op_0 hI hq2681 (th_ne hG0 hq2681 (show (14 : Nat) ≠ 0 by decide))
    refine th_iast hx hb hK hA2683 0 rfl hS ⟨_, hq2681⟩ (iv_in (X := (0)) (by decide) (by omega) (by omega)) dX10_tune_28 (fun H locs hA2683 oq hS => ?_)
    have hI := th_I.put hI hq2681 hA2683 ok_0 oq
    have hO := hO.kept (oq _ (fun z => th_ne hG0 hq2681 (show (14 : Nat) ≠ 0 by decide) (List.mem_singleton.mpr z.symm)))
    refine lv_iconst (v := 1) hx hb dX10_tune_29 (by decide) ?_
    refine lv_istore_n (lv' := [(2, .int 1), (0, .ref h0), (1, .int x1)]) hx hb dX10_tune_30 rfl hl (by decide) rfl (fun ls hl => ?_)
    have hI := th_I.close hI hG0 hO (ok_14 hq2673 hq2675 hq2677 hq2679 hq2681)
    have zl : (1 : Int32).toInt = 1 := by decide
    exact J_31 _ H locs ls 1 rfl (lv_sub hl [0, 1, 2] rfl) ⟨by decide, by decide⟩ hI hS
  · skip
    have k2684 := iv_eq (X := w2664.toInt) (Y := x1.toInt) rfl rfl c2669
    have hI := th_I.close hI hG0 hO (ok_14 hq2655 hq2657 hq2659 hq2661 hq2663)
    rw [hQ]
    exact W.vret hx hb hr (fun t ht hW => ⟨⟨(), rfl, trivial, by rw [ht]; exact hI, hN.warm hW, va_K.moved hW.alike hK⟩, hS.F ht⟩) hS.2.2 dX10_tune_8
