theorem wn_77 : (Cond.fieldLinkNest RX11 (307 : Nat) "NineRiver$State" "jobs" "LNineRiver$Rows;" "NineRiver") ∈ lw_tbl := List.mem_append_right _ (List.mem_of_getElem? (i := 77) (by decide +kernel))
theorem wn_80 : (Cond.fieldLinkNest RX11 (322 : Nat) "NineRiver$State" "wishes" "LNineRiver$Rows;" "NineRiver") ∈ lw_tbl := List.mem_append_right _ (List.mem_of_getElem? (i := 80) (by decide +kernel))
theorem wp_9 : Cond.selects RX11 yX11_pourFromTape yX11_pourFromTape ∈ TB := tv 9 (by decide +kernel) (by decide +kernel)
theorem wd_1016 : (Cond.methodLink RX11 (301 : Nat) yX5_findAlone) ∈ TB := tw 1016 (by decide +kernel) (by decide +kernel)
theorem wd_1017 : (Jvm.Cond.instanceMethod yX5_findAlone) ∈ TB := tw 1017 (by decide +kernel) (by decide +kernel)
theorem wd_1018 : (Cond.selects RX5 yX5_findAlone yX5_findAlone) ∈ TB := tw 1018 (by decide +kernel) (by decide +kernel)
theorem wd_1019 : (Cond.code yX5_findAlone cX5_findAlone 5 (Option.some Jvm.ClassFile.FieldType.int)) ∈ TB := tw 1019 (by decide +kernel) (by decide +kernel)
theorem wd_1084 : (Cond.methodLink RX11 (313 : Nat) yX8_answer) ∈ TB := tw 1084 (by decide +kernel) (by decide +kernel)
theorem wd_1085 : (Jvm.Cond.instanceMethod yX8_answer) ∈ TB := tw 1085 (by decide +kernel) (by decide +kernel)
theorem wd_1086 : (Cond.selects RX8 yX8_answer yX8_answer) ∈ TB := tw 1086 (by decide +kernel) (by decide +kernel)
theorem wd_1087 : (Cond.code yX8_answer cX8_answer 10 (Option.some Jvm.ClassFile.FieldType.int)) ∈ TB := tw 1087 (by decide +kernel) (by decide +kernel)
theorem wd_1098 : (Cond.methodLink RX11 (316 : Nat) yX9_paddle) ∈ TB := tw 1098 (by decide +kernel) (by decide +kernel)
theorem wd_1099 : (Jvm.Cond.instanceMethod yX9_paddle) ∈ TB := tw 1099 (by decide +kernel) (by decide +kernel)
theorem wd_1100 : (Cond.selects RX9 yX9_paddle yX9_paddle) ∈ TB := tw 1100 (by decide +kernel) (by decide +kernel)
theorem wd_1101 : (Cond.code yX9_paddle cX9_paddle 6 (Option.some Jvm.ClassFile.FieldType.int)) ∈ TB := tw 1101 (by decide +kernel) (by decide +kernel)
theorem wd_1109 : (Cond.methodLink RX11 (319 : Nat) yX9_turningHours) ∈ TB := tw 1109 (by decide +kernel) (by decide +kernel)
theorem wd_1110 : (Jvm.Cond.instanceMethod yX9_turningHours) ∈ TB := tw 1110 (by decide +kernel) (by decide +kernel)
theorem wd_1111 : (Cond.selects RX9 yX9_turningHours yX9_turningHours) ∈ TB := tw 1111 (by decide +kernel) (by decide +kernel)
theorem wd_1112 : (Cond.code yX9_turningHours cX9_turningHours 11 (Option.some Jvm.ClassFile.FieldType.int)) ∈ TB := tw 1112 (by decide +kernel) (by decide +kernel)
theorem wd_1134 : (Cond.methodLink RX11 (325 : Nat) yX10_grantedNow) ∈ TB := tw 1134 (by decide +kernel) (by decide +kernel)
theorem wd_1135 : (Jvm.Cond.instanceMethod yX10_grantedNow) ∈ TB := tw 1135 (by decide +kernel) (by decide +kernel)
theorem wd_1136 : (Cond.selects RX10 yX10_grantedNow yX10_grantedNow) ∈ TB := tw 1136 (by decide +kernel) (by decide +kernel)
theorem wd_1137 : (Cond.code yX10_grantedNow cX10_grantedNow 4 (Option.some Jvm.ClassFile.FieldType.int)) ∈ TB := tw 1137 (by decide +kernel) (by decide +kernel)
theorem wd_1145 : (Cond.methodLink RX11 (328 : Nat) yX10_tune) ∈ TB := tw 1145 (by decide +kernel) (by decide +kernel)
theorem wd_1146 : (Jvm.Cond.instanceMethod yX10_tune) ∈ TB := tw 1146 (by decide +kernel) (by decide +kernel)
theorem wd_1147 : (Cond.selects RX10 yX10_tune yX10_tune) ∈ TB := tw 1147 (by decide +kernel) (by decide +kernel)
theorem wd_1148 : (Cond.code yX10_tune cX10_tune 5 (Option.none : Option Jvm.ClassFile.FieldType)) ∈ TB := tw 1148 (by decide +kernel) (by decide +kernel)
theorem wd_1168 : (Cond.methodLink RX11 (331 : Nat) yX10_tuned) ∈ TB := tw 1168 (by decide +kernel) (by decide +kernel)
theorem wd_1169 : (Jvm.Cond.instanceMethod yX10_tuned) ∈ TB := tw 1169 (by decide +kernel) (by decide +kernel)
theorem wd_1170 : (Cond.selects RX10 yX10_tuned yX10_tuned) ∈ TB := tw 1170 (by decide +kernel) (by decide +kernel)
theorem wd_1171 : (Cond.code yX10_tuned cX10_tuned 2 (Option.some Jvm.ClassFile.FieldType.int)) ∈ TB := tw 1171 (by decide +kernel) (by decide +kernel)
theorem wd_1176 : (Cond.methodLink RX11 (334 : Nat) yX6_tellClocks) ∈ TB := tw 1176 (by decide +kernel) (by decide +kernel)
theorem wd_1181 : (Cond.constant RX11 (337 : Nat) (1000000 : Int32)) ∈ TB := tw 1181 (by decide +kernel) (by decide +kernel)
theorem wd_1182 : (Cond.methodLink RX11 (338 : Nat) yX9_drawWeek) ∈ TB := tw 1182 (by decide +kernel) (by decide +kernel)
theorem wd_1183 : (Jvm.Cond.instanceMethod yX9_drawWeek) ∈ TB := tw 1183 (by decide +kernel) (by decide +kernel)
theorem wd_1184 : (Cond.selects RX9 yX9_drawWeek yX9_drawWeek) ∈ TB := tw 1184 (by decide +kernel) (by decide +kernel)
theorem wd_1185 : (Cond.code yX9_drawWeek cX9_drawWeek 9 (Option.some Jvm.ClassFile.FieldType.int)) ∈ TB := tw 1185 (by decide +kernel) (by decide +kernel)
theorem wd_1219 : (Cond.methodLink RX11 (345 : Nat) yX6_countStrikes) ∈ TB := tw 1219 (by decide +kernel) (by decide +kernel)
theorem wd_1220 : (Jvm.Cond.instanceMethod yX6_countStrikes) ∈ TB := tw 1220 (by decide +kernel) (by decide +kernel)
theorem wd_1221 : (Cond.selects RX6 yX6_countStrikes yX6_countStrikes) ∈ TB := tw 1221 (by decide +kernel) (by decide +kernel)
theorem wd_1222 : (Cond.code yX6_countStrikes cX6_countStrikes 6 (Option.some Jvm.ClassFile.FieldType.int)) ∈ TB := tw 1222 (by decide +kernel) (by decide +kernel)
theorem wd_349 : (Cond.fieldLink RX11 (27 : Nat) "NineRiver" "landed" "[I") ∈ TB := tw 349 (by decide +kernel) (by decide +kernel)
theorem wd_361 : (Cond.fieldLink RX11 (102 : Nat) "NineRiver" "hasWeek" "Z") ∈ TB := tw 361 (by decide +kernel) (by decide +kernel)
theorem wd_613 : (Cond.methodLink RX11 (188 : Nat) yX11_pourFromTape) ∈ TB := tw 613 (by decide +kernel) (by decide +kernel)
theorem wd_615 : (Jvm.Cond.instanceMethod yX11_pourFromTape) ∈ TB := tw 615 (by decide +kernel) (by decide +kernel)
theorem wd_616 : (Cond.code yX11_pourFromTape cX11_pourFromTape 6 (Option.some Jvm.ClassFile.FieldType.boolean)) ∈ TB := tw 616 (by decide +kernel) (by decide +kernel)
theorem wd_995 : (Cond.methodLink RX11 (298 : Nat) yX5_countAlone) ∈ TB := tw 995 (by decide +kernel) (by decide +kernel)
theorem wd_996 : (Jvm.Cond.instanceMethod yX5_countAlone) ∈ TB := tw 996 (by decide +kernel) (by decide +kernel)
theorem wd_997 : (Cond.selects RX5 yX5_countAlone yX5_countAlone) ∈ TB := tw 997 (by decide +kernel) (by decide +kernel)
theorem wd_998 : (Cond.code yX5_countAlone cX5_countAlone 7 (Option.some Jvm.ClassFile.FieldType.int)) ∈ TB := tw 998 (by decide +kernel) (by decide +kernel)
theorem dX11_pourFromTape_0 : decode cX11_pourFromTape 0 = .ok (.iload_n 1, 1) := by decide +kernel
theorem dX11_pourFromTape_1 : decode cX11_pourFromTape 1 = .ok (.ifCond .lt 13, 3) := by decide +kernel
theorem dX11_pourFromTape_4 : decode cX11_pourFromTape 4 = .ok (.iload_n 1, 1) := by decide +kernel
theorem dX11_pourFromTape_5 : decode cX11_pourFromTape 5 = .ok (.iconst 4, 1) := by decide +kernel
theorem dX11_pourFromTape_6 : decode cX11_pourFromTape 6 = .ok (.iadd, 1) := by decide +kernel
theorem dX11_pourFromTape_7 : decode cX11_pourFromTape 7 = .ok (.aload_n 0, 1) := by decide +kernel
theorem dX11_pourFromTape_8 : decode cX11_pourFromTape 8 = .ok (.getfield 89, 3) := by decide +kernel
theorem dX11_pourFromTape_11 : decode cX11_pourFromTape 11 = .ok (.if_icmp .le 5, 3) := by decide +kernel
theorem dX11_pourFromTape_14 : decode cX11_pourFromTape 14 = .ok (.iconst 0, 1) := by decide +kernel
theorem dX11_pourFromTape_15 : decode cX11_pourFromTape 15 = .ok (.ireturn, 1) := by decide +kernel
theorem dX11_pourFromTape_16 : decode cX11_pourFromTape 16 = .ok (.aload_n 0, 1) := by decide +kernel
theorem dX11_pourFromTape_17 : decode cX11_pourFromTape 17 = .ok (.getfield 20, 3) := by decide +kernel
theorem dX11_pourFromTape_20 : decode cX11_pourFromTape 20 = .ok (.iload_n 1, 1) := by decide +kernel
theorem dX11_pourFromTape_21 : decode cX11_pourFromTape 21 = .ok (.iaload, 1) := by decide +kernel
theorem dX11_pourFromTape_22 : decode cX11_pourFromTape 22 = .ok (.istore_n 2, 1) := by decide +kernel
theorem dX11_pourFromTape_23 : decode cX11_pourFromTape 23 = .ok (.aload_n 0, 1) := by decide +kernel
theorem dX11_pourFromTape_24 : decode cX11_pourFromTape 24 = .ok (.getfield 20, 3) := by decide +kernel
theorem dX11_pourFromTape_27 : decode cX11_pourFromTape 27 = .ok (.iload_n 1, 1) := by decide +kernel
theorem dX11_pourFromTape_28 : decode cX11_pourFromTape 28 = .ok (.iconst 1, 1) := by decide +kernel
theorem dX11_pourFromTape_29 : decode cX11_pourFromTape 29 = .ok (.iadd, 1) := by decide +kernel
theorem dX11_pourFromTape_30 : decode cX11_pourFromTape 30 = .ok (.iaload, 1) := by decide +kernel
theorem dX11_pourFromTape_31 : decode cX11_pourFromTape 31 = .ok (.istore_n 3, 1) := by decide +kernel
theorem dX11_pourFromTape_32 : decode cX11_pourFromTape 32 = .ok (.aload_n 0, 1) := by decide +kernel
theorem dX11_pourFromTape_33 : decode cX11_pourFromTape 33 = .ok (.getfield 20, 3) := by decide +kernel
theorem dX11_pourFromTape_36 : decode cX11_pourFromTape 36 = .ok (.iload_n 1, 1) := by decide +kernel
theorem dX11_pourFromTape_37 : decode cX11_pourFromTape 37 = .ok (.iconst 2, 1) := by decide +kernel
theorem dX11_pourFromTape_38 : decode cX11_pourFromTape 38 = .ok (.iadd, 1) := by decide +kernel
theorem dX11_pourFromTape_39 : decode cX11_pourFromTape 39 = .ok (.iaload, 1) := by decide +kernel
theorem dX11_pourFromTape_40 : decode cX11_pourFromTape 40 = .ok (.istore 4, 2) := by decide +kernel
theorem dX11_pourFromTape_42 : decode cX11_pourFromTape 42 = .ok (.aload_n 0, 1) := by decide +kernel
theorem dX11_pourFromTape_43 : decode cX11_pourFromTape 43 = .ok (.getfield 20, 3) := by decide +kernel
theorem dX11_pourFromTape_46 : decode cX11_pourFromTape 46 = .ok (.iload_n 1, 1) := by decide +kernel
theorem dX11_pourFromTape_47 : decode cX11_pourFromTape 47 = .ok (.iconst 3, 1) := by decide +kernel
theorem dX11_pourFromTape_48 : decode cX11_pourFromTape 48 = .ok (.iadd, 1) := by decide +kernel
theorem dX11_pourFromTape_49 : decode cX11_pourFromTape 49 = .ok (.iaload, 1) := by decide +kernel
theorem dX11_pourFromTape_50 : decode cX11_pourFromTape 50 = .ok (.istore 5, 2) := by decide +kernel
theorem dX11_pourFromTape_52 : decode cX11_pourFromTape 52 = .ok (.iload_n 2, 1) := by decide +kernel
theorem dX11_pourFromTape_53 : decode cX11_pourFromTape 53 = .ok (.iload_n 3, 1) := by decide +kernel
theorem dX11_pourFromTape_54 : decode cX11_pourFromTape 54 = .ok (.iload 4, 2) := by decide +kernel
theorem dX11_pourFromTape_56 : decode cX11_pourFromTape 56 = .ok (.iload 5, 2) := by decide +kernel
theorem dX11_pourFromTape_58 : decode cX11_pourFromTape 58 = .ok (.invokestatic 262, 3) := by decide +kernel
theorem dX11_pourFromTape_61 : decode cX11_pourFromTape 61 = .ok (.ifCond .eq 15, 3) := by decide +kernel
theorem dX11_pourFromTape_64 : decode cX11_pourFromTape 64 = .ok (.aload_n 0, 1) := by decide +kernel
theorem dX11_pourFromTape_65 : decode cX11_pourFromTape 65 = .ok (.getfield 42, 3) := by decide +kernel
theorem dX11_pourFromTape_68 : decode cX11_pourFromTape 68 = .ok (.iload_n 2, 1) := by decide +kernel
theorem dX11_pourFromTape_69 : decode cX11_pourFromTape 69 = .ok (.iload_n 3, 1) := by decide +kernel
theorem dX11_pourFromTape_70 : decode cX11_pourFromTape 70 = .ok (.invokevirtual 220, 3) := by decide +kernel
theorem dX11_pourFromTape_73 : decode cX11_pourFromTape 73 = .ok (.ifCond .eq 5, 3) := by decide +kernel
theorem dX11_pourFromTape_76 : decode cX11_pourFromTape 76 = .ok (.iconst 0, 1) := by decide +kernel
theorem dX11_pourFromTape_77 : decode cX11_pourFromTape 77 = .ok (.ireturn, 1) := by decide +kernel
theorem dX11_pourFromTape_78 : decode cX11_pourFromTape 78 = .ok (.aload_n 0, 1) := by decide +kernel
theorem dX11_pourFromTape_79 : decode cX11_pourFromTape 79 = .ok (.getfield 12, 3) := by decide +kernel
theorem dX11_pourFromTape_82 : decode cX11_pourFromTape 82 = .ok (.getfield 266, 3) := by decide +kernel
theorem dX11_pourFromTape_85 : decode cX11_pourFromTape 85 = .ok (.iload_n 2, 1) := by decide +kernel
theorem dX11_pourFromTape_86 : decode cX11_pourFromTape 86 = .ok (.iload_n 3, 1) := by decide +kernel
theorem dX11_pourFromTape_87 : decode cX11_pourFromTape 87 = .ok (.iload 4, 2) := by decide +kernel
theorem dX11_pourFromTape_89 : decode cX11_pourFromTape 89 = .ok (.iload 5, 2) := by decide +kernel
theorem dX11_pourFromTape_91 : decode cX11_pourFromTape 91 = .ok (.invokevirtual 155, 3) := by decide +kernel
theorem dX11_pourFromTape_94 : decode cX11_pourFromTape 94 = .ok (.iconst (-1), 1) := by decide +kernel
theorem dX11_pourFromTape_95 : decode cX11_pourFromTape 95 = .ok (.if_icmp .eq 7, 3) := by decide +kernel
theorem dX11_pourFromTape_98 : decode cX11_pourFromTape 98 = .ok (.iconst 1, 1) := by decide +kernel
theorem dX11_pourFromTape_99 : decode cX11_pourFromTape 99 = .ok (.goto 4, 3) := by decide +kernel
theorem dX11_pourFromTape_102 : decode cX11_pourFromTape 102 = .ok (.iconst 0, 1) := by decide +kernel
theorem dX11_pourFromTape_103 : decode cX11_pourFromTape 103 = .ok (.ireturn, 1) := by decide +kernel
set_option maxHeartbeats 4000000 in
set_option maxRecDepth 100000 in
theorem c_X11_pourFromTape (l : Launch) (E : Nat → ClassId) (D : va_G) (G : th_G) (h0 n : Nat) (hG0 : G h0 = some (15, n)) (x1 : Int32) (hx1 : (0 : Int) ≤ x1.toInt ∧ x1.toInt ≤ 400) : Met l yX11_pourFromTape (tb (.code yX11_pourFromTape cX11_pourFromTape 6 (some .boolean))) (rm 6) (va_Pc [.ref h0, .int x1] (th_P E D G)) (QI E D G (fun r => 0 ≤ (r : Int32).toInt ∧ (r : Int32).toInt ≤ 1)) 0 0 (th_A G) := by
  refine Met.ofW (cc := cX11_pourFromTape) (maxL := 6) (ret := (some .boolean)) (by decide) rfl ?_
  intro p e s m args below meth c s₁ B hml hv
  obtain ⟨hav, hI, hN, hK⟩ := hv
  have hx := B.exec
  have hb := B.bytes
  have hr := B.returns
  have hts := atoms_spec (ws := tb (.code yX11_pourFromTape cX11_pourFromTape 6 (some .boolean))) B.pre
  have hown : s.vm.findClass RX11 = some m.cls := findClass_of_methodNamed B.named
  have hlocks := B.notSynchronized
  have hS : va_S (th_A G) s.heap s.heap [] := va_S.rf
  have hl := lv_entry ([.ref h0, .int x1]) (n := 6) (Nat.le_of_ble_eq_true rfl)
  rw [show entryFrame m args 6 = entryFrame m ([.ref h0, .int x1] : List Value).toArray 6 from by rw [hav], lg_entry_eq]
  generalize (lg_sl ([.ref h0, .int x1]) ++ List.replicate (6 - (lg_sl ([.ref h0, .int x1])).length) Slot.unset).toArray = ls at hl ⊢
  have hl : lv_has ls 6 [(0, .ref h0), (1, .int x1)] := hl
  generalize hR : (headSpec (tb (.code yX11_pourFromTape cX11_pourFromTape 6 (some .boolean))) (rm 6)).room = R
  have hR := hR.symm
  generalize hQ : MQ below (QI E D G (fun r => 0 ≤ (r : Int32).toInt ∧ (r : Int32).toInt ≤ 1)) args s 0 0 (th_A G) = QF
  have hQ := hQ.symm
  have J_76 : ∀ (H : Heap) (locs : List Loc) (ls : Array Slot) (v1021 : Int32) (v1022 : Int32) (v1023 : Int32) (v1024 : Int32), lv_has ls 6 [(5, .int v1021), (4, .int v1022), (3, .int v1023), (2, .int v1024), (0, .ref h0), (1, .int x1)] → ((0 : Int) ≤ x1.toInt ∧ x1.toInt ≤ 400) → th_I (okC E) D G [] H → va_S (th_A G) s.heap H locs → W p l e R s m args below meth c H locs 0 0 QF (F0 m 76 ls []) := by
    intro H locs ls v1021 v1022 v1023 v1024 hl k1025 hI hS
    refine lv_iconst (v := 0) hx hb dX11_pourFromTape_76 (by decide) ?_
    have hpost : 0 ≤ (0 : Int32).toInt ∧ (0 : Int32).toInt ≤ 1 := by first | decide | omega
    rw [hQ]
    exact W.zret (v := 0) hx hb hr (by decide) (fun t ht hW => ⟨⟨0, (), rfl, hpost, by rw [ht]; exact hI, hN.warm hW, va_K.moved hW.alike hK⟩, hS.F ht⟩) hS.2.2 dX11_pourFromTape_77
  have J_14 : ∀ (H : Heap) (locs : List Loc) (ls : Array Slot) , lv_has ls 6 [(0, .ref h0), (1, .int x1)] → ((0 : Int) ≤ x1.toInt ∧ x1.toInt ≤ 400) → th_I (okC E) D G [] H → va_S (th_A G) s.heap H locs → W p l e R s m args below meth c H locs 0 0 QF (F0 m 14 ls []) := by
    intro H locs ls  hl k1026 hI hS
    refine lv_iconst (v := 0) hx hb dX11_pourFromTape_14 (by decide) ?_
    have hpost : 0 ≤ (0 : Int32).toInt ∧ (0 : Int32).toInt ≤ 1 := by first | decide | omega
    rw [hQ]
    exact W.zret (v := 0) hx hb hr (by decide) (fun t ht hW => ⟨⟨0, (), rfl, hpost, by rw [ht]; exact hI, hN.warm hW, va_K.moved hW.alike hK⟩, hS.F ht⟩) hS.2.2 dX11_pourFromTape_15
  refine lv_iload_n hx hb dX11_pourFromTape_0 rfl (lv_at hl 1 rfl) ?_
  refine lv_if_lt (tgt := 14) hx hb dX11_pourFromTape_1 (by decide) (fun c1027 => ?_) (fun c1027 => ?_)
  · skip
    have k1028 := iv_lt (X := x1.toInt) (Y := (0)) rfl (by decide) c1027
    exfalso; omega
  · skip
    have k1029 := iv_nlt (X := x1.toInt) (Y := (0)) rfl (by decide) c1027
    refine lv_iload_n hx hb dX11_pourFromTape_4 rfl (lv_at hl 1 rfl) ?_
    refine lv_iconst (v := 4) hx hb dX11_pourFromTape_5 (by decide) ?_
    refine lv_iadd hx hb dX11_pourFromTape_6 ?_
    refine lv_topi (fun v1030 e1031 => ?_)
    have tv1030 : v1030.toInt = x1.toInt + (4) := iv_add rfl (by decide) e1031 (by omega) (by omega)
    refine lv_aload_n hx hb dX11_pourFromTape_7 rfl (lv_at hl 0 rfl) ?_
    obtain ⟨a1032, a1036, a1038, a1040, a1042, a1044, a1046, a1048, a1050, a1052, a1054, w1056, w1059, w1060, w1061, w1062, hO, hq1033, ⟨m1035, hq1034⟩, hq1037, hq1039, hq1041, hq1043, hq1045, hq1047, hq1049, hq1051, hq1053, hq1055, ⟨k1057, k1058⟩⟩ := op_15 hI hG0 List.not_mem_nil
    have hI := th_I.weak (a := h0) hI
    refine th_get hx hb hts inT11 hown hK hO rfl 12 (by decide) (hts _ (tb_c wd_357)) rfl rfl dX11_pourFromTape_8 ?_
    refine lv_icmp_le (tgt := 16) hx hb dX11_pourFromTape_11 (by decide) (fun c1063 => ?_) (fun c1063 => ?_)
    · skip
      have k1064 := iv_le (X := v1030.toInt) (Y := w1056.toInt) rfl rfl c1063
      refine lv_aload_n hx hb dX11_pourFromTape_16 rfl (lv_at hl 0 rfl) ?_
      refine th_get hx hb hts inT11 hown hK hO rfl 2 (by decide) (hts _ (tb_c wd_347)) rfl rfl dX11_pourFromTape_17 ?_
      refine lv_iload_n hx hb dX11_pourFromTape_20 rfl (lv_at hl 1 rfl) ?_
      obtain ⟨_, hA1065⟩ := op_0 hI hq1037 (th_ne hG0 hq1037 (show (15 : Nat) ≠ 0 by decide))
      refine th_iald hx hb hK hA1065 0 rfl (iv_in (X := x1.toInt) rfl (by omega) (by omega)) dX11_pourFromTape_21 (fun v1066 _ => ?_)
      refine lv_istore_n (lv' := [(2, .int v1066), (0, .ref h0), (1, .int x1)]) hx hb dX11_pourFromTape_22 rfl hl (by decide) rfl (fun ls hl => ?_)
      refine lv_aload_n hx hb dX11_pourFromTape_23 rfl (lv_at hl 1 rfl) ?_
      refine th_get hx hb hts inT11 hown hK hO rfl 2 (by decide) (hts _ (tb_c wd_347)) rfl rfl dX11_pourFromTape_24 ?_
      refine lv_iload_n hx hb dX11_pourFromTape_27 rfl (lv_at hl 2 rfl) ?_
      refine lv_iconst (v := 1) hx hb dX11_pourFromTape_28 (by decide) ?_
      refine lv_iadd hx hb dX11_pourFromTape_29 ?_
      refine lv_topi (fun v1067 e1068 => ?_)
      have tv1067 : v1067.toInt = x1.toInt + (1) := iv_add rfl (by decide) e1068 (by omega) (by omega)
      obtain ⟨_, hA1069⟩ := op_0 hI hq1037 (th_ne hG0 hq1037 (show (15 : Nat) ≠ 0 by decide))
      refine th_iald hx hb hK hA1069 0 rfl (iv_in (X := v1067.toInt) rfl (by omega) (by omega)) dX11_pourFromTape_30 (fun v1070 _ => ?_)
      refine lv_istore_n (lv' := [(3, .int v1070), (2, .int v1066), (0, .ref h0), (1, .int x1)]) hx hb dX11_pourFromTape_31 rfl hl (by decide) rfl (fun ls hl => ?_)
      refine lv_aload_n hx hb dX11_pourFromTape_32 rfl (lv_at hl 2 rfl) ?_
      refine th_get hx hb hts inT11 hown hK hO rfl 2 (by decide) (hts _ (tb_c wd_347)) rfl rfl dX11_pourFromTape_33 ?_
      refine lv_iload_n hx hb dX11_pourFromTape_36 rfl (lv_at hl 3 rfl) ?_
      refine lv_iconst (v := 2) hx hb dX11_pourFromTape_37 (by decide) ?_
      refine lv_iadd hx hb dX11_pourFromTape_38 ?_
      refine lv_topi (fun v1071 e1072 => ?_)
      have tv1071 : v1071.toInt = x1.toInt + (2) := iv_add rfl (by decide) e1072 (by omega) (by omega)
      obtain ⟨_, hA1073⟩ := op_0 hI hq1037 (th_ne hG0 hq1037 (show (15 : Nat) ≠ 0 by decide))
      refine th_iald hx hb hK hA1073 0 rfl (iv_in (X := v1071.toInt) rfl (by omega) (by omega)) dX11_pourFromTape_39 (fun v1074 _ => ?_)
      refine lv_istore (lv' := [(4, .int v1074), (3, .int v1070), (2, .int v1066), (0, .ref h0), (1, .int x1)]) hx hb dX11_pourFromTape_40 hl (by decide) rfl (fun ls hl => ?_)
      refine lv_aload_n hx hb dX11_pourFromTape_42 rfl (lv_at hl 3 rfl) ?_
      refine th_get hx hb hts inT11 hown hK hO rfl 2 (by decide) (hts _ (tb_c wd_347)) rfl rfl dX11_pourFromTape_43 ?_
      refine lv_iload_n hx hb dX11_pourFromTape_46 rfl (lv_at hl 4 rfl) ?_
      refine lv_iconst (v := 3) hx hb dX11_pourFromTape_47 (by decide) ?_
      refine lv_iadd hx hb dX11_pourFromTape_48 ?_
      refine lv_topi (fun v1075 e1076 => ?_)
      have tv1075 : v1075.toInt = x1.toInt + (3) := iv_add rfl (by decide) e1076 (by omega) (by omega)
      obtain ⟨_, hA1077⟩ := op_0 hI hq1037 (th_ne hG0 hq1037 (show (15 : Nat) ≠ 0 by decide))
      refine th_iald hx hb hK hA1077 0 rfl (iv_in (X := v1075.toInt) rfl (by omega) (by omega)) dX11_pourFromTape_49 (fun v1078 _ => ?_)
      refine lv_istore (lv' := [(5, .int v1078), (4, .int v1074), (3, .int v1070), (2, .int v1066), (0, .ref h0), (1, .int x1)]) hx hb dX11_pourFromTape_50 hl (by decide) rfl (fun ls hl => ?_)
      refine lv_iload_n hx hb dX11_pourFromTape_52 rfl (lv_at hl 3 rfl) ?_
      refine lv_iload_n hx hb dX11_pourFromTape_53 rfl (lv_at hl 2 rfl) ?_
      refine lv_iload hx hb dX11_pourFromTape_54 (lv_at hl 1 rfl) ?_
      refine lv_iload hx hb dX11_pourFromTape_56 (lv_at hl 0 rfl) ?_
      refine th_cSs (As := [.int v1066, .int v1070, .int v1074, .int v1078]) (rest := []) (n := 4) (d := 1) ⟨hx, hb, hml, hown, hts⟩ (c_X11_isPour l s.heap v1066 v1070 v1074 v1078) wd_617 wd_618 wd_1 wd_619 (by decide +kernel) ⟨by rw [hR]; exact Nat.le_of_ble_eq_true rfl, by rw [hR]; exact Nat.le_of_ble_eq_true rfl⟩ hN hS rfl hl.1 rfl (Nat.le_of_ble_eq_true rfl) dX11_pourFromTape_58 ⟨Nat.zero_le _, Nat.zero_le _⟩ (fun r1079 locs hp hS => ?_)
      rcases hp with ⟨rfl, hp⟩ | ⟨rfl, hp⟩
      · skip
        try simp only [rg, not_and, Int.not_le] at hp
        have hp1080 := hp
        refine lv_if_eq (tgt := 76) hx hb dX11_pourFromTape_61 (by decide) (fun c => absurd c (by decide)) (fun _ => ?_)
        refine lv_aload_n hx hb dX11_pourFromTape_64 rfl (lv_at hl 4 rfl) ?_
        refine th_get hx hb hts inT11 hown hK hO rfl 6 (by decide) (hts _ (tb_c wd_351)) rfl rfl dX11_pourFromTape_65 ?_
        refine lv_iload_n hx hb dX11_pourFromTape_68 rfl (lv_at hl 3 rfl) ?_
        refine lv_iload_n hx hb dX11_pourFromTape_69 rfl (lv_at hl 2 rfl) ?_
        have hI := th_I.close hI hG0 hO (ok_15 hq1033 ⟨_, hq1034⟩ hq1037 hq1039 hq1041 hq1043 hq1045 hq1047 hq1049 hq1051 hq1053 hq1055 ⟨by omega, by omega⟩)
        refine th_cVi (As := [.int v1066, .int v1070]) (rest := []) (n := 2) (d := 5) ⟨hx, hb, hml, hown, hts⟩ (c_X7_isBarred l E D G a1044 hq1045 v1066 v1070) wd_623 wd_624 wd_625 wd_6 wd_626 (by decide +kernel) ⟨by rw [hR]; exact Nat.le_of_ble_eq_true rfl, by rw [hR]; exact Nat.le_of_ble_eq_true rfl⟩ hI hN hK hS (rc_9 hI hq1045 List.not_mem_nil) rfl rfl hl.1 rfl (Nat.le_of_ble_eq_true rfl) dX11_pourFromTape_70 ⟨Nat.zero_le _, Nat.zero_le _⟩ (fun r1081 H locs hp hI hS => ?_)
        have hp1082 := hp
        refine lv_if_eq (tgt := 78) hx hb dX11_pourFromTape_73 (by decide) (fun c1083 => ?_) (fun c1083 => ?_)
        · skip
          have k1084 := iv_eq (X := r1081.toInt) (Y := (0)) rfl (by decide) c1083
          refine lv_aload_n hx hb dX11_pourFromTape_78 rfl (lv_at hl 4 rfl) ?_
          obtain ⟨a1085, a1089, a1091, a1093, a1095, a1097, a1099, a1101, a1103, a1105, a1107, w1109, w1112, w1113, w1114, w1115, hO, hq1086, ⟨m1088, hq1087⟩, hq1090, hq1092, hq1094, hq1096, hq1098, hq1100, hq1102, hq1104, hq1106, hq1108, ⟨k1110, k1111⟩⟩ := op_15 hI hG0 List.not_mem_nil
          have hI := th_I.weak (a := h0) hI
          refine th_get hx hb hts inT11 hown hK hO rfl 0 (by decide) (hts _ (tb_c wd_345)) rfl rfl dX11_pourFromTape_79 ?_
          have hI := th_I.close hI hG0 hO (ok_15 hq1086 ⟨_, hq1087⟩ hq1090 hq1092 hq1094 hq1096 hq1098 hq1100 hq1102 hq1104 hq1106 hq1108 ⟨by omega, by omega⟩)
          obtain ⟨a1116, a1118, a1120, a1122, a1124, a1126, a1128, a1130, a1132, a1134, w1136, w1139, w1140, w1141, hO, hq1117, hq1119, hq1121, hq1123, hq1125, hq1127, hq1129, hq1131, hq1133, hq1135, ⟨k1137, k1138⟩⟩ := op_6 hI hq1086 List.not_mem_nil
          have hI := th_I.weak (a := a1085) hI
          refine th_getN hx hb hts inT6 hown hK hN hO rfl 5 (by decide) wn_71 rfl rfl dX11_pourFromTape_82 ?_
          refine lv_iload_n hx hb dX11_pourFromTape_85 rfl (lv_at hl 3 rfl) ?_
          refine lv_iload_n hx hb dX11_pourFromTape_86 rfl (lv_at hl 2 rfl) ?_
          refine lv_iload hx hb dX11_pourFromTape_87 (lv_at hl 1 rfl) ?_
          refine lv_iload hx hb dX11_pourFromTape_89 (lv_at hl 0 rfl) ?_
          have hI := th_I.close hI hq1086 hO (ok_6 hq1117 hq1119 hq1121 hq1123 hq1125 hq1127 hq1129 hq1131 hq1133 hq1135 ⟨by omega, by omega⟩)
          refine th_cVi (As := [.int v1066, .int v1070, .int v1074, .int v1078]) (rest := []) (n := 4) (d := 1) ⟨hx, hb, hml, hown, hts⟩ (c_X4_put l E D G a1126 (16) hq1127 v1066 v1070 v1074 v1078) wd_485 wd_486 wd_487 wd_3 wd_488 (by decide +kernel) ⟨by rw [hR]; exact Nat.le_of_ble_eq_true rfl, by rw [hR]; exact Nat.le_of_ble_eq_true rfl⟩ hI hN hK hS (rc_4 hI hq1127 List.not_mem_nil) rfl rfl hl.1 rfl (Nat.le_of_ble_eq_true rfl) dX11_pourFromTape_91 ⟨Nat.zero_le _, Nat.zero_le _⟩ (fun r1142 H locs hp hI hS => ?_)
          refine lv_iconst (v := (-1)) hx hb dX11_pourFromTape_94 (by decide) ?_
          have k1143 := iv_lo r1142
          have k1144 := iv_hi r1142
          refine lv_icmp_eq (tgt := 102) hx hb dX11_pourFromTape_95 (by decide) (fun c1145 => ?_) (fun c1145 => ?_)
          · skip
            have k1146 := iv_eq (X := r1142.toInt) (Y := (-1)) rfl (by decide) c1145
            refine lv_iconst (v := 0) hx hb dX11_pourFromTape_102 (by decide) ?_
            have hpost : 0 ≤ (0 : Int32).toInt ∧ (0 : Int32).toInt ≤ 1 := by first | decide | omega
            rw [hQ]
            exact W.zret (v := 0) hx hb hr (by decide) (fun t ht hW => ⟨⟨0, (), rfl, hpost, by rw [ht]; exact hI, hN.warm hW, va_K.moved hW.alike hK⟩, hS.F ht⟩) hS.2.2 dX11_pourFromTape_103
          · skip
            have k1147 := iv_ne (X := r1142.toInt) (Y := (-1)) rfl (by decide) c1145
            refine lv_iconst (v := 1) hx hb dX11_pourFromTape_98 (by decide) ?_
            refine lv_goto (tgt := 103) hx hb dX11_pourFromTape_99 (by decide) ?_
            have hpost : 0 ≤ (1 : Int32).toInt ∧ (1 : Int32).toInt ≤ 1 := by first | decide | omega
            rw [hQ]
            exact W.zret (v := 1) hx hb hr (by decide) (fun t ht hW => ⟨⟨1, (), rfl, hpost, by rw [ht]; exact hI, hN.warm hW, va_K.moved hW.alike hK⟩, hS.F ht⟩) hS.2.2 dX11_pourFromTape_103
        · skip
          have k1148 := iv_ne (X := r1081.toInt) (Y := (0)) rfl (by decide) c1083
          exact J_76 H locs ls v1078 v1074 v1070 v1066 (lv_sub hl [0, 1, 2, 3, 4, 5] rfl) ⟨by omega, by omega⟩ hI hS
      · skip
        try simp only [rg, not_and, Int.not_le] at hp
        have hp1149 := hp
        refine lv_if_eq (tgt := 76) hx hb dX11_pourFromTape_61 (by decide) (fun _ => ?_) (fun c => absurd c (by decide))
        have hI := th_I.close hI hG0 hO (ok_15 hq1033 ⟨_, hq1034⟩ hq1037 hq1039 hq1041 hq1043 hq1045 hq1047 hq1049 hq1051 hq1053 hq1055 ⟨by omega, by omega⟩)
        exact J_76 s.heap locs ls v1078 v1074 v1070 v1066 (lv_sub hl [0, 1, 2, 3, 4, 5] rfl) ⟨by omega, by omega⟩ hI hS
    · skip
      have k1150 := iv_nle (X := v1030.toInt) (Y := w1056.toInt) rfl rfl c1063
      have hI := th_I.close hI hG0 hO (ok_15 hq1033 ⟨_, hq1034⟩ hq1037 hq1039 hq1041 hq1043 hq1045 hq1047 hq1049 hq1051 hq1053 hq1055 ⟨by omega, by omega⟩)
      exact J_14 s.heap [] ls  (lv_sub hl [0, 1] rfl) ⟨by omega, by omega⟩ hI hS
theorem dX11_row_0 : decode cX11_row 0 = .ok (.aload_n 0, 1) := by decide +kernel
theorem dX11_row_1 : decode cX11_row 1 = .ok (.getfield 89, 3) := by decide +kernel
theorem dX11_row_4 : decode cX11_row 4 = .ok (.ifCond .ne 10, 3) := by decide +kernel
theorem dX11_row_7 : decode cX11_row 7 = .ok (.aload_n 0, 1) := by decide +kernel
theorem dX11_row_8 : decode cX11_row 8 = .ok (.bipush (-6), 2) := by decide +kernel
theorem dX11_row_10 : decode cX11_row 10 = .ok (.invokevirtual 113, 3) := by decide +kernel
theorem dX11_row_13 : decode cX11_row 13 = .ok (.ireturn, 1) := by decide +kernel
theorem dX11_row_14 : decode cX11_row 14 = .ok (.iconst 0, 1) := by decide +kernel
theorem dX11_row_15 : decode cX11_row 15 = .ok (.istore_n 1, 1) := by decide +kernel
theorem dX11_row_16 : decode cX11_row 16 = .ok (.iconst 0, 1) := by decide +kernel
theorem dX11_row_17 : decode cX11_row 17 = .ok (.istore_n 2, 1) := by decide +kernel
theorem dX11_row_18 : decode cX11_row 18 = .ok (.iconst 0, 1) := by decide +kernel
theorem dX11_row_19 : decode cX11_row 19 = .ok (.istore_n 3, 1) := by decide +kernel
theorem dX11_row_20 : decode cX11_row 20 = .ok (.iload_n 3, 1) := by decide +kernel
theorem dX11_row_21 : decode cX11_row 21 = .ok (.aload_n 0, 1) := by decide +kernel
theorem dX11_row_22 : decode cX11_row 22 = .ok (.getfield 89, 3) := by decide +kernel
theorem dX11_row_25 : decode cX11_row 25 = .ok (.if_icmp .ge 26, 3) := by decide +kernel
theorem dX11_row_28 : decode cX11_row 28 = .ok (.aload_n 0, 1) := by decide +kernel
theorem dX11_row_29 : decode cX11_row 29 = .ok (.iload_n 3, 1) := by decide +kernel
theorem dX11_row_30 : decode cX11_row 30 = .ok (.invokevirtual 188, 3) := by decide +kernel
theorem dX11_row_33 : decode cX11_row 33 = .ok (.ifCond .eq 9, 3) := by decide +kernel
theorem dX11_row_36 : decode cX11_row 36 = .ok (.iinc 1 1, 3) := by decide +kernel
theorem dX11_row_39 : decode cX11_row 39 = .ok (.goto 6, 3) := by decide +kernel
theorem dX11_row_42 : decode cX11_row 42 = .ok (.iinc 2 1, 3) := by decide +kernel
theorem dX11_row_45 : decode cX11_row 45 = .ok (.iinc 3 4, 3) := by decide +kernel
theorem dX11_row_48 : decode cX11_row 48 = .ok (.goto (-28), 3) := by decide +kernel
theorem dX11_row_51 : decode cX11_row 51 = .ok (.aload_n 0, 1) := by decide +kernel
theorem dX11_row_52 : decode cX11_row 52 = .ok (.iconst 0, 1) := by decide +kernel
theorem dX11_row_53 : decode cX11_row 53 = .ok (.putfield 89, 3) := by decide +kernel
theorem dX11_row_56 : decode cX11_row 56 = .ok (.aload_n 0, 1) := by decide +kernel
theorem dX11_row_57 : decode cX11_row 57 = .ok (.iload_n 2, 1) := by decide +kernel
theorem dX11_row_58 : decode cX11_row 58 = .ok (.putfield 96, 3) := by decide +kernel
theorem dX11_row_61 : decode cX11_row 61 = .ok (.aload_n 0, 1) := by decide +kernel
theorem dX11_row_62 : decode cX11_row 62 = .ok (.invokevirtual 191, 3) := by decide +kernel
theorem dX11_row_65 : decode cX11_row 65 = .ok (.aload_n 0, 1) := by decide +kernel
theorem dX11_row_66 : decode cX11_row 66 = .ok (.iload_n 1, 1) := by decide +kernel
theorem dX11_row_67 : decode cX11_row 67 = .ok (.invokevirtual 127, 3) := by decide +kernel
theorem dX11_row_70 : decode cX11_row 70 = .ok (.ireturn, 1) := by decide +kernel
set_option maxHeartbeats 4000000 in
set_option maxRecDepth 100000 in
theorem c_X11_row (l : Launch) (E : Nat → ClassId) (D : va_G) (G : th_G) (h0 n : Nat) (hG0 : G h0 = some (15, n)) : Met l yX11_row (tb (.code yX11_row cX11_row 4 (some .int))) (rm 7) (va_Pc [.ref h0] (th_P E D G)) (QI E D G (fun r => True)) 0 0 (th_A G) := by
  refine Met.ofW (cc := cX11_row) (maxL := 4) (ret := (some .int)) (by decide) rfl ?_
  intro p e s m args below meth c s₁ B hml hv
  obtain ⟨hav, hI, hN, hK⟩ := hv
  have hx := B.exec
  have hb := B.bytes
  have hr := B.returns
  have hts := atoms_spec (ws := tb (.code yX11_row cX11_row 4 (some .int))) B.pre
  have hown : s.vm.findClass RX11 = some m.cls := findClass_of_methodNamed B.named
  have hlocks := B.notSynchronized
  have hS : va_S (th_A G) s.heap s.heap [] := va_S.rf
  have hl := lv_entry ([.ref h0]) (n := 4) (Nat.le_of_ble_eq_true rfl)
  rw [show entryFrame m args 4 = entryFrame m ([.ref h0] : List Value).toArray 4 from by rw [hav], lg_entry_eq]
  generalize (lg_sl ([.ref h0]) ++ List.replicate (4 - (lg_sl ([.ref h0])).length) Slot.unset).toArray = ls at hl ⊢
  have hl : lv_has ls 4 [(0, .ref h0)] := hl
  generalize hR : (headSpec (tb (.code yX11_row cX11_row 4 (some .int))) (rm 7)).room = R
  have hR := hR.symm
  generalize hQ : MQ below (QI E D G (fun r => True)) args s 0 0 (th_A G) = QF
  have hQ := hQ.symm
  have J_20 : ∀ (nn : Nat) (H : Heap) (locs : List Loc) (ls : Array Slot) (v5251 : Int32) (v5252 : Int32) (v5253 : Int32), (Int.toNat (403 - v5251.toInt) = nn) → lv_has ls 4 [(3, .int v5251), (2, .int v5252), (1, .int v5253), (0, .ref h0)] → ((0 : Int) ≤ v5251.toInt ∧ v5251.toInt ≤ 403) → th_I (okC E) D G [] H → va_S (th_A G) s.heap H locs → W p l e R s m args below meth c H locs 0 0 QF (F0 m 20 ls []) := by
    intro nn
    induction nn using Nat.strongRecOn with
    | ind nn ih_20 =>
      intro H locs ls v5251 v5252 v5253 hm hl k5254 hI hS
      have J_45 : ∀ (H : Heap) (locs : List Loc) (ls : Array Slot) (v5255 : Int32) (v5257 : Int32), lv_has ls 4 [(2, .int v5255), (3, .int v5251), (1, .int v5257), (0, .ref h0)] → ((0 : Int) ≤ v5251.toInt ∧ v5251.toInt ≤ 399) → th_I (okC E) D G [] H → va_S (th_A G) s.heap H locs → W p l e R s m args below meth c H locs 0 0 QF (F0 m 45 ls []) := by
        intro H locs ls v5255 v5257 hl k5258 hI hS
        obtain ⟨v5259, e5260⟩ : ∃ y : Int32, y = v5251 + (4) := ⟨_, rfl⟩
        have tv5259 : v5259.toInt = v5251.toInt + (4) := iv_add rfl (by decide) e5260 (by omega) (by omega)
        refine lv_iinc (v := v5259) (lv' := [(3, .int v5259), (2, .int v5255), (1, .int v5257), (0, .ref h0)]) hx hb dX11_row_45 hl (k := 1) rfl (by rw [e5260]; rfl) (by decide) rfl (fun ls hl => ?_)
        refine lv_goto (tgt := 20) hx hb dX11_row_48 (by decide) ?_
        exact ih_20 _ (by omega) H locs ls v5259 v5255 v5257 rfl (lv_sub hl [0, 1, 2, 3] rfl) ⟨by omega, by omega⟩ hI hS
      refine lv_iload_n hx hb dX11_row_20 rfl (lv_at hl 0 rfl) ?_
      refine lv_aload_n hx hb dX11_row_21 rfl (lv_at hl 3 rfl) ?_
      obtain ⟨a5261, a5265, a5267, a5269, a5271, a5273, a5275, a5277, a5279, a5281, a5283, w5285, w5288, w5289, w5290, w5291, hO, hq5262, ⟨m5264, hq5263⟩, hq5266, hq5268, hq5270, hq5272, hq5274, hq5276, hq5278, hq5280, hq5282, hq5284, ⟨k5286, k5287⟩⟩ := op_15 hI hG0 List.not_mem_nil
      have hI := th_I.weak (a := h0) hI
      refine th_get hx hb hts inT11 hown hK hO rfl 12 (by decide) (hts _ (tb_c wd_357)) rfl rfl dX11_row_22 ?_
      refine lv_icmp_ge (tgt := 51) hx hb dX11_row_25 (by decide) (fun c5292 => ?_) (fun c5292 => ?_)
      · skip
        have k5293 := iv_le (X := w5285.toInt) (Y := v5251.toInt) rfl rfl c5292
        refine lv_aload_n hx hb dX11_row_51 rfl (lv_at hl 3 rfl) ?_
        refine lv_iconst (v := 0) hx hb dX11_row_52 (by decide) ?_
        refine th_put (ty := .int) hx hb hts inT11 tyX11 tyX11_ok nmX11 hown hK hO hS ⟨_, hG0⟩ rfl 12 (by decide) (hts _ (tb_c wd_357)) rfl rfl (by decide +kernel) rfl rfl (Nat.le_of_ble_eq_true rfl) dX11_row_53 (fun H locs hO oq hS => ?_)
        have hI := th_I.moved hI oq
        have hO : va_at D vwCl (h0, .inr (11, [.ref a5261, .ref n, .ref a5265, .ref a5267, .ref a5269, .ref a5271, .ref a5273, .ref a5275, .ref a5277, .ref a5279, .ref a5281, .ref a5283, .int 0, .int w5288, .int w5289, .int w5290, .int w5291])) H := hO
        refine lv_aload_n hx hb dX11_row_56 rfl (lv_at hl 3 rfl) ?_
        refine lv_iload_n hx hb dX11_row_57 rfl (lv_at hl 1 rfl) ?_
        refine th_put (ty := .int) hx hb hts inT11 tyX11 tyX11_ok nmX11 hown hK hO hS ⟨_, hG0⟩ rfl 14 (by decide) (hts _ (tb_c wd_359)) rfl rfl (by decide +kernel) rfl rfl (Nat.le_of_ble_eq_true rfl) dX11_row_58 (fun H locs hO oq hS => ?_)
        have hI := th_I.moved hI oq
        have hO : va_at D vwCl (h0, .inr (11, [.ref a5261, .ref n, .ref a5265, .ref a5267, .ref a5269, .ref a5271, .ref a5273, .ref a5275, .ref a5277, .ref a5279, .ref a5281, .ref a5283, .int 0, .int w5288, .int v5252, .int w5290, .int w5291])) H := hO
        refine lv_aload_n hx hb dX11_row_61 rfl (lv_at hl 3 rfl) ?_
        have hI := th_I.close hI hG0 hO (ok_15 hq5262 ⟨_, hq5263⟩ hq5266 hq5268 hq5270 hq5272 hq5274 hq5276 hq5278 hq5280 hq5282 hq5284 ⟨by rw [show (0 : Int32).toInt = 0 from by decide]; omega, by rw [show (0 : Int32).toInt = 0 from by decide]; omega⟩)
        refine th_cVv (As := []) (rest := []) (n := 0) (d := 1) ⟨hx, hb, hml, hown, hts⟩ (c_X11_turnLists l E D G h0 (n) hG0 ) wd_431 wd_433 wp_2 wd_1 wd_434 (by decide +kernel) ⟨by rw [hR]; exact Nat.le_of_ble_eq_true rfl, by rw [hR]; exact Nat.le_of_ble_eq_true rfl⟩ hI hN hK hS (rc_15 hI hG0 List.not_mem_nil) rfl rfl hl.1 rfl (Nat.le_of_ble_eq_true rfl) dX11_row_62 ⟨Nat.zero_le _, Nat.zero_le _⟩ (fun H locs hI hS => ?_)
        refine lv_aload_n hx hb dX11_row_65 rfl (lv_at hl 3 rfl) ?_
        refine lv_iload_n hx hb dX11_row_66 rfl (lv_at hl 2 rfl) ?_
        refine th_cVi (As := [.int v5253]) (rest := []) (n := 1) (d := 0) ⟨hx, hb, hml, hown, hts⟩ (c_X11_accept l E D G h0 (n) hG0 v5253) wd_447 wd_449 wp_3 wd_1 wd_450 (by decide +kernel) ⟨by rw [hR]; exact Nat.le_of_ble_eq_true rfl, by rw [hR]; exact Nat.le_of_ble_eq_true rfl⟩ hI hN hK hS (rc_15 hI hG0 List.not_mem_nil) rfl rfl hl.1 rfl (Nat.le_of_ble_eq_true rfl) dX11_row_67 ⟨Nat.zero_le _, Nat.zero_le _⟩ (fun r5295 H locs hp hI hS => ?_)
        have hp := hp.symm
        subst hp
        have hpost : True := trivial
        rw [hQ]
        exact W.iret (v := v5253) hx hb hr (fun t ht hW => ⟨⟨v5253, (), rfl, hpost, by rw [ht]; exact hI, hN.warm hW, va_K.moved hW.alike hK⟩, hS.F ht⟩) hS.2.2 dX11_row_70
      · skip
        have k5296 := iv_nle (X := w5285.toInt) (Y := v5251.toInt) rfl rfl c5292
        refine lv_aload_n hx hb dX11_row_28 rfl (lv_at hl 3 rfl) ?_
        refine lv_iload_n hx hb dX11_row_29 rfl (lv_at hl 0 rfl) ?_
        have hI := th_I.close hI hG0 hO (ok_15 hq5262 ⟨_, hq5263⟩ hq5266 hq5268 hq5270 hq5272 hq5274 hq5276 hq5278 hq5280 hq5282 hq5284 ⟨by omega, by omega⟩)
        refine th_cVi (As := [.int v5251]) (rest := []) (n := 1) (d := 6) ⟨hx, hb, hml, hown, hts⟩ (c_X11_pourFromTape l E D G h0 (n) hG0 v5251 ⟨by omega, by omega⟩) wd_613 wd_615 wp_9 wd_1 wd_616 (by decide +kernel) ⟨by rw [hR]; exact Nat.le_of_ble_eq_true rfl, by rw [hR]; exact Nat.le_of_ble_eq_true rfl⟩ hI hN hK hS (rc_15 hI hG0 List.not_mem_nil) rfl rfl hl.1 rfl (Nat.le_of_ble_eq_true rfl) dX11_row_30 ⟨Nat.zero_le _, Nat.zero_le _⟩ (fun r5297 H locs hp hI hS => ?_)
        have hp5298 := hp
        refine lv_if_eq (tgt := 42) hx hb dX11_row_33 (by decide) (fun c5299 => ?_) (fun c5299 => ?_)
        · skip
          have k5300 := iv_eq (X := r5297.toInt) (Y := (0)) rfl (by decide) c5299
          obtain ⟨v5301, e5302⟩ : ∃ y : Int32, y = v5252 + (1) := ⟨_, rfl⟩
          have k5303 := iv_lo v5252
          have k5304 := iv_hi v5252
          refine lv_iinc (v := v5301) (lv' := [(2, .int v5301), (3, .int v5251), (1, .int v5253), (0, .ref h0)]) hx hb dX11_row_42 hl (k := 1) rfl (by rw [e5302]; rfl) (by decide) rfl (fun ls hl => ?_)
          exact J_45 H locs ls v5301 v5253 (lv_sub hl [0, 1, 2, 3] rfl) ⟨by omega, by omega⟩ hI hS
        · skip
          have k5305 := iv_ne (X := r5297.toInt) (Y := (0)) rfl (by decide) c5299
          obtain ⟨v5306, e5307⟩ : ∃ y : Int32, y = v5253 + (1) := ⟨_, rfl⟩
          have k5308 := iv_lo v5253
          have k5309 := iv_hi v5253
          refine lv_iinc (v := v5306) (lv' := [(1, .int v5306), (3, .int v5251), (2, .int v5252), (0, .ref h0)]) hx hb dX11_row_36 hl (k := 2) rfl (by rw [e5307]; rfl) (by decide) rfl (fun ls hl => ?_)
          refine lv_goto (tgt := 45) hx hb dX11_row_39 (by decide) ?_
          exact J_45 H locs ls v5252 v5306 (lv_sub hl [2, 1, 0, 3] rfl) ⟨by omega, by omega⟩ hI hS
  refine lv_aload_n hx hb dX11_row_0 rfl (lv_at hl 0 rfl) ?_
  obtain ⟨a5310, a5314, a5316, a5318, a5320, a5322, a5324, a5326, a5328, a5330, a5332, w5334, w5337, w5338, w5339, w5340, hO, hq5311, ⟨m5313, hq5312⟩, hq5315, hq5317, hq5319, hq5321, hq5323, hq5325, hq5327, hq5329, hq5331, hq5333, ⟨k5335, k5336⟩⟩ := op_15 hI hG0 List.not_mem_nil
  have hI := th_I.weak (a := h0) hI
  refine th_get hx hb hts inT11 hown hK hO rfl 12 (by decide) (hts _ (tb_c wd_357)) rfl rfl dX11_row_1 ?_
  refine lv_if_ne (tgt := 14) hx hb dX11_row_4 (by decide) (fun c5341 => ?_) (fun c5341 => ?_)
  · skip
    have k5342 := iv_ne (X := w5334.toInt) (Y := (0)) rfl (by decide) c5341
    refine lv_iconst (v := 0) hx hb dX11_row_14 (by decide) ?_
    refine lv_istore_n (lv' := [(1, .int 0), (0, .ref h0)]) hx hb dX11_row_15 rfl hl (by decide) rfl (fun ls hl => ?_)
    refine lv_iconst (v := 0) hx hb dX11_row_16 (by decide) ?_
    refine lv_istore_n (lv' := [(2, .int 0), (1, .int 0), (0, .ref h0)]) hx hb dX11_row_17 rfl hl (by decide) rfl (fun ls hl => ?_)
    refine lv_iconst (v := 0) hx hb dX11_row_18 (by decide) ?_
    refine lv_istore_n (lv' := [(3, .int 0), (2, .int 0), (1, .int 0), (0, .ref h0)]) hx hb dX11_row_19 rfl hl (by decide) rfl (fun ls hl => ?_)
    have hI := th_I.close hI hG0 hO (ok_15 hq5311 ⟨_, hq5312⟩ hq5315 hq5317 hq5319 hq5321 hq5323 hq5325 hq5327 hq5329 hq5331 hq5333 ⟨by omega, by omega⟩)
    have zl : (0 : Int32).toInt = 0 := by decide
    exact J_20 _ s.heap [] ls 0 0 0 rfl (lv_sub hl [0, 1, 2, 3] rfl) ⟨by decide, by decide⟩ hI hS
  · skip
    have k5343 := iv_eq (X := w5334.toInt) (Y := (0)) rfl (by decide) c5341
    refine lv_aload_n hx hb dX11_row_7 rfl (lv_at hl 0 rfl) ?_
    refine lv_bipush (v := (-6)) hx hb dX11_row_8 (by decide) ?_
    have hI := th_I.close hI hG0 hO (ok_15 hq5311 ⟨_, hq5312⟩ hq5315 hq5317 hq5319 hq5321 hq5323 hq5325 hq5327 hq5329 hq5331 hq5333 ⟨by omega, by omega⟩)
    refine th_cVi (As := [.int (-6)]) (rest := []) (n := 1) (d := 0) ⟨hx, hb, hml, hown, hts⟩ (c_X11_refuse l E D G h0 (n) hG0 (-6)) wd_407 wd_409 wp_0 wd_1 wd_410 (by decide +kernel) ⟨by rw [hR]; exact Nat.le_of_ble_eq_true rfl, by rw [hR]; exact Nat.le_of_ble_eq_true rfl⟩ hI hN hK hS (rc_15 hI hG0 List.not_mem_nil) rfl rfl hl.1 rfl (Nat.le_of_ble_eq_true rfl) dX11_row_10 ⟨Nat.zero_le _, Nat.zero_le _⟩ (fun r5344 H locs hp hI hS => ?_)
    have hp := hp.symm
    subst hp
    have hpost : True := trivial
    rw [hQ]
    exact W.iret (v := (-6)) hx hb hr (fun t ht hW => ⟨⟨(-6), (), rfl, hpost, by rw [ht]; exact hI, hN.warm hW, va_K.moved hW.alike hK⟩, hS.F ht⟩) hS.2.2 dX11_row_13
theorem dX11_suspects_0 : decode cX11_suspects 0 = .ok (.iload_n 1, 1) := by decide +kernel
theorem dX11_suspects_1 : decode cX11_suspects 1 = .ok (.invokestatic 269, 3) := by decide +kernel
theorem dX11_suspects_4 : decode cX11_suspects 4 = .ok (.ifCond .eq 8, 3) := by decide +kernel
theorem dX11_suspects_7 : decode cX11_suspects 7 = .ok (.iload_n 2, 1) := by decide +kernel
theorem dX11_suspects_8 : decode cX11_suspects 8 = .ok (.iconst (-1), 1) := by decide +kernel
theorem dX11_suspects_9 : decode cX11_suspects 9 = .ok (.if_icmp .ge 5, 3) := by decide +kernel
theorem dX11_suspects_12 : decode cX11_suspects 12 = .ok (.iconst (-1), 1) := by decide +kernel
theorem dX11_suspects_13 : decode cX11_suspects 13 = .ok (.ireturn, 1) := by decide +kernel
theorem dX11_suspects_14 : decode cX11_suspects 14 = .ok (.iload_n 2, 1) := by decide +kernel
theorem dX11_suspects_15 : decode cX11_suspects 15 = .ok (.iconst (-1), 1) := by decide +kernel
theorem dX11_suspects_16 : decode cX11_suspects 16 = .ok (.if_icmp .ne 14, 3) := by decide +kernel
theorem dX11_suspects_19 : decode cX11_suspects 19 = .ok (.aload_n 0, 1) := by decide +kernel
theorem dX11_suspects_20 : decode cX11_suspects 20 = .ok (.getfield 69, 3) := by decide +kernel
theorem dX11_suspects_23 : decode cX11_suspects 23 = .ok (.iload_n 1, 1) := by decide +kernel
theorem dX11_suspects_24 : decode cX11_suspects 24 = .ok (.invokevirtual 298, 3) := by decide +kernel
theorem dX11_suspects_27 : decode cX11_suspects 27 = .ok (.goto 12, 3) := by decide +kernel
theorem dX11_suspects_30 : decode cX11_suspects 30 = .ok (.aload_n 0, 1) := by decide +kernel
theorem dX11_suspects_31 : decode cX11_suspects 31 = .ok (.getfield 69, 3) := by decide +kernel
theorem dX11_suspects_34 : decode cX11_suspects 34 = .ok (.iload_n 1, 1) := by decide +kernel
theorem dX11_suspects_35 : decode cX11_suspects 35 = .ok (.iload_n 2, 1) := by decide +kernel
theorem dX11_suspects_36 : decode cX11_suspects 36 = .ok (.invokevirtual 301, 3) := by decide +kernel
theorem dX11_suspects_39 : decode cX11_suspects 39 = .ok (.ireturn, 1) := by decide +kernel
set_option maxHeartbeats 4000000 in
set_option maxRecDepth 100000 in
theorem c_X11_suspects (l : Launch) (E : Nat → ClassId) (D : va_G) (G : th_G) (h0 n : Nat) (hG0 : G h0 = some (15, n)) (x1 x2 : Int32) : Met l yX11_suspects (tb (.code yX11_suspects cX11_suspects 3 (some .int))) (rm 8) (va_Pc [.ref h0, .int x1, .int x2] (th_P E D G)) (QI E D G (fun r => True)) 0 0 (th_A G) := by
  refine Met.ofW (cc := cX11_suspects) (maxL := 3) (ret := (some .int)) (by decide) rfl ?_
  intro p e s m args below meth c s₁ B hml hv
  obtain ⟨hav, hI, hN, hK⟩ := hv
  have hx := B.exec
  have hb := B.bytes
  have hr := B.returns
  have hts := atoms_spec (ws := tb (.code yX11_suspects cX11_suspects 3 (some .int))) B.pre
  have hown : s.vm.findClass RX11 = some m.cls := findClass_of_methodNamed B.named
  have hlocks := B.notSynchronized
  have hS : va_S (th_A G) s.heap s.heap [] := va_S.rf
  have hl := lv_entry ([.ref h0, .int x1, .int x2]) (n := 3) (Nat.le_of_ble_eq_true rfl)
  rw [show entryFrame m args 3 = entryFrame m ([.ref h0, .int x1, .int x2] : List Value).toArray 3 from by rw [hav], lg_entry_eq]
  generalize (lg_sl ([.ref h0, .int x1, .int x2]) ++ List.replicate (3 - (lg_sl ([.ref h0, .int x1, .int x2])).length) Slot.unset).toArray = ls at hl ⊢
  have hl : lv_has ls 3 [(0, .ref h0), (1, .int x1), (2, .int x2)] := hl
  generalize hR : (headSpec (tb (.code yX11_suspects cX11_suspects 3 (some .int))) (rm 8)).room = R
  have hR := hR.symm
  generalize hQ : MQ below (QI E D G (fun r => True)) args s 0 0 (th_A G) = QF
  have hQ := hQ.symm
  have J_12 : ∀ (H : Heap) (locs : List Loc) (ls : Array Slot) , lv_has ls 3 [(0, .ref h0), (1, .int x1), (2, .int x2)] → th_I (okC E) D G [] H → va_S (th_A G) s.heap H locs → W p l e R s m args below meth c H locs 0 0 QF (F0 m 12 ls []) := by
    intro H locs ls  hl  hI hS
    refine lv_iconst (v := (-1)) hx hb dX11_suspects_12 (by decide) ?_
    have hpost : True := trivial
    rw [hQ]
    exact W.iret (v := (-1)) hx hb hr (fun t ht hW => ⟨⟨(-1), (), rfl, hpost, by rw [ht]; exact hI, hN.warm hW, va_K.moved hW.alike hK⟩, hS.F ht⟩) hS.2.2 dX11_suspects_13
  refine lv_iload_n hx hb dX11_suspects_0 rfl (lv_at hl 1 rfl) ?_
  refine th_cSs (As := [.int x1]) (rest := []) (n := 1) (d := 0) ⟨hx, hb, hml, hown, hts⟩ (c_X11_isColour l s.heap x1) wd_620 wd_621 wd_1 wd_622 (by decide +kernel) ⟨by rw [hR]; exact Nat.le_of_ble_eq_true rfl, by rw [hR]; exact Nat.le_of_ble_eq_true rfl⟩ hN hS rfl hl.1 rfl (Nat.le_of_ble_eq_true rfl) dX11_suspects_1 ⟨Nat.zero_le _, Nat.zero_le _⟩ (fun r601 locs hp hS => ?_)
  rcases hp with ⟨rfl, hp⟩ | ⟨rfl, hp⟩
  · skip
    try simp only [rg, not_and, Int.not_le] at hp
    have hp602 := hp
    refine lv_if_eq (tgt := 12) hx hb dX11_suspects_4 (by decide) (fun c => absurd c (by decide)) (fun _ => ?_)
    refine lv_iload_n hx hb dX11_suspects_7 rfl (lv_at hl 2 rfl) ?_
    refine lv_iconst (v := (-1)) hx hb dX11_suspects_8 (by decide) ?_
    have k603 := iv_lo x2
    have k604 := iv_hi x2
    refine lv_icmp_ge (tgt := 14) hx hb dX11_suspects_9 (by decide) (fun c605 => ?_) (fun c605 => ?_)
    · skip
      have k606 := iv_le (X := (-1)) (Y := x2.toInt) (by decide) rfl c605
      refine lv_iload_n hx hb dX11_suspects_14 rfl (lv_at hl 2 rfl) ?_
      refine lv_iconst (v := (-1)) hx hb dX11_suspects_15 (by decide) ?_
      refine lv_icmp_ne (tgt := 30) hx hb dX11_suspects_16 (by decide) (fun c607 => ?_) (fun c607 => ?_)
      · skip
        have k608 := iv_ne (X := x2.toInt) (Y := (-1)) rfl (by decide) c607
        refine lv_aload_n hx hb dX11_suspects_30 rfl (lv_at hl 0 rfl) ?_
        obtain ⟨a609, a613, a615, a617, a619, a621, a623, a625, a627, a629, a631, w633, w636, w637, w638, w639, hO, hq610, ⟨m612, hq611⟩, hq614, hq616, hq618, hq620, hq622, hq624, hq626, hq628, hq630, hq632, ⟨k634, k635⟩⟩ := op_15 hI hG0 List.not_mem_nil
        have hI := th_I.weak (a := h0) hI
        refine th_get hx hb hts inT11 hown hK hO rfl 9 (by decide) (hts _ (tb_c wd_354)) rfl rfl dX11_suspects_31 ?_
        refine lv_iload_n hx hb dX11_suspects_34 rfl (lv_at hl 1 rfl) ?_
        refine lv_iload_n hx hb dX11_suspects_35 rfl (lv_at hl 2 rfl) ?_
        have hI := th_I.close hI hG0 hO (ok_15 hq610 ⟨_, hq611⟩ hq614 hq616 hq618 hq620 hq622 hq624 hq626 hq628 hq630 hq632 ⟨by omega, by omega⟩)
        refine th_cVi (As := [.int x1, .int x2]) (rest := []) (n := 2) (d := 7) ⟨hx, hb, hml, hown, hts⟩ (c_X5_findAlone l E D G a627 hq628 x1 x2) wd_1016 wd_1017 wd_1018 wd_10 wd_1019 (by decide +kernel) ⟨by rw [hR]; exact Nat.le_of_ble_eq_true rfl, by rw [hR]; exact Nat.le_of_ble_eq_true rfl⟩ hI hN hK hS (rc_12 hI hq628 List.not_mem_nil) rfl rfl hl.1 rfl (Nat.le_of_ble_eq_true rfl) dX11_suspects_36 ⟨Nat.zero_le _, Nat.zero_le _⟩ (fun r640 H locs hp hI hS => ?_)
        have hpost : True := trivial
        rw [hQ]
        exact W.iret (v := r640) hx hb hr (fun t ht hW => ⟨⟨r640, (), rfl, hpost, by rw [ht]; exact hI, hN.warm hW, va_K.moved hW.alike hK⟩, hS.F ht⟩) hS.2.2 dX11_suspects_39
      · skip
        have k641 := iv_eq (X := x2.toInt) (Y := (-1)) rfl (by decide) c607
        refine lv_aload_n hx hb dX11_suspects_19 rfl (lv_at hl 0 rfl) ?_
        obtain ⟨a642, a646, a648, a650, a652, a654, a656, a658, a660, a662, a664, w666, w669, w670, w671, w672, hO, hq643, ⟨m645, hq644⟩, hq647, hq649, hq651, hq653, hq655, hq657, hq659, hq661, hq663, hq665, ⟨k667, k668⟩⟩ := op_15 hI hG0 List.not_mem_nil
        have hI := th_I.weak (a := h0) hI
        refine th_get hx hb hts inT11 hown hK hO rfl 9 (by decide) (hts _ (tb_c wd_354)) rfl rfl dX11_suspects_20 ?_
        refine lv_iload_n hx hb dX11_suspects_23 rfl (lv_at hl 1 rfl) ?_
        have hI := th_I.close hI hG0 hO (ok_15 hq643 ⟨_, hq644⟩ hq647 hq649 hq651 hq653 hq655 hq657 hq659 hq661 hq663 hq665 ⟨by omega, by omega⟩)
        refine th_cVi (As := [.int x1]) (rest := []) (n := 1) (d := 7) ⟨hx, hb, hml, hown, hts⟩ (c_X5_countAlone l E D G a660 hq661 x1) wd_995 wd_996 wd_997 wd_10 wd_998 (by decide +kernel) ⟨by rw [hR]; exact Nat.le_of_ble_eq_true rfl, by rw [hR]; exact Nat.le_of_ble_eq_true rfl⟩ hI hN hK hS (rc_12 hI hq661 List.not_mem_nil) rfl rfl hl.1 rfl (Nat.le_of_ble_eq_true rfl) dX11_suspects_24 ⟨Nat.zero_le _, Nat.zero_le _⟩ (fun r673 H locs hp hI hS => ?_)
        refine lv_goto (tgt := 39) hx hb dX11_suspects_27 (by decide) ?_
        have hpost : True := trivial
        rw [hQ]
        exact W.iret (v := r673) hx hb hr (fun t ht hW => ⟨⟨r673, (), rfl, hpost, by rw [ht]; exact hI, hN.warm hW, va_K.moved hW.alike hK⟩, hS.F ht⟩) hS.2.2 dX11_suspects_39
    · skip
      have k674 := iv_nle (X := (-1)) (Y := x2.toInt) (by decide) rfl c605
      exact J_12 s.heap locs ls  (lv_sub hl [0, 1, 2] rfl)  hI hS
  · skip
    try simp only [rg, not_and, Int.not_le] at hp
    have hp675 := hp
    refine lv_if_eq (tgt := 12) hx hb dX11_suspects_4 (by decide) (fun _ => ?_) (fun c => absurd c (by decide))
    exact J_12 s.heap locs ls  (lv_sub hl [0, 1, 2] rfl)  hI hS
theorem dX11_job_0 : decode cX11_job 0 = .ok (.iload_n 1, 1) := by decide +kernel
theorem dX11_job_1 : decode cX11_job 1 = .ok (.invokestatic 106, 3) := by decide +kernel
theorem dX11_job_4 : decode cX11_job 4 = .ok (.ifCond .eq 21, 3) := by decide +kernel
theorem dX11_job_7 : decode cX11_job 7 = .ok (.iload_n 2, 1) := by decide +kernel
theorem dX11_job_8 : decode cX11_job 8 = .ok (.iconst 1, 1) := by decide +kernel
theorem dX11_job_9 : decode cX11_job 9 = .ok (.if_icmp .lt 16, 3) := by decide +kernel
theorem dX11_job_12 : decode cX11_job 12 = .ok (.iload_n 2, 1) := by decide +kernel
theorem dX11_job_13 : decode cX11_job 13 = .ok (.bipush 6, 2) := by decide +kernel
theorem dX11_job_15 : decode cX11_job 15 = .ok (.if_icmp .gt 10, 3) := by decide +kernel
theorem dX11_job_18 : decode cX11_job 18 = .ok (.iload_n 3, 1) := by decide +kernel
theorem dX11_job_19 : decode cX11_job 19 = .ok (.invokestatic 211, 3) := by decide +kernel
theorem dX11_job_22 : decode cX11_job 22 = .ok (.ifCond .ne 9, 3) := by decide +kernel
theorem dX11_job_25 : decode cX11_job 25 = .ok (.aload_n 0, 1) := by decide +kernel
theorem dX11_job_26 : decode cX11_job 26 = .ok (.iconst (-1), 1) := by decide +kernel
theorem dX11_job_27 : decode cX11_job 27 = .ok (.invokevirtual 113, 3) := by decide +kernel
theorem dX11_job_30 : decode cX11_job 30 = .ok (.ireturn, 1) := by decide +kernel
theorem dX11_job_31 : decode cX11_job 31 = .ok (.aload_n 0, 1) := by decide +kernel
theorem dX11_job_32 : decode cX11_job 32 = .ok (.getfield 12, 3) := by decide +kernel
theorem dX11_job_35 : decode cX11_job 35 = .ok (.getfield 307, 3) := by decide +kernel
theorem dX11_job_38 : decode cX11_job 38 = .ok (.invokevirtual 149, 3) := by decide +kernel
theorem dX11_job_41 : decode cX11_job 41 = .ok (.ifCond .eq 10, 3) := by decide +kernel
theorem dX11_job_44 : decode cX11_job 44 = .ok (.aload_n 0, 1) := by decide +kernel
theorem dX11_job_45 : decode cX11_job 45 = .ok (.bipush (-5), 2) := by decide +kernel
theorem dX11_job_47 : decode cX11_job 47 = .ok (.invokevirtual 113, 3) := by decide +kernel
theorem dX11_job_50 : decode cX11_job 50 = .ok (.ireturn, 1) := by decide +kernel
theorem dX11_job_51 : decode cX11_job 51 = .ok (.aload_n 0, 1) := by decide +kernel
theorem dX11_job_52 : decode cX11_job 52 = .ok (.getfield 12, 3) := by decide +kernel
theorem dX11_job_55 : decode cX11_job 55 = .ok (.getfield 307, 3) := by decide +kernel
theorem dX11_job_58 : decode cX11_job 58 = .ok (.iload_n 1, 1) := by decide +kernel
theorem dX11_job_59 : decode cX11_job 59 = .ok (.iload_n 2, 1) := by decide +kernel
theorem dX11_job_60 : decode cX11_job 60 = .ok (.iload_n 3, 1) := by decide +kernel
theorem dX11_job_61 : decode cX11_job 61 = .ok (.iconst 0, 1) := by decide +kernel
theorem dX11_job_62 : decode cX11_job 62 = .ok (.invokevirtual 155, 3) := by decide +kernel
theorem dX11_job_65 : decode cX11_job 65 = .ok (.pop, 1) := by decide +kernel
theorem dX11_job_66 : decode cX11_job 66 = .ok (.aload_n 0, 1) := by decide +kernel
theorem dX11_job_67 : decode cX11_job 67 = .ok (.invokevirtual 191, 3) := by decide +kernel
theorem dX11_job_70 : decode cX11_job 70 = .ok (.aload_n 0, 1) := by decide +kernel
theorem dX11_job_71 : decode cX11_job 71 = .ok (.aload_n 0, 1) := by decide +kernel
theorem dX11_job_72 : decode cX11_job 72 = .ok (.getfield 12, 3) := by decide +kernel
theorem dX11_job_75 : decode cX11_job 75 = .ok (.getfield 307, 3) := by decide +kernel
theorem dX11_job_78 : decode cX11_job 78 = .ok (.invokevirtual 166, 3) := by decide +kernel
theorem dX11_job_81 : decode cX11_job 81 = .ok (.invokevirtual 127, 3) := by decide +kernel
theorem dX11_job_84 : decode cX11_job 84 = .ok (.ireturn, 1) := by decide +kernel
set_option maxHeartbeats 4000000 in
set_option maxRecDepth 100000 in
theorem c_X11_job (l : Launch) (E : Nat → ClassId) (D : va_G) (G : th_G) (h0 n : Nat) (hG0 : G h0 = some (15, n)) (x1 x2 x3 : Int32) : Met l yX11_job (tb (.code yX11_job cX11_job 4 (some .int))) (rm 2) (va_Pc [.ref h0, .int x1, .int x2, .int x3] (th_P E D G)) (QI E D G (fun r => True)) 0 0 (th_A G) := by
  refine Met.ofW (cc := cX11_job) (maxL := 4) (ret := (some .int)) (by decide) rfl ?_
  intro p e s m args below meth c s₁ B hml hv
  obtain ⟨hav, hI, hN, hK⟩ := hv
  have hx := B.exec
  have hb := B.bytes
  have hr := B.returns
  have hts := atoms_spec (ws := tb (.code yX11_job cX11_job 4 (some .int))) B.pre
  have hown : s.vm.findClass RX11 = some m.cls := findClass_of_methodNamed B.named
  have hlocks := B.notSynchronized
  have hS : va_S (th_A G) s.heap s.heap [] := va_S.rf
  have hl := lv_entry ([.ref h0, .int x1, .int x2, .int x3]) (n := 4) (Nat.le_of_ble_eq_true rfl)
  rw [show entryFrame m args 4 = entryFrame m ([.ref h0, .int x1, .int x2, .int x3] : List Value).toArray 4 from by rw [hav], lg_entry_eq]
  generalize (lg_sl ([.ref h0, .int x1, .int x2, .int x3]) ++ List.replicate (4 - (lg_sl ([.ref h0, .int x1, .int x2, .int x3])).length) Slot.unset).toArray = ls at hl ⊢
  have hl : lv_has ls 4 [(0, .ref h0), (1, .int x1), (2, .int x2), (3, .int x3)] := hl
  generalize hR : (headSpec (tb (.code yX11_job cX11_job 4 (some .int))) (rm 2)).room = R
  have hR := hR.symm
  generalize hQ : MQ below (QI E D G (fun r => True)) args s 0 0 (th_A G) = QF
  have hQ := hQ.symm
  have J_25 : ∀ (H : Heap) (locs : List Loc) (ls : Array Slot) , lv_has ls 4 [(0, .ref h0), (1, .int x1), (2, .int x2), (3, .int x3)] → th_I (okC E) D G [] H → va_S (th_A G) s.heap H locs → W p l e R s m args below meth c H locs 0 0 QF (F0 m 25 ls []) := by
    intro H locs ls  hl  hI hS
    refine lv_aload_n hx hb dX11_job_25 rfl (lv_at hl 0 rfl) ?_
    refine lv_iconst (v := (-1)) hx hb dX11_job_26 (by decide) ?_
    refine th_cVi (As := [.int (-1)]) (rest := []) (n := 1) (d := 0) ⟨hx, hb, hml, hown, hts⟩ (c_X11_refuse l E D G h0 (n) hG0 (-1)) wd_407 wd_409 wp_0 wd_1 wd_410 (by decide +kernel) ⟨by rw [hR]; exact Nat.le_of_ble_eq_true rfl, by rw [hR]; exact Nat.le_of_ble_eq_true rfl⟩ hI hN hK hS (rc_15 hI hG0 List.not_mem_nil) rfl rfl hl.1 rfl (Nat.le_of_ble_eq_true rfl) dX11_job_27 ⟨Nat.zero_le _, Nat.zero_le _⟩ (fun r1664 H locs hp hI hS => ?_)
    have hp := hp.symm
    subst hp
    have hpost : True := trivial
    rw [hQ]
    exact W.iret (v := (-1)) hx hb hr (fun t ht hW => ⟨⟨(-1), (), rfl, hpost, by rw [ht]; exact hI, hN.warm hW, va_K.moved hW.alike hK⟩, hS.F ht⟩) hS.2.2 dX11_job_30
  refine lv_iload_n hx hb dX11_job_0 rfl (lv_at hl 1 rfl) ?_
  refine th_cSs (As := [.int x1]) (rest := []) (n := 1) (d := 0) ⟨hx, hb, hml, hown, hts⟩ (c_X11_isCell l s.heap x1) wd_401 wd_402 wd_1 wd_403 (by decide +kernel) ⟨by rw [hR]; exact Nat.le_of_ble_eq_true rfl, by rw [hR]; exact Nat.le_of_ble_eq_true rfl⟩ hN hS rfl hl.1 rfl (Nat.le_of_ble_eq_true rfl) dX11_job_1 ⟨Nat.zero_le _, Nat.zero_le _⟩ (fun r1665 locs hp hS => ?_)
  rcases hp with ⟨rfl, hp⟩ | ⟨rfl, hp⟩
  · skip
    try simp only [rg, not_and, Int.not_le] at hp
    have hp1666 := hp
    refine lv_if_eq (tgt := 25) hx hb dX11_job_4 (by decide) (fun c => absurd c (by decide)) (fun _ => ?_)
    refine lv_iload_n hx hb dX11_job_7 rfl (lv_at hl 2 rfl) ?_
    refine lv_iconst (v := 1) hx hb dX11_job_8 (by decide) ?_
    have k1667 := iv_lo x2
    have k1668 := iv_hi x2
    refine lv_icmp_lt (tgt := 25) hx hb dX11_job_9 (by decide) (fun c1669 => ?_) (fun c1669 => ?_)
    · skip
      have k1670 := iv_lt (X := x2.toInt) (Y := (1)) rfl (by decide) c1669
      exact J_25 s.heap locs ls  (lv_sub hl [0, 1, 2, 3] rfl)  hI hS
    · skip
      have k1671 := iv_nlt (X := x2.toInt) (Y := (1)) rfl (by decide) c1669
      refine lv_iload_n hx hb dX11_job_12 rfl (lv_at hl 2 rfl) ?_
      refine lv_bipush (v := 6) hx hb dX11_job_13 (by decide) ?_
      refine lv_icmp_gt (tgt := 25) hx hb dX11_job_15 (by decide) (fun c1672 => ?_) (fun c1672 => ?_)
      · skip
        have k1673 := iv_lt (X := (6)) (Y := x2.toInt) (by decide) rfl c1672
        exact J_25 s.heap locs ls  (lv_sub hl [0, 1, 2, 3] rfl)  hI hS
      · skip
        have k1674 := iv_nlt (X := (6)) (Y := x2.toInt) (by decide) rfl c1672
        refine lv_iload_n hx hb dX11_job_18 rfl (lv_at hl 3 rfl) ?_
        refine th_cSs (As := [.int x3]) (rest := []) (n := 1) (d := 0) ⟨hx, hb, hml, hown, hts⟩ (c_X11_isHour l s.heap x3) wd_466 wd_467 wd_1 wd_468 (by decide +kernel) ⟨by rw [hR]; exact Nat.le_of_ble_eq_true rfl, by rw [hR]; exact Nat.le_of_ble_eq_true rfl⟩ hN hS rfl hl.1 rfl (Nat.le_of_ble_eq_true rfl) dX11_job_19 ⟨Nat.zero_le _, Nat.zero_le _⟩ (fun r1675 locs hp hS => ?_)
        rcases hp with ⟨rfl, hp⟩ | ⟨rfl, hp⟩
        · skip
          try simp only [rg, not_and, Int.not_le] at hp
          have hp1676 := hp
          refine lv_if_ne (tgt := 31) hx hb dX11_job_22 (by decide) (fun _ => ?_) (fun c => absurd c (by decide))
          refine lv_aload_n hx hb dX11_job_31 rfl (lv_at hl 0 rfl) ?_
          obtain ⟨a1677, a1681, a1683, a1685, a1687, a1689, a1691, a1693, a1695, a1697, a1699, w1701, w1704, w1705, w1706, w1707, hO, hq1678, ⟨m1680, hq1679⟩, hq1682, hq1684, hq1686, hq1688, hq1690, hq1692, hq1694, hq1696, hq1698, hq1700, ⟨k1702, k1703⟩⟩ := op_15 hI hG0 List.not_mem_nil
          have hI := th_I.weak (a := h0) hI
          refine th_get hx hb hts inT11 hown hK hO rfl 0 (by decide) (hts _ (tb_c wd_345)) rfl rfl dX11_job_32 ?_
          have hI := th_I.close hI hG0 hO (ok_15 hq1678 ⟨_, hq1679⟩ hq1682 hq1684 hq1686 hq1688 hq1690 hq1692 hq1694 hq1696 hq1698 hq1700 ⟨by omega, by omega⟩)
          obtain ⟨a1708, a1710, a1712, a1714, a1716, a1718, a1720, a1722, a1724, a1726, w1728, w1731, w1732, w1733, hO, hq1709, hq1711, hq1713, hq1715, hq1717, hq1719, hq1721, hq1723, hq1725, hq1727, ⟨k1729, k1730⟩⟩ := op_6 hI hq1678 List.not_mem_nil
          have hI := th_I.weak (a := a1677) hI
          refine th_getN hx hb hts inT6 hown hK hN hO rfl 7 (by decide) wn_77 rfl rfl dX11_job_35 ?_
          have hI := th_I.close hI hq1678 hO (ok_6 hq1709 hq1711 hq1713 hq1715 hq1717 hq1719 hq1721 hq1723 hq1725 hq1727 ⟨by omega, by omega⟩)
          obtain ⟨a1735, w1737, hO, hq1736, ⟨k1738, k1739⟩, k1740⟩ := op_4 hI hq1723 List.not_mem_nil
          have hI := th_I.weak (a := a1722) hI
          have k1741 : (nI 6).toInt = ((6 : Nat) : Int) := nI_toInt (by omega)
          refine th_cVs (As := []) (rest := []) (n := 0) (d := 0) ⟨hx, hb, hml, hown, hts⟩ (c_X4_isFull l E D s.heap a1722 6 a1735 w1737 hO (by omega) (by omega) (by omega)) wd_481 wd_482 wd_483 wd_3 wd_484 (by decide +kernel) ⟨by rw [hR]; exact Nat.le_of_ble_eq_true rfl, by rw [hR]; exact Nat.le_of_ble_eq_true rfl⟩ hN hK hS ⟨_, hO⟩ rfl rfl hl.1 rfl (Nat.le_of_ble_eq_true rfl) dX11_job_38 ⟨Nat.zero_le _, Nat.zero_le _⟩ (fun r1734 locs hp hS => ?_)
          rcases hp with ⟨rfl, hp⟩ | ⟨rfl, hp⟩
          · skip
            try simp only [rg, not_and, Int.not_le] at hp
            have hp1742 := hp
            refine lv_if_eq (tgt := 51) hx hb dX11_job_41 (by decide) (fun c => absurd c (by decide)) (fun _ => ?_)
            refine lv_aload_n hx hb dX11_job_44 rfl (lv_at hl 0 rfl) ?_
            refine lv_bipush (v := (-5)) hx hb dX11_job_45 (by decide) ?_
            have hI := th_I.close hI hq1723 hO (ok_4 hq1736 ⟨by omega, by omega⟩ (by omega))
            refine th_cVi (As := [.int (-5)]) (rest := []) (n := 1) (d := 0) ⟨hx, hb, hml, hown, hts⟩ (c_X11_refuse l E D G h0 (n) hG0 (-5)) wd_407 wd_409 wp_0 wd_1 wd_410 (by decide +kernel) ⟨by rw [hR]; exact Nat.le_of_ble_eq_true rfl, by rw [hR]; exact Nat.le_of_ble_eq_true rfl⟩ hI hN hK hS (rc_15 hI hG0 List.not_mem_nil) rfl rfl hl.1 rfl (Nat.le_of_ble_eq_true rfl) dX11_job_47 ⟨Nat.zero_le _, Nat.zero_le _⟩ (fun r1743 H locs hp hI hS => ?_)
            have hp := hp.symm
            subst hp
            have hpost : True := trivial
            rw [hQ]
            exact W.iret (v := (-5)) hx hb hr (fun t ht hW => ⟨⟨(-5), (), rfl, hpost, by rw [ht]; exact hI, hN.warm hW, va_K.moved hW.alike hK⟩, hS.F ht⟩) hS.2.2 dX11_job_50
          · skip
            have hp1744 := hp
            refine lv_if_eq (tgt := 51) hx hb dX11_job_41 (by decide) (fun _ => ?_) (fun c => absurd c (by decide))
            refine lv_aload_n hx hb dX11_job_51 rfl (lv_at hl 0 rfl) ?_
            have hI := th_I.close hI hq1723 hO (ok_4 hq1736 ⟨by omega, by omega⟩ (by omega))
            obtain ⟨a1745, a1749, a1751, a1753, a1755, a1757, a1759, a1761, a1763, a1765, a1767, w1769, w1772, w1773, w1774, w1775, hO, hq1746, ⟨m1748, hq1747⟩, hq1750, hq1752, hq1754, hq1756, hq1758, hq1760, hq1762, hq1764, hq1766, hq1768, ⟨k1770, k1771⟩⟩ := op_15 hI hG0 List.not_mem_nil
            have hI := th_I.weak (a := h0) hI
            refine th_get hx hb hts inT11 hown hK hO rfl 0 (by decide) (hts _ (tb_c wd_345)) rfl rfl dX11_job_52 ?_
            have hI := th_I.close hI hG0 hO (ok_15 hq1746 ⟨_, hq1747⟩ hq1750 hq1752 hq1754 hq1756 hq1758 hq1760 hq1762 hq1764 hq1766 hq1768 ⟨by omega, by omega⟩)
            obtain ⟨a1776, a1778, a1780, a1782, a1784, a1786, a1788, a1790, a1792, a1794, w1796, w1799, w1800, w1801, hO, hq1777, hq1779, hq1781, hq1783, hq1785, hq1787, hq1789, hq1791, hq1793, hq1795, ⟨k1797, k1798⟩⟩ := op_6 hI hq1746 List.not_mem_nil
            have hI := th_I.weak (a := a1745) hI
            refine th_getN hx hb hts inT6 hown hK hN hO rfl 7 (by decide) wn_77 rfl rfl dX11_job_55 ?_
            refine lv_iload_n hx hb dX11_job_58 rfl (lv_at hl 1 rfl) ?_
            refine lv_iload_n hx hb dX11_job_59 rfl (lv_at hl 2 rfl) ?_
            refine lv_iload_n hx hb dX11_job_60 rfl (lv_at hl 3 rfl) ?_
            refine lv_iconst (v := 0) hx hb dX11_job_61 (by decide) ?_
            have hI := th_I.close hI hq1746 hO (ok_6 hq1777 hq1779 hq1781 hq1783 hq1785 hq1787 hq1789 hq1791 hq1793 hq1795 ⟨by omega, by omega⟩)
            refine th_cVi (As := [.int x1, .int x2, .int x3, .int 0]) (rest := []) (n := 4) (d := 1) ⟨hx, hb, hml, hown, hts⟩ (c_X4_put l E D G a1790 (6) hq1791 x1 x2 x3 0) wd_485 wd_486 wd_487 wd_3 wd_488 (by decide +kernel) ⟨by rw [hR]; exact Nat.le_of_ble_eq_true rfl, by rw [hR]; exact Nat.le_of_ble_eq_true rfl⟩ hI hN hK hS (rc_4 hI hq1791 List.not_mem_nil) rfl rfl hl.1 rfl (Nat.le_of_ble_eq_true rfl) dX11_job_62 ⟨Nat.zero_le _, Nat.zero_le _⟩ (fun r1802 H locs hp hI hS => ?_)
            refine lv_pop hx hb dX11_job_65 rfl ?_
            refine lv_aload_n hx hb dX11_job_66 rfl (lv_at hl 0 rfl) ?_
            refine th_cVv (As := []) (rest := []) (n := 0) (d := 1) ⟨hx, hb, hml, hown, hts⟩ (c_X11_turnLists l E D G h0 (n) hG0 ) wd_431 wd_433 wp_2 wd_1 wd_434 (by decide +kernel) ⟨by rw [hR]; exact Nat.le_of_ble_eq_true rfl, by rw [hR]; exact Nat.le_of_ble_eq_true rfl⟩ hI hN hK hS (rc_15 hI hG0 List.not_mem_nil) rfl rfl hl.1 rfl (Nat.le_of_ble_eq_true rfl) dX11_job_67 ⟨Nat.zero_le _, Nat.zero_le _⟩ (fun H locs hI hS => ?_)
            refine lv_aload_n hx hb dX11_job_70 rfl (lv_at hl 0 rfl) ?_
            refine lv_aload_n hx hb dX11_job_71 rfl (lv_at hl 0 rfl) ?_
            obtain ⟨a1804, a1808, a1810, a1812, a1814, a1816, a1818, a1820, a1822, a1824, a1826, w1828, w1831, w1832, w1833, w1834, hO, hq1805, ⟨m1807, hq1806⟩, hq1809, hq1811, hq1813, hq1815, hq1817, hq1819, hq1821, hq1823, hq1825, hq1827, ⟨k1829, k1830⟩⟩ := op_15 hI hG0 List.not_mem_nil
            have hI := th_I.weak (a := h0) hI
            refine th_get hx hb hts inT11 hown hK hO rfl 0 (by decide) (hts _ (tb_c wd_345)) rfl rfl dX11_job_72 ?_
            have hI := th_I.close hI hG0 hO (ok_15 hq1805 ⟨_, hq1806⟩ hq1809 hq1811 hq1813 hq1815 hq1817 hq1819 hq1821 hq1823 hq1825 hq1827 ⟨by omega, by omega⟩)
            obtain ⟨a1835, a1837, a1839, a1841, a1843, a1845, a1847, a1849, a1851, a1853, w1855, w1858, w1859, w1860, hO, hq1836, hq1838, hq1840, hq1842, hq1844, hq1846, hq1848, hq1850, hq1852, hq1854, ⟨k1856, k1857⟩⟩ := op_6 hI hq1805 List.not_mem_nil
            have hI := th_I.weak (a := a1804) hI
            refine th_getN hx hb hts inT6 hown hK hN hO rfl 7 (by decide) wn_77 rfl rfl dX11_job_75 ?_
            have hI := th_I.close hI hq1805 hO (ok_6 hq1836 hq1838 hq1840 hq1842 hq1844 hq1846 hq1848 hq1850 hq1852 hq1854 ⟨by omega, by omega⟩)
            obtain ⟨a1862, w1864, hO, hq1863, ⟨k1865, k1866⟩, k1867⟩ := op_4 hI hq1850 List.not_mem_nil
            have hI := th_I.weak (a := a1849) hI
            have k1868 : (nI 6).toInt = ((6 : Nat) : Int) := nI_toInt (by omega)
            refine th_cVs (As := []) (rest := [.ref h0]) (n := 0) (d := 0) ⟨hx, hb, hml, hown, hts⟩ (c_X4_size l E D H a1849 6 a1862 w1864 hO (by omega) (by omega) (by omega)) wd_506 wd_507 wd_508 wd_3 wd_509 (by decide +kernel) ⟨by rw [hR]; exact Nat.le_of_ble_eq_true rfl, by rw [hR]; exact Nat.le_of_ble_eq_true rfl⟩ hN hK hS ⟨_, hO⟩ rfl rfl hl.1 rfl (Nat.le_of_ble_eq_true rfl) dX11_job_78 ⟨Nat.zero_le _, Nat.zero_le _⟩ (fun r1861 locs hp hS => ?_)
            have hp := hp.symm
            subst hp
            have hI := th_I.close hI hq1850 hO (ok_4 hq1863 ⟨by omega, by omega⟩ (by omega))
            refine th_cVi (As := [.int w1864]) (rest := []) (n := 1) (d := 0) ⟨hx, hb, hml, hown, hts⟩ (c_X11_accept l E D G h0 (n) hG0 w1864) wd_447 wd_449 wp_3 wd_1 wd_450 (by decide +kernel) ⟨by rw [hR]; exact Nat.le_of_ble_eq_true rfl, by rw [hR]; exact Nat.le_of_ble_eq_true rfl⟩ hI hN hK hS (rc_15 hI hG0 List.not_mem_nil) rfl rfl hl.1 rfl (Nat.le_of_ble_eq_true rfl) dX11_job_81 ⟨Nat.zero_le _, Nat.zero_le _⟩ (fun r1869 H locs hp hI hS => ?_)
            have hp := hp.symm
            subst hp
            have hpost : True := trivial
            rw [hQ]
            exact W.iret (v := w1864) hx hb hr (fun t ht hW => ⟨⟨w1864, (), rfl, hpost, by rw [ht]; exact hI, hN.warm hW, va_K.moved hW.alike hK⟩, hS.F ht⟩) hS.2.2 dX11_job_84
        · skip
          try simp only [rg, not_and, Int.not_le] at hp
          have hp1870 := hp
          refine lv_if_ne (tgt := 31) hx hb dX11_job_22 (by decide) (fun c => absurd c (by decide)) (fun _ => ?_)
          exact J_25 s.heap locs ls  (lv_sub hl [0, 1, 2, 3] rfl)  hI hS
  · skip
    try simp only [rg, not_and, Int.not_le] at hp
    have hp1871 := hp
    refine lv_if_eq (tgt := 25) hx hb dX11_job_4 (by decide) (fun _ => ?_) (fun c => absurd c (by decide))
    exact J_25 s.heap locs ls  (lv_sub hl [0, 1, 2, 3] rfl)  hI hS
theorem dX11_hang_0 : decode cX11_hang 0 = .ok (.aload_n 0, 1) := by decide +kernel
theorem dX11_hang_1 : decode cX11_hang 1 = .ok (.invokevirtual 191, 3) := by decide +kernel
theorem dX11_hang_4 : decode cX11_hang 4 = .ok (.aload_n 0, 1) := by decide +kernel
theorem dX11_hang_5 : decode cX11_hang 5 = .ok (.getfield 12, 3) := by decide +kernel
theorem dX11_hang_8 : decode cX11_hang 8 = .ok (.getfield 307, 3) := by decide +kernel
theorem dX11_hang_11 : decode cX11_hang 11 = .ok (.invokevirtual 295, 3) := by decide +kernel
theorem dX11_hang_14 : decode cX11_hang 14 = .ok (.ireturn, 1) := by decide +kernel
set_option maxHeartbeats 4000000 in
set_option maxRecDepth 100000 in
theorem c_X11_hang (l : Launch) (E : Nat → ClassId) (D : va_G) (G : th_G) (h0 n : Nat) (hG0 : G h0 = some (15, n)) : Met l yX11_hang (tb (.code yX11_hang cX11_hang 1 (some .int))) (rm 2) (va_Pc [.ref h0] (th_P E D G)) (QI E D G (fun r => True)) 0 0 (th_A G) := by
  refine Met.ofW (cc := cX11_hang) (maxL := 1) (ret := (some .int)) (by decide) rfl ?_
  intro p e s m args below meth c s₁ B hml hv
  obtain ⟨hav, hI, hN, hK⟩ := hv
  have hx := B.exec
  have hb := B.bytes
  have hr := B.returns
  have hts := atoms_spec (ws := tb (.code yX11_hang cX11_hang 1 (some .int))) B.pre
  have hown : s.vm.findClass RX11 = some m.cls := findClass_of_methodNamed B.named
  have hlocks := B.notSynchronized
  have hS : va_S (th_A G) s.heap s.heap [] := va_S.rf
  have hl := lv_entry ([.ref h0]) (n := 1) (Nat.le_of_ble_eq_true rfl)
  rw [show entryFrame m args 1 = entryFrame m ([.ref h0] : List Value).toArray 1 from by rw [hav], lg_entry_eq]
  generalize (lg_sl ([.ref h0]) ++ List.replicate (1 - (lg_sl ([.ref h0])).length) Slot.unset).toArray = ls at hl ⊢
  have hl : lv_has ls 1 [(0, .ref h0)] := hl
  generalize hR : (headSpec (tb (.code yX11_hang cX11_hang 1 (some .int))) (rm 2)).room = R
  have hR := hR.symm
  generalize hQ : MQ below (QI E D G (fun r => True)) args s 0 0 (th_A G) = QF
  have hQ := hQ.symm
  refine lv_aload_n hx hb dX11_hang_0 rfl (lv_at hl 0 rfl) ?_
  refine th_cVv (As := []) (rest := []) (n := 0) (d := 1) ⟨hx, hb, hml, hown, hts⟩ (c_X11_turnLists l E D G h0 (n) hG0 ) wd_431 wd_433 wp_2 wd_1 wd_434 (by decide +kernel) ⟨by rw [hR]; exact Nat.le_of_ble_eq_true rfl, by rw [hR]; exact Nat.le_of_ble_eq_true rfl⟩ hI hN hK hS (rc_15 hI hG0 List.not_mem_nil) rfl rfl hl.1 rfl (Nat.le_of_ble_eq_true rfl) dX11_hang_1 ⟨Nat.zero_le _, Nat.zero_le _⟩ (fun H locs hI hS => ?_)
  refine lv_aload_n hx hb dX11_hang_4 rfl (lv_at hl 0 rfl) ?_
  obtain ⟨a2, a6, a8, a10, a12, a14, a16, a18, a20, a22, a24, w26, w29, w30, w31, w32, hO, hq3, ⟨m5, hq4⟩, hq7, hq9, hq11, hq13, hq15, hq17, hq19, hq21, hq23, hq25, ⟨k27, k28⟩⟩ := op_15 hI hG0 List.not_mem_nil
  have hI := th_I.weak (a := h0) hI
  refine th_get hx hb hts inT11 hown hK hO rfl 0 (by decide) (hts _ (tb_c wd_345)) rfl rfl dX11_hang_5 ?_
  have hI := th_I.close hI hG0 hO (ok_15 hq3 ⟨_, hq4⟩ hq7 hq9 hq11 hq13 hq15 hq17 hq19 hq21 hq23 hq25 ⟨by omega, by omega⟩)
  obtain ⟨a33, a35, a37, a39, a41, a43, a45, a47, a49, a51, w53, w56, w57, w58, hO, hq34, hq36, hq38, hq40, hq42, hq44, hq46, hq48, hq50, hq52, ⟨k54, k55⟩⟩ := op_6 hI hq3 List.not_mem_nil
  have hI := th_I.weak (a := a2) hI
  refine th_getN hx hb hts inT6 hown hK hN hO rfl 7 (by decide) wn_77 rfl rfl dX11_hang_8 ?_
  have hI := th_I.close hI hq3 hO (ok_6 hq34 hq36 hq38 hq40 hq42 hq44 hq46 hq48 hq50 hq52 ⟨by omega, by omega⟩)
  refine th_cVi (As := []) (rest := []) (n := 0) (d := 0) ⟨hx, hb, hml, hown, hts⟩ (c_X4_clear l E D G a47 (6) hq48 ) wd_983 wd_984 wd_985 wd_3 wd_986 (by decide +kernel) ⟨by rw [hR]; exact Nat.le_of_ble_eq_true rfl, by rw [hR]; exact Nat.le_of_ble_eq_true rfl⟩ hI hN hK hS (rc_4 hI hq48 List.not_mem_nil) rfl rfl hl.1 rfl (Nat.le_of_ble_eq_true rfl) dX11_hang_11 ⟨Nat.zero_le _, Nat.zero_le _⟩ (fun r59 H locs hp hI hS => ?_)
  have hpost : True := trivial
  rw [hQ]
  exact W.iret (v := r59) hx hb hr (fun t ht hW => ⟨⟨r59, (), rfl, hpost, by rw [ht]; exact hI, hN.warm hW, va_K.moved hW.alike hK⟩, hS.F ht⟩) hS.2.2 dX11_hang_14
theorem dX11_lovers_0 : decode cX11_lovers 0 = .ok (.iload_n 1, 1) := by decide +kernel
theorem dX11_lovers_1 : decode cX11_lovers 1 = .ok (.invokestatic 106, 3) := by decide +kernel
theorem dX11_lovers_4 : decode cX11_lovers 4 = .ok (.ifCond .eq 25, 3) := by decide +kernel
theorem dX11_lovers_7 : decode cX11_lovers 7 = .ok (.iload_n 2, 1) := by decide +kernel
theorem dX11_lovers_8 : decode cX11_lovers 8 = .ok (.invokestatic 106, 3) := by decide +kernel
theorem dX11_lovers_11 : decode cX11_lovers 11 = .ok (.ifCond .eq 18, 3) := by decide +kernel
theorem dX11_lovers_14 : decode cX11_lovers 14 = .ok (.iload_n 3, 1) := by decide +kernel
theorem dX11_lovers_15 : decode cX11_lovers 15 = .ok (.invokestatic 226, 3) := by decide +kernel
theorem dX11_lovers_18 : decode cX11_lovers 18 = .ok (.ifCond .eq 11, 3) := by decide +kernel
theorem dX11_lovers_21 : decode cX11_lovers 21 = .ok (.iload 4, 2) := by decide +kernel
theorem dX11_lovers_23 : decode cX11_lovers 23 = .ok (.invokestatic 138, 3) := by decide +kernel
theorem dX11_lovers_26 : decode cX11_lovers 26 = .ok (.ifCond .ne 5, 3) := by decide +kernel
theorem dX11_lovers_29 : decode cX11_lovers 29 = .ok (.iconst (-1), 1) := by decide +kernel
theorem dX11_lovers_30 : decode cX11_lovers 30 = .ok (.ireturn, 1) := by decide +kernel
theorem dX11_lovers_31 : decode cX11_lovers 31 = .ok (.iload_n 1, 1) := by decide +kernel
theorem dX11_lovers_32 : decode cX11_lovers 32 = .ok (.iload_n 2, 1) := by decide +kernel
theorem dX11_lovers_33 : decode cX11_lovers 33 = .ok (.if_icmp .ne 7, 3) := by decide +kernel
theorem dX11_lovers_36 : decode cX11_lovers 36 = .ok (.iload_n 3, 1) := by decide +kernel
theorem dX11_lovers_37 : decode cX11_lovers 37 = .ok (.goto 15, 3) := by decide +kernel
theorem dX11_lovers_40 : decode cX11_lovers 40 = .ok (.aload_n 0, 1) := by decide +kernel
theorem dX11_lovers_41 : decode cX11_lovers 41 = .ok (.getfield 78, 3) := by decide +kernel
theorem dX11_lovers_44 : decode cX11_lovers 44 = .ok (.iload_n 1, 1) := by decide +kernel
theorem dX11_lovers_45 : decode cX11_lovers 45 = .ok (.iload_n 2, 1) := by decide +kernel
theorem dX11_lovers_46 : decode cX11_lovers 46 = .ok (.iload_n 3, 1) := by decide +kernel
theorem dX11_lovers_47 : decode cX11_lovers 47 = .ok (.iload 4, 2) := by decide +kernel
theorem dX11_lovers_49 : decode cX11_lovers 49 = .ok (.invokevirtual 313, 3) := by decide +kernel
theorem dX11_lovers_52 : decode cX11_lovers 52 = .ok (.ireturn, 1) := by decide +kernel
set_option maxHeartbeats 4000000 in
set_option maxRecDepth 100000 in
theorem c_X11_lovers (l : Launch) (E : Nat → ClassId) (D : va_G) (G : th_G) (h0 n : Nat) (hG0 : G h0 = some (15, n)) (x1 x2 x3 x4 : Int32) : Met l yX11_lovers (tb (.code yX11_lovers cX11_lovers 5 (some .int))) (rm 8) (va_Pc [.ref h0, .int x1, .int x2, .int x3, .int x4] (th_P E D G)) (QI E D G (fun r => True)) 0 0 (th_A G) := by
  refine Met.ofW (cc := cX11_lovers) (maxL := 5) (ret := (some .int)) (by decide) rfl ?_
  intro p e s m args below meth c s₁ B hml hv
  obtain ⟨hav, hI, hN, hK⟩ := hv
  have hx := B.exec
  have hb := B.bytes
  have hr := B.returns
  have hts := atoms_spec (ws := tb (.code yX11_lovers cX11_lovers 5 (some .int))) B.pre
  have hown : s.vm.findClass RX11 = some m.cls := findClass_of_methodNamed B.named
  have hlocks := B.notSynchronized
  have hS : va_S (th_A G) s.heap s.heap [] := va_S.rf
  have hl := lv_entry ([.ref h0, .int x1, .int x2, .int x3, .int x4]) (n := 5) (Nat.le_of_ble_eq_true rfl)
  rw [show entryFrame m args 5 = entryFrame m ([.ref h0, .int x1, .int x2, .int x3, .int x4] : List Value).toArray 5 from by rw [hav], lg_entry_eq]
  generalize (lg_sl ([.ref h0, .int x1, .int x2, .int x3, .int x4]) ++ List.replicate (5 - (lg_sl ([.ref h0, .int x1, .int x2, .int x3, .int x4])).length) Slot.unset).toArray = ls at hl ⊢
  have hl : lv_has ls 5 [(0, .ref h0), (1, .int x1), (2, .int x2), (3, .int x3), (4, .int x4)] := hl
  generalize hR : (headSpec (tb (.code yX11_lovers cX11_lovers 5 (some .int))) (rm 8)).room = R
  have hR := hR.symm
  generalize hQ : MQ below (QI E D G (fun r => True)) args s 0 0 (th_A G) = QF
  have hQ := hQ.symm
  have J_29 : ∀ (H : Heap) (locs : List Loc) (ls : Array Slot) , lv_has ls 5 [(0, .ref h0), (1, .int x1), (2, .int x2), (3, .int x3), (4, .int x4)] → th_I (okC E) D G [] H → va_S (th_A G) s.heap H locs → W p l e R s m args below meth c H locs 0 0 QF (F0 m 29 ls []) := by
    intro H locs ls  hl  hI hS
    refine lv_iconst (v := (-1)) hx hb dX11_lovers_29 (by decide) ?_
    have hpost : True := trivial
    rw [hQ]
    exact W.iret (v := (-1)) hx hb hr (fun t ht hW => ⟨⟨(-1), (), rfl, hpost, by rw [ht]; exact hI, hN.warm hW, va_K.moved hW.alike hK⟩, hS.F ht⟩) hS.2.2 dX11_lovers_30
  refine lv_iload_n hx hb dX11_lovers_0 rfl (lv_at hl 1 rfl) ?_
  refine th_cSs (As := [.int x1]) (rest := []) (n := 1) (d := 0) ⟨hx, hb, hml, hown, hts⟩ (c_X11_isCell l s.heap x1) wd_401 wd_402 wd_1 wd_403 (by decide +kernel) ⟨by rw [hR]; exact Nat.le_of_ble_eq_true rfl, by rw [hR]; exact Nat.le_of_ble_eq_true rfl⟩ hN hS rfl hl.1 rfl (Nat.le_of_ble_eq_true rfl) dX11_lovers_1 ⟨Nat.zero_le _, Nat.zero_le _⟩ (fun r377 locs hp hS => ?_)
  rcases hp with ⟨rfl, hp⟩ | ⟨rfl, hp⟩
  · skip
    try simp only [rg, not_and, Int.not_le] at hp
    have hp378 := hp
    refine lv_if_eq (tgt := 29) hx hb dX11_lovers_4 (by decide) (fun c => absurd c (by decide)) (fun _ => ?_)
    refine lv_iload_n hx hb dX11_lovers_7 rfl (lv_at hl 2 rfl) ?_
    refine th_cSs (As := [.int x2]) (rest := []) (n := 1) (d := 0) ⟨hx, hb, hml, hown, hts⟩ (c_X11_isCell l s.heap x2) wd_401 wd_402 wd_1 wd_403 (by decide +kernel) ⟨by rw [hR]; exact Nat.le_of_ble_eq_true rfl, by rw [hR]; exact Nat.le_of_ble_eq_true rfl⟩ hN hS rfl hl.1 rfl (Nat.le_of_ble_eq_true rfl) dX11_lovers_8 ⟨Nat.zero_le _, Nat.zero_le _⟩ (fun r379 locs hp hS => ?_)
    rcases hp with ⟨rfl, hp⟩ | ⟨rfl, hp⟩
    · skip
      try simp only [rg, not_and, Int.not_le] at hp
      have hp380 := hp
      refine lv_if_eq (tgt := 29) hx hb dX11_lovers_11 (by decide) (fun c => absurd c (by decide)) (fun _ => ?_)
      refine lv_iload_n hx hb dX11_lovers_14 rfl (lv_at hl 3 rfl) ?_
      refine th_cSs (As := [.int x3]) (rest := []) (n := 1) (d := 0) ⟨hx, hb, hml, hown, hts⟩ (c_X11_isMoment l s.heap x3) wd_826 wd_827 wd_1 wd_828 (by decide +kernel) ⟨by rw [hR]; exact Nat.le_of_ble_eq_true rfl, by rw [hR]; exact Nat.le_of_ble_eq_true rfl⟩ hN hS rfl hl.1 rfl (Nat.le_of_ble_eq_true rfl) dX11_lovers_15 ⟨Nat.zero_le _, Nat.zero_le _⟩ (fun r381 locs hp hS => ?_)
      rcases hp with ⟨rfl, hp⟩ | ⟨rfl, hp⟩
      · skip
        try simp only [rg, not_and, Int.not_le] at hp
        have hp382 := hp
        refine lv_if_eq (tgt := 29) hx hb dX11_lovers_18 (by decide) (fun c => absurd c (by decide)) (fun _ => ?_)
        refine lv_iload hx hb dX11_lovers_21 (lv_at hl 4 rfl) ?_
        refine th_cSs (As := [.int x4]) (rest := []) (n := 1) (d := 0) ⟨hx, hb, hml, hown, hts⟩ (c_X11_isFlag l s.heap x4) wd_469 wd_470 wd_1 wd_471 (by decide +kernel) ⟨by rw [hR]; exact Nat.le_of_ble_eq_true rfl, by rw [hR]; exact Nat.le_of_ble_eq_true rfl⟩ hN hS rfl hl.1 rfl (Nat.le_of_ble_eq_true rfl) dX11_lovers_23 ⟨Nat.zero_le _, Nat.zero_le _⟩ (fun r383 locs hp hS => ?_)
        rcases hp with ⟨rfl, hp⟩ | ⟨rfl, hp⟩
        · skip
          try simp only [rg, not_and, Int.not_le] at hp
          have hp384 := hp
          refine lv_if_ne (tgt := 31) hx hb dX11_lovers_26 (by decide) (fun _ => ?_) (fun c => absurd c (by decide))
          refine lv_iload_n hx hb dX11_lovers_31 rfl (lv_at hl 1 rfl) ?_
          refine lv_iload_n hx hb dX11_lovers_32 rfl (lv_at hl 2 rfl) ?_
          refine lv_icmp_ne (tgt := 40) hx hb dX11_lovers_33 (by decide) (fun c385 => ?_) (fun c385 => ?_)
          · skip
            have k386 := iv_ne (X := x1.toInt) (Y := x2.toInt) rfl rfl c385
            refine lv_aload_n hx hb dX11_lovers_40 rfl (lv_at hl 0 rfl) ?_
            obtain ⟨a387, a391, a393, a395, a397, a399, a401, a403, a405, a407, a409, w411, w414, w415, w416, w417, hO, hq388, ⟨m390, hq389⟩, hq392, hq394, hq396, hq398, hq400, hq402, hq404, hq406, hq408, hq410, ⟨k412, k413⟩⟩ := op_15 hI hG0 List.not_mem_nil
            have hI := th_I.weak (a := h0) hI
            refine th_get hx hb hts inT11 hown hK hO rfl 10 (by decide) (hts _ (tb_c wd_355)) rfl rfl dX11_lovers_41 ?_
            refine lv_iload_n hx hb dX11_lovers_44 rfl (lv_at hl 1 rfl) ?_
            refine lv_iload_n hx hb dX11_lovers_45 rfl (lv_at hl 2 rfl) ?_
            refine lv_iload_n hx hb dX11_lovers_46 rfl (lv_at hl 3 rfl) ?_
            refine lv_iload hx hb dX11_lovers_47 (lv_at hl 4 rfl) ?_
            have hI := th_I.close hI hG0 hO (ok_15 hq388 ⟨_, hq389⟩ hq392 hq394 hq396 hq398 hq400 hq402 hq404 hq406 hq408 hq410 ⟨by omega, by omega⟩)
            refine th_cVi (As := [.int x1, .int x2, .int x3, .int x4]) (rest := []) (n := 4) (d := 7) ⟨hx, hb, hml, hown, hts⟩ (c_X8_answer l E D G a407 hq408 x1 x2 x3 x4 ⟨by omega, by omega⟩ ⟨by omega, by omega⟩) wd_1084 wd_1085 wd_1086 wd_11 wd_1087 (by decide +kernel) ⟨by rw [hR]; exact Nat.le_of_ble_eq_true rfl, by rw [hR]; exact Nat.le_of_ble_eq_true rfl⟩ hI hN hK hS (rc_13 hI hq408 List.not_mem_nil) rfl rfl hl.1 rfl (Nat.le_of_ble_eq_true rfl) dX11_lovers_49 ⟨Nat.zero_le _, Nat.zero_le _⟩ (fun r418 H locs hp hI hS => ?_)
            have hpost : True := trivial
            rw [hQ]
            exact W.iret (v := r418) hx hb hr (fun t ht hW => ⟨⟨r418, (), rfl, hpost, by rw [ht]; exact hI, hN.warm hW, va_K.moved hW.alike hK⟩, hS.F ht⟩) hS.2.2 dX11_lovers_52
          · skip
            have k419 := iv_eq (X := x1.toInt) (Y := x2.toInt) rfl rfl c385
            refine lv_iload_n hx hb dX11_lovers_36 rfl (lv_at hl 3 rfl) ?_
            refine lv_goto (tgt := 52) hx hb dX11_lovers_37 (by decide) ?_
            have hpost : True := trivial
            rw [hQ]
            exact W.iret (v := x3) hx hb hr (fun t ht hW => ⟨⟨x3, (), rfl, hpost, by rw [ht]; exact hI, hN.warm hW, va_K.moved hW.alike hK⟩, hS.F ht⟩) hS.2.2 dX11_lovers_52
        · skip
          try simp only [rg, not_and, Int.not_le] at hp
          have hp420 := hp
          refine lv_if_ne (tgt := 31) hx hb dX11_lovers_26 (by decide) (fun c => absurd c (by decide)) (fun _ => ?_)
          exact J_29 s.heap locs ls  (lv_sub hl [0, 1, 2, 3, 4] rfl)  hI hS
      · skip
        try simp only [rg, not_and, Int.not_le] at hp
        have hp421 := hp
        refine lv_if_eq (tgt := 29) hx hb dX11_lovers_18 (by decide) (fun _ => ?_) (fun c => absurd c (by decide))
        exact J_29 s.heap locs ls  (lv_sub hl [0, 1, 2, 3, 4] rfl)  hI hS
    · skip
      try simp only [rg, not_and, Int.not_le] at hp
      have hp422 := hp
      refine lv_if_eq (tgt := 29) hx hb dX11_lovers_11 (by decide) (fun _ => ?_) (fun c => absurd c (by decide))
      exact J_29 s.heap locs ls  (lv_sub hl [0, 1, 2, 3, 4] rfl)  hI hS
  · skip
    try simp only [rg, not_and, Int.not_le] at hp
    have hp423 := hp
    refine lv_if_eq (tgt := 29) hx hb dX11_lovers_4 (by decide) (fun _ => ?_) (fun c => absurd c (by decide))
    exact J_29 s.heap locs ls  (lv_sub hl [0, 1, 2, 3, 4] rfl)  hI hS
theorem dX11_duck_0 : decode cX11_duck 0 = .ok (.iload_n 1, 1) := by decide +kernel
theorem dX11_duck_1 : decode cX11_duck 1 = .ok (.invokestatic 106, 3) := by decide +kernel
theorem dX11_duck_4 : decode cX11_duck 4 = .ok (.ifCond .eq 32, 3) := by decide +kernel
theorem dX11_duck_7 : decode cX11_duck 7 = .ok (.iload_n 2, 1) := by decide +kernel
theorem dX11_duck_8 : decode cX11_duck 8 = .ok (.ifCond .lt 28, 3) := by decide +kernel
theorem dX11_duck_11 : decode cX11_duck 11 = .ok (.iload_n 2, 1) := by decide +kernel
theorem dX11_duck_12 : decode cX11_duck 12 = .ok (.iconst 4, 1) := by decide +kernel
theorem dX11_duck_13 : decode cX11_duck 13 = .ok (.if_icmp .ge 23, 3) := by decide +kernel
theorem dX11_duck_16 : decode cX11_duck 16 = .ok (.iload_n 3, 1) := by decide +kernel
theorem dX11_duck_17 : decode cX11_duck 17 = .ok (.invokestatic 138, 3) := by decide +kernel
theorem dX11_duck_20 : decode cX11_duck 20 = .ok (.ifCond .eq 16, 3) := by decide +kernel
theorem dX11_duck_23 : decode cX11_duck 23 = .ok (.aload_n 0, 1) := by decide +kernel
theorem dX11_duck_24 : decode cX11_duck 24 = .ok (.getfield 51, 3) := by decide +kernel
theorem dX11_duck_27 : decode cX11_duck 27 = .ok (.iload_n 1, 1) := by decide +kernel
theorem dX11_duck_28 : decode cX11_duck 28 = .ok (.iload_n 2, 1) := by decide +kernel
theorem dX11_duck_29 : decode cX11_duck 29 = .ok (.iload_n 3, 1) := by decide +kernel
theorem dX11_duck_30 : decode cX11_duck 30 = .ok (.invokevirtual 316, 3) := by decide +kernel
theorem dX11_duck_33 : decode cX11_duck 33 = .ok (.goto 4, 3) := by decide +kernel
theorem dX11_duck_36 : decode cX11_duck 36 = .ok (.iconst (-1), 1) := by decide +kernel
theorem dX11_duck_37 : decode cX11_duck 37 = .ok (.ireturn, 1) := by decide +kernel
set_option maxHeartbeats 4000000 in
set_option maxRecDepth 100000 in
theorem c_X11_duck (l : Launch) (E : Nat → ClassId) (D : va_G) (G : th_G) (h0 n : Nat) (hG0 : G h0 = some (15, n)) (x1 x2 x3 : Int32) : Met l yX11_duck (tb (.code yX11_duck cX11_duck 4 (some .int))) (rm 7) (va_Pc [.ref h0, .int x1, .int x2, .int x3] (th_P E D G)) (QI E D G (fun r => True)) 0 0 (th_A G) := by
  refine Met.ofW (cc := cX11_duck) (maxL := 4) (ret := (some .int)) (by decide) rfl ?_
  intro p e s m args below meth c s₁ B hml hv
  obtain ⟨hav, hI, hN, hK⟩ := hv
  have hx := B.exec
  have hb := B.bytes
  have hr := B.returns
  have hts := atoms_spec (ws := tb (.code yX11_duck cX11_duck 4 (some .int))) B.pre
  have hown : s.vm.findClass RX11 = some m.cls := findClass_of_methodNamed B.named
  have hlocks := B.notSynchronized
  have hS : va_S (th_A G) s.heap s.heap [] := va_S.rf
  have hl := lv_entry ([.ref h0, .int x1, .int x2, .int x3]) (n := 4) (Nat.le_of_ble_eq_true rfl)
  rw [show entryFrame m args 4 = entryFrame m ([.ref h0, .int x1, .int x2, .int x3] : List Value).toArray 4 from by rw [hav], lg_entry_eq]
  generalize (lg_sl ([.ref h0, .int x1, .int x2, .int x3]) ++ List.replicate (4 - (lg_sl ([.ref h0, .int x1, .int x2, .int x3])).length) Slot.unset).toArray = ls at hl ⊢
  have hl : lv_has ls 4 [(0, .ref h0), (1, .int x1), (2, .int x2), (3, .int x3)] := hl
  generalize hR : (headSpec (tb (.code yX11_duck cX11_duck 4 (some .int))) (rm 7)).room = R
  have hR := hR.symm
  generalize hQ : MQ below (QI E D G (fun r => True)) args s 0 0 (th_A G) = QF
  have hQ := hQ.symm
  refine lv_iload_n hx hb dX11_duck_0 rfl (lv_at hl 1 rfl) ?_
  refine th_cSs (As := [.int x1]) (rest := []) (n := 1) (d := 0) ⟨hx, hb, hml, hown, hts⟩ (c_X11_isCell l s.heap x1) wd_401 wd_402 wd_1 wd_403 (by decide +kernel) ⟨by rw [hR]; exact Nat.le_of_ble_eq_true rfl, by rw [hR]; exact Nat.le_of_ble_eq_true rfl⟩ hN hS rfl hl.1 rfl (Nat.le_of_ble_eq_true rfl) dX11_duck_1 ⟨Nat.zero_le _, Nat.zero_le _⟩ (fun r1 locs hp hS => ?_)
  rcases hp with ⟨rfl, hp⟩ | ⟨rfl, hp⟩
  · skip
    try simp only [rg, not_and, Int.not_le] at hp
    have hp2 := hp
    refine lv_if_eq (tgt := 36) hx hb dX11_duck_4 (by decide) (fun c => absurd c (by decide)) (fun _ => ?_)
    refine lv_iload_n hx hb dX11_duck_7 rfl (lv_at hl 2 rfl) ?_
    have k3 := iv_lo x2
    have k4 := iv_hi x2
    refine lv_if_lt (tgt := 36) hx hb dX11_duck_8 (by decide) (fun c5 => ?_) (fun c5 => ?_)
    · skip
      have k6 := iv_lt (X := x2.toInt) (Y := (0)) rfl (by decide) c5
      refine lv_iconst (v := (-1)) hx hb dX11_duck_36 (by decide) ?_
      have hpost : True := trivial
      rw [hQ]
      exact W.iret (v := (-1)) hx hb hr (fun t ht hW => ⟨⟨(-1), (), rfl, hpost, by rw [ht]; exact hI, hN.warm hW, va_K.moved hW.alike hK⟩, hS.F ht⟩) hS.2.2 dX11_duck_37
    · skip
      have k7 := iv_nlt (X := x2.toInt) (Y := (0)) rfl (by decide) c5
      refine lv_iload_n hx hb dX11_duck_11 rfl (lv_at hl 2 rfl) ?_
      refine lv_iconst (v := 4) hx hb dX11_duck_12 (by decide) ?_
      refine lv_icmp_ge (tgt := 36) hx hb dX11_duck_13 (by decide) (fun c8 => ?_) (fun c8 => ?_)
      · skip
        have k9 := iv_le (X := (4)) (Y := x2.toInt) (by decide) rfl c8
        refine lv_iconst (v := (-1)) hx hb dX11_duck_36 (by decide) ?_
        have hpost : True := trivial
        rw [hQ]
        exact W.iret (v := (-1)) hx hb hr (fun t ht hW => ⟨⟨(-1), (), rfl, hpost, by rw [ht]; exact hI, hN.warm hW, va_K.moved hW.alike hK⟩, hS.F ht⟩) hS.2.2 dX11_duck_37
      · skip
        have k10 := iv_nle (X := (4)) (Y := x2.toInt) (by decide) rfl c8
        refine lv_iload_n hx hb dX11_duck_16 rfl (lv_at hl 3 rfl) ?_
        refine th_cSs (As := [.int x3]) (rest := []) (n := 1) (d := 0) ⟨hx, hb, hml, hown, hts⟩ (c_X11_isFlag l s.heap x3) wd_469 wd_470 wd_1 wd_471 (by decide +kernel) ⟨by rw [hR]; exact Nat.le_of_ble_eq_true rfl, by rw [hR]; exact Nat.le_of_ble_eq_true rfl⟩ hN hS rfl hl.1 rfl (Nat.le_of_ble_eq_true rfl) dX11_duck_17 ⟨Nat.zero_le _, Nat.zero_le _⟩ (fun r11 locs hp hS => ?_)
        rcases hp with ⟨rfl, hp⟩ | ⟨rfl, hp⟩
        · skip
          try simp only [rg, not_and, Int.not_le] at hp
          have hp12 := hp
          refine lv_if_eq (tgt := 36) hx hb dX11_duck_20 (by decide) (fun c => absurd c (by decide)) (fun _ => ?_)
          refine lv_aload_n hx hb dX11_duck_23 rfl (lv_at hl 0 rfl) ?_
          obtain ⟨a13, a17, a19, a21, a23, a25, a27, a29, a31, a33, a35, w37, w40, w41, w42, w43, hO, hq14, ⟨m16, hq15⟩, hq18, hq20, hq22, hq24, hq26, hq28, hq30, hq32, hq34, hq36, ⟨k38, k39⟩⟩ := op_15 hI hG0 List.not_mem_nil
          have hI := th_I.weak (a := h0) hI
          refine th_get hx hb hts inT11 hown hK hO rfl 7 (by decide) (hts _ (tb_c wd_352)) rfl rfl dX11_duck_24 ?_
          refine lv_iload_n hx hb dX11_duck_27 rfl (lv_at hl 1 rfl) ?_
          refine lv_iload_n hx hb dX11_duck_28 rfl (lv_at hl 2 rfl) ?_
          refine lv_iload_n hx hb dX11_duck_29 rfl (lv_at hl 3 rfl) ?_
          have hI := th_I.close hI hG0 hO (ok_15 hq14 ⟨_, hq15⟩ hq18 hq20 hq22 hq24 hq26 hq28 hq30 hq32 hq34 hq36 ⟨by omega, by omega⟩)
          refine th_cVi (As := [.int x1, .int x2, .int x3]) (rest := []) (n := 3) (d := 6) ⟨hx, hb, hml, hown, hts⟩ (c_X9_paddle l E D G a27 hq28 x1 x2 x3) wd_1098 wd_1099 wd_1100 wd_8 wd_1101 (by decide +kernel) ⟨by rw [hR]; exact Nat.le_of_ble_eq_true rfl, by rw [hR]; exact Nat.le_of_ble_eq_true rfl⟩ hI hN hK hS (rc_10 hI hq28 List.not_mem_nil) rfl rfl hl.1 rfl (Nat.le_of_ble_eq_true rfl) dX11_duck_30 ⟨Nat.zero_le _, Nat.zero_le _⟩ (fun r44 H locs hp hI hS => ?_)
          refine lv_goto (tgt := 37) hx hb dX11_duck_33 (by decide) ?_
          have hpost : True := trivial
          rw [hQ]
          exact W.iret (v := r44) hx hb hr (fun t ht hW => ⟨⟨r44, (), rfl, hpost, by rw [ht]; exact hI, hN.warm hW, va_K.moved hW.alike hK⟩, hS.F ht⟩) hS.2.2 dX11_duck_37
        · skip
          try simp only [rg, not_and, Int.not_le] at hp
          have hp45 := hp
          refine lv_if_eq (tgt := 36) hx hb dX11_duck_20 (by decide) (fun _ => ?_) (fun c => absurd c (by decide))
          refine lv_iconst (v := (-1)) hx hb dX11_duck_36 (by decide) ?_
          have hpost : True := trivial
          rw [hQ]
          exact W.iret (v := (-1)) hx hb hr (fun t ht hW => ⟨⟨(-1), (), rfl, hpost, by rw [ht]; exact hI, hN.warm hW, va_K.moved hW.alike hK⟩, hS.F ht⟩) hS.2.2 dX11_duck_37
  · skip
    try simp only [rg, not_and, Int.not_le] at hp
    have hp46 := hp
    refine lv_if_eq (tgt := 36) hx hb dX11_duck_4 (by decide) (fun _ => ?_) (fun c => absurd c (by decide))
    refine lv_iconst (v := (-1)) hx hb dX11_duck_36 (by decide) ?_
    have hpost : True := trivial
    rw [hQ]
    exact W.iret (v := (-1)) hx hb hr (fun t ht hW => ⟨⟨(-1), (), rfl, hpost, by rw [ht]; exact hI, hN.warm hW, va_K.moved hW.alike hK⟩, hS.F ht⟩) hS.2.2 dX11_duck_37
theorem dX11_matters_0 : decode cX11_matters 0 = .ok (.iload_n 1, 1) := by decide +kernel
theorem dX11_matters_1 : decode cX11_matters 1 = .ok (.invokestatic 106, 3) := by decide +kernel
theorem dX11_matters_4 : decode cX11_matters 4 = .ok (.ifCond .eq 17, 3) := by decide +kernel
theorem dX11_matters_7 : decode cX11_matters 7 = .ok (.iload_n 2, 1) := by decide +kernel
theorem dX11_matters_8 : decode cX11_matters 8 = .ok (.iload_n 3, 1) := by decide +kernel
theorem dX11_matters_9 : decode cX11_matters 9 = .ok (.invokestatic 134, 3) := by decide +kernel
theorem dX11_matters_12 : decode cX11_matters 12 = .ok (.ifCond .eq 9, 3) := by decide +kernel
theorem dX11_matters_15 : decode cX11_matters 15 = .ok (.iload 4, 2) := by decide +kernel
theorem dX11_matters_17 : decode cX11_matters 17 = .ok (.iconst (-1), 1) := by decide +kernel
theorem dX11_matters_18 : decode cX11_matters 18 = .ok (.if_icmp .ge 5, 3) := by decide +kernel
theorem dX11_matters_21 : decode cX11_matters 21 = .ok (.iconst (-1), 1) := by decide +kernel
theorem dX11_matters_22 : decode cX11_matters 22 = .ok (.ireturn, 1) := by decide +kernel
theorem dX11_matters_23 : decode cX11_matters 23 = .ok (.aload_n 0, 1) := by decide +kernel
theorem dX11_matters_24 : decode cX11_matters 24 = .ok (.getfield 51, 3) := by decide +kernel
theorem dX11_matters_27 : decode cX11_matters 27 = .ok (.iload_n 1, 1) := by decide +kernel
theorem dX11_matters_28 : decode cX11_matters 28 = .ok (.iload_n 2, 1) := by decide +kernel
theorem dX11_matters_29 : decode cX11_matters 29 = .ok (.iload_n 3, 1) := by decide +kernel
theorem dX11_matters_30 : decode cX11_matters 30 = .ok (.iload 4, 2) := by decide +kernel
theorem dX11_matters_32 : decode cX11_matters 32 = .ok (.invokevirtual 319, 3) := by decide +kernel
theorem dX11_matters_35 : decode cX11_matters 35 = .ok (.ireturn, 1) := by decide +kernel
set_option maxHeartbeats 4000000 in
set_option maxRecDepth 100000 in
theorem c_X11_matters (l : Launch) (E : Nat → ClassId) (D : va_G) (G : th_G) (h0 n : Nat) (hG0 : G h0 = some (15, n)) (x1 x2 x3 x4 : Int32) : Met l yX11_matters (tb (.code yX11_matters cX11_matters 5 (some .int))) (rm 7) (va_Pc [.ref h0, .int x1, .int x2, .int x3, .int x4] (th_P E D G)) (QI E D G (fun r => True)) 0 0 (th_A G) := by
  refine Met.ofW (cc := cX11_matters) (maxL := 5) (ret := (some .int)) (by decide) rfl ?_
  intro p e s m args below meth c s₁ B hml hv
  obtain ⟨hav, hI, hN, hK⟩ := hv
  have hx := B.exec
  have hb := B.bytes
  have hr := B.returns
  have hts := atoms_spec (ws := tb (.code yX11_matters cX11_matters 5 (some .int))) B.pre
  have hown : s.vm.findClass RX11 = some m.cls := findClass_of_methodNamed B.named
  have hlocks := B.notSynchronized
  have hS : va_S (th_A G) s.heap s.heap [] := va_S.rf
  have hl := lv_entry ([.ref h0, .int x1, .int x2, .int x3, .int x4]) (n := 5) (Nat.le_of_ble_eq_true rfl)
  rw [show entryFrame m args 5 = entryFrame m ([.ref h0, .int x1, .int x2, .int x3, .int x4] : List Value).toArray 5 from by rw [hav], lg_entry_eq]
  generalize (lg_sl ([.ref h0, .int x1, .int x2, .int x3, .int x4]) ++ List.replicate (5 - (lg_sl ([.ref h0, .int x1, .int x2, .int x3, .int x4])).length) Slot.unset).toArray = ls at hl ⊢
  have hl : lv_has ls 5 [(0, .ref h0), (1, .int x1), (2, .int x2), (3, .int x3), (4, .int x4)] := hl
  generalize hR : (headSpec (tb (.code yX11_matters cX11_matters 5 (some .int))) (rm 7)).room = R
  have hR := hR.symm
  generalize hQ : MQ below (QI E D G (fun r => True)) args s 0 0 (th_A G) = QF
  have hQ := hQ.symm
  have J_21 : ∀ (H : Heap) (locs : List Loc) (ls : Array Slot) , lv_has ls 5 [(0, .ref h0), (1, .int x1), (2, .int x2), (3, .int x3), (4, .int x4)] → th_I (okC E) D G [] H → va_S (th_A G) s.heap H locs → W p l e R s m args below meth c H locs 0 0 QF (F0 m 21 ls []) := by
    intro H locs ls  hl  hI hS
    refine lv_iconst (v := (-1)) hx hb dX11_matters_21 (by decide) ?_
    have hpost : True := trivial
    rw [hQ]
    exact W.iret (v := (-1)) hx hb hr (fun t ht hW => ⟨⟨(-1), (), rfl, hpost, by rw [ht]; exact hI, hN.warm hW, va_K.moved hW.alike hK⟩, hS.F ht⟩) hS.2.2 dX11_matters_22
  refine lv_iload_n hx hb dX11_matters_0 rfl (lv_at hl 1 rfl) ?_
  refine th_cSs (As := [.int x1]) (rest := []) (n := 1) (d := 0) ⟨hx, hb, hml, hown, hts⟩ (c_X11_isCell l s.heap x1) wd_401 wd_402 wd_1 wd_403 (by decide +kernel) ⟨by rw [hR]; exact Nat.le_of_ble_eq_true rfl, by rw [hR]; exact Nat.le_of_ble_eq_true rfl⟩ hN hS rfl hl.1 rfl (Nat.le_of_ble_eq_true rfl) dX11_matters_1 ⟨Nat.zero_le _, Nat.zero_le _⟩ (fun r345 locs hp hS => ?_)
  rcases hp with ⟨rfl, hp⟩ | ⟨rfl, hp⟩
  · skip
    try simp only [rg, not_and, Int.not_le] at hp
    have hp346 := hp
    refine lv_if_eq (tgt := 21) hx hb dX11_matters_4 (by decide) (fun c => absurd c (by decide)) (fun _ => ?_)
    refine lv_iload_n hx hb dX11_matters_7 rfl (lv_at hl 2 rfl) ?_
    refine lv_iload_n hx hb dX11_matters_8 rfl (lv_at hl 3 rfl) ?_
    refine th_cSs (As := [.int x2, .int x3]) (rest := []) (n := 2) (d := 1) ⟨hx, hb, hml, hown, hts⟩ (c_X11_isSpan l s.heap x2 x3) wd_463 wd_464 wd_1 wd_465 (by decide +kernel) ⟨by rw [hR]; exact Nat.le_of_ble_eq_true rfl, by rw [hR]; exact Nat.le_of_ble_eq_true rfl⟩ hN hS rfl hl.1 rfl (Nat.le_of_ble_eq_true rfl) dX11_matters_9 ⟨Nat.zero_le _, Nat.zero_le _⟩ (fun r347 locs hp hS => ?_)
    rcases hp with ⟨rfl, hp⟩ | ⟨rfl, hp⟩
    · skip
      try simp only [rg, not_and, Int.not_le] at hp
      have hp348 := hp
      refine lv_if_eq (tgt := 21) hx hb dX11_matters_12 (by decide) (fun c => absurd c (by decide)) (fun _ => ?_)
      refine lv_iload hx hb dX11_matters_15 (lv_at hl 4 rfl) ?_
      refine lv_iconst (v := (-1)) hx hb dX11_matters_17 (by decide) ?_
      have k349 := iv_lo x4
      have k350 := iv_hi x4
      refine lv_icmp_ge (tgt := 23) hx hb dX11_matters_18 (by decide) (fun c351 => ?_) (fun c351 => ?_)
      · skip
        have k352 := iv_le (X := (-1)) (Y := x4.toInt) (by decide) rfl c351
        refine lv_aload_n hx hb dX11_matters_23 rfl (lv_at hl 0 rfl) ?_
        obtain ⟨a353, a357, a359, a361, a363, a365, a367, a369, a371, a373, a375, w377, w380, w381, w382, w383, hO, hq354, ⟨m356, hq355⟩, hq358, hq360, hq362, hq364, hq366, hq368, hq370, hq372, hq374, hq376, ⟨k378, k379⟩⟩ := op_15 hI hG0 List.not_mem_nil
        have hI := th_I.weak (a := h0) hI
        refine th_get hx hb hts inT11 hown hK hO rfl 7 (by decide) (hts _ (tb_c wd_352)) rfl rfl dX11_matters_24 ?_
        refine lv_iload_n hx hb dX11_matters_27 rfl (lv_at hl 1 rfl) ?_
        refine lv_iload_n hx hb dX11_matters_28 rfl (lv_at hl 2 rfl) ?_
        refine lv_iload_n hx hb dX11_matters_29 rfl (lv_at hl 3 rfl) ?_
        refine lv_iload hx hb dX11_matters_30 (lv_at hl 4 rfl) ?_
        have hI := th_I.close hI hG0 hO (ok_15 hq354 ⟨_, hq355⟩ hq358 hq360 hq362 hq364 hq366 hq368 hq370 hq372 hq374 hq376 ⟨by omega, by omega⟩)
        refine th_cVi (As := [.int x1, .int x2, .int x3, .int x4]) (rest := []) (n := 4) (d := 6) ⟨hx, hb, hml, hown, hts⟩ (c_X9_turningHours l E D G a367 hq368 x1 x2 x3 x4) wd_1109 wd_1110 wd_1111 wd_8 wd_1112 (by decide +kernel) ⟨by rw [hR]; exact Nat.le_of_ble_eq_true rfl, by rw [hR]; exact Nat.le_of_ble_eq_true rfl⟩ hI hN hK hS (rc_10 hI hq368 List.not_mem_nil) rfl rfl hl.1 rfl (Nat.le_of_ble_eq_true rfl) dX11_matters_32 ⟨Nat.zero_le _, Nat.zero_le _⟩ (fun r384 H locs hp hI hS => ?_)
        have hpost : True := trivial
        rw [hQ]
        exact W.iret (v := r384) hx hb hr (fun t ht hW => ⟨⟨r384, (), rfl, hpost, by rw [ht]; exact hI, hN.warm hW, va_K.moved hW.alike hK⟩, hS.F ht⟩) hS.2.2 dX11_matters_35
      · skip
        have k385 := iv_nle (X := (-1)) (Y := x4.toInt) (by decide) rfl c351
        exact J_21 s.heap locs ls  (lv_sub hl [0, 1, 2, 3, 4] rfl)  hI hS
    · skip
      try simp only [rg, not_and, Int.not_le] at hp
      have hp386 := hp
      refine lv_if_eq (tgt := 21) hx hb dX11_matters_12 (by decide) (fun _ => ?_) (fun c => absurd c (by decide))
      exact J_21 s.heap locs ls  (lv_sub hl [0, 1, 2, 3, 4] rfl)  hI hS
  · skip
    try simp only [rg, not_and, Int.not_le] at hp
    have hp387 := hp
    refine lv_if_eq (tgt := 21) hx hb dX11_matters_4 (by decide) (fun _ => ?_) (fun c => absurd c (by decide))
    exact J_21 s.heap locs ls  (lv_sub hl [0, 1, 2, 3, 4] rfl)  hI hS
theorem dX11_wish_0 : decode cX11_wish 0 = .ok (.iload_n 1, 1) := by decide +kernel
theorem dX11_wish_1 : decode cX11_wish 1 = .ok (.invokestatic 106, 3) := by decide +kernel
theorem dX11_wish_4 : decode cX11_wish 4 = .ok (.ifCond .eq 19, 3) := by decide +kernel
theorem dX11_wish_7 : decode cX11_wish 7 = .ok (.iload_n 3, 1) := by decide +kernel
theorem dX11_wish_8 : decode cX11_wish 8 = .ok (.invokestatic 240, 3) := by decide +kernel
theorem dX11_wish_11 : decode cX11_wish 11 = .ok (.ifCond .eq 12, 3) := by decide +kernel
theorem dX11_wish_14 : decode cX11_wish 14 = .ok (.iload_n 2, 1) := by decide +kernel
theorem dX11_wish_15 : decode cX11_wish 15 = .ok (.iload 4, 2) := by decide +kernel
theorem dX11_wish_17 : decode cX11_wish 17 = .ok (.invokestatic 134, 3) := by decide +kernel
theorem dX11_wish_20 : decode cX11_wish 20 = .ok (.ifCond .ne 9, 3) := by decide +kernel
theorem dX11_wish_23 : decode cX11_wish 23 = .ok (.aload_n 0, 1) := by decide +kernel
theorem dX11_wish_24 : decode cX11_wish 24 = .ok (.iconst (-1), 1) := by decide +kernel
theorem dX11_wish_25 : decode cX11_wish 25 = .ok (.invokevirtual 113, 3) := by decide +kernel
theorem dX11_wish_28 : decode cX11_wish 28 = .ok (.ireturn, 1) := by decide +kernel
theorem dX11_wish_29 : decode cX11_wish 29 = .ok (.aload_n 0, 1) := by decide +kernel
theorem dX11_wish_30 : decode cX11_wish 30 = .ok (.getfield 12, 3) := by decide +kernel
theorem dX11_wish_33 : decode cX11_wish 33 = .ok (.getfield 322, 3) := by decide +kernel
theorem dX11_wish_36 : decode cX11_wish 36 = .ok (.invokevirtual 149, 3) := by decide +kernel
theorem dX11_wish_39 : decode cX11_wish 39 = .ok (.ifCond .eq 10, 3) := by decide +kernel
theorem dX11_wish_42 : decode cX11_wish 42 = .ok (.aload_n 0, 1) := by decide +kernel
theorem dX11_wish_43 : decode cX11_wish 43 = .ok (.bipush (-5), 2) := by decide +kernel
theorem dX11_wish_45 : decode cX11_wish 45 = .ok (.invokevirtual 113, 3) := by decide +kernel
theorem dX11_wish_48 : decode cX11_wish 48 = .ok (.ireturn, 1) := by decide +kernel
theorem dX11_wish_49 : decode cX11_wish 49 = .ok (.aload_n 0, 1) := by decide +kernel
theorem dX11_wish_50 : decode cX11_wish 50 = .ok (.getfield 12, 3) := by decide +kernel
theorem dX11_wish_53 : decode cX11_wish 53 = .ok (.getfield 322, 3) := by decide +kernel
theorem dX11_wish_56 : decode cX11_wish 56 = .ok (.iload_n 1, 1) := by decide +kernel
theorem dX11_wish_57 : decode cX11_wish 57 = .ok (.iload_n 2, 1) := by decide +kernel
theorem dX11_wish_58 : decode cX11_wish 58 = .ok (.iload_n 3, 1) := by decide +kernel
theorem dX11_wish_59 : decode cX11_wish 59 = .ok (.iload 4, 2) := by decide +kernel
theorem dX11_wish_61 : decode cX11_wish 61 = .ok (.invokevirtual 155, 3) := by decide +kernel
theorem dX11_wish_64 : decode cX11_wish 64 = .ok (.pop, 1) := by decide +kernel
theorem dX11_wish_65 : decode cX11_wish 65 = .ok (.aload_n 0, 1) := by decide +kernel
theorem dX11_wish_66 : decode cX11_wish 66 = .ok (.invokevirtual 191, 3) := by decide +kernel
theorem dX11_wish_69 : decode cX11_wish 69 = .ok (.aload_n 0, 1) := by decide +kernel
theorem dX11_wish_70 : decode cX11_wish 70 = .ok (.aload_n 0, 1) := by decide +kernel
theorem dX11_wish_71 : decode cX11_wish 71 = .ok (.getfield 12, 3) := by decide +kernel
theorem dX11_wish_74 : decode cX11_wish 74 = .ok (.getfield 322, 3) := by decide +kernel
theorem dX11_wish_77 : decode cX11_wish 77 = .ok (.invokevirtual 166, 3) := by decide +kernel
theorem dX11_wish_80 : decode cX11_wish 80 = .ok (.invokevirtual 127, 3) := by decide +kernel
theorem dX11_wish_83 : decode cX11_wish 83 = .ok (.ireturn, 1) := by decide +kernel
set_option maxHeartbeats 4000000 in
set_option maxRecDepth 100000 in
theorem c_X11_wish (l : Launch) (E : Nat → ClassId) (D : va_G) (G : th_G) (h0 n : Nat) (hG0 : G h0 = some (15, n)) (x1 x2 x3 x4 : Int32) : Met l yX11_wish (tb (.code yX11_wish cX11_wish 5 (some .int))) (rm 2) (va_Pc [.ref h0, .int x1, .int x2, .int x3, .int x4] (th_P E D G)) (QI E D G (fun r => True)) 0 0 (th_A G) := by
  refine Met.ofW (cc := cX11_wish) (maxL := 5) (ret := (some .int)) (by decide) rfl ?_
  intro p e s m args below meth c s₁ B hml hv
  obtain ⟨hav, hI, hN, hK⟩ := hv
  have hx := B.exec
  have hb := B.bytes
  have hr := B.returns
  have hts := atoms_spec (ws := tb (.code yX11_wish cX11_wish 5 (some .int))) B.pre
  have hown : s.vm.findClass RX11 = some m.cls := findClass_of_methodNamed B.named
  have hlocks := B.notSynchronized
  have hS : va_S (th_A G) s.heap s.heap [] := va_S.rf
  have hl := lv_entry ([.ref h0, .int x1, .int x2, .int x3, .int x4]) (n := 5) (Nat.le_of_ble_eq_true rfl)
  rw [show entryFrame m args 5 = entryFrame m ([.ref h0, .int x1, .int x2, .int x3, .int x4] : List Value).toArray 5 from by rw [hav], lg_entry_eq]
  generalize (lg_sl ([.ref h0, .int x1, .int x2, .int x3, .int x4]) ++ List.replicate (5 - (lg_sl ([.ref h0, .int x1, .int x2, .int x3, .int x4])).length) Slot.unset).toArray = ls at hl ⊢
  have hl : lv_has ls 5 [(0, .ref h0), (1, .int x1), (2, .int x2), (3, .int x3), (4, .int x4)] := hl
  generalize hR : (headSpec (tb (.code yX11_wish cX11_wish 5 (some .int))) (rm 2)).room = R
  have hR := hR.symm
  generalize hQ : MQ below (QI E D G (fun r => True)) args s 0 0 (th_A G) = QF
  have hQ := hQ.symm
  have J_23 : ∀ (H : Heap) (locs : List Loc) (ls : Array Slot) , lv_has ls 5 [(0, .ref h0), (1, .int x1), (2, .int x2), (3, .int x3), (4, .int x4)] → th_I (okC E) D G [] H → va_S (th_A G) s.heap H locs → W p l e R s m args below meth c H locs 0 0 QF (F0 m 23 ls []) := by
    intro H locs ls  hl  hI hS
    refine lv_aload_n hx hb dX11_wish_23 rfl (lv_at hl 0 rfl) ?_
    refine lv_iconst (v := (-1)) hx hb dX11_wish_24 (by decide) ?_
    refine th_cVi (As := [.int (-1)]) (rest := []) (n := 1) (d := 0) ⟨hx, hb, hml, hown, hts⟩ (c_X11_refuse l E D G h0 (n) hG0 (-1)) wd_407 wd_409 wp_0 wd_1 wd_410 (by decide +kernel) ⟨by rw [hR]; exact Nat.le_of_ble_eq_true rfl, by rw [hR]; exact Nat.le_of_ble_eq_true rfl⟩ hI hN hK hS (rc_15 hI hG0 List.not_mem_nil) rfl rfl hl.1 rfl (Nat.le_of_ble_eq_true rfl) dX11_wish_25 ⟨Nat.zero_le _, Nat.zero_le _⟩ (fun r1624 H locs hp hI hS => ?_)
    have hp := hp.symm
    subst hp
    have hpost : True := trivial
    rw [hQ]
    exact W.iret (v := (-1)) hx hb hr (fun t ht hW => ⟨⟨(-1), (), rfl, hpost, by rw [ht]; exact hI, hN.warm hW, va_K.moved hW.alike hK⟩, hS.F ht⟩) hS.2.2 dX11_wish_28
  refine lv_iload_n hx hb dX11_wish_0 rfl (lv_at hl 1 rfl) ?_
  refine th_cSs (As := [.int x1]) (rest := []) (n := 1) (d := 0) ⟨hx, hb, hml, hown, hts⟩ (c_X11_isCell l s.heap x1) wd_401 wd_402 wd_1 wd_403 (by decide +kernel) ⟨by rw [hR]; exact Nat.le_of_ble_eq_true rfl, by rw [hR]; exact Nat.le_of_ble_eq_true rfl⟩ hN hS rfl hl.1 rfl (Nat.le_of_ble_eq_true rfl) dX11_wish_1 ⟨Nat.zero_le _, Nat.zero_le _⟩ (fun r1625 locs hp hS => ?_)
  rcases hp with ⟨rfl, hp⟩ | ⟨rfl, hp⟩
  · skip
    try simp only [rg, not_and, Int.not_le] at hp
    have hp1626 := hp
    refine lv_if_eq (tgt := 23) hx hb dX11_wish_4 (by decide) (fun c => absurd c (by decide)) (fun _ => ?_)
    refine lv_iload_n hx hb dX11_wish_7 rfl (lv_at hl 3 rfl) ?_
    refine th_cSs (As := [.int x3]) (rest := []) (n := 1) (d := 0) ⟨hx, hb, hml, hown, hts⟩ (c_X11_isPlace l s.heap x3) wd_847 wd_848 wd_1 wd_849 (by decide +kernel) ⟨by rw [hR]; exact Nat.le_of_ble_eq_true rfl, by rw [hR]; exact Nat.le_of_ble_eq_true rfl⟩ hN hS rfl hl.1 rfl (Nat.le_of_ble_eq_true rfl) dX11_wish_8 ⟨Nat.zero_le _, Nat.zero_le _⟩ (fun r1627 locs hp hS => ?_)
    rcases hp with ⟨rfl, hp⟩ | ⟨rfl, hp⟩
    · skip
      try simp only [rg, not_and, Int.not_le] at hp
      have hp1628 := hp
      refine lv_if_eq (tgt := 23) hx hb dX11_wish_11 (by decide) (fun c => absurd c (by decide)) (fun _ => ?_)
      refine lv_iload_n hx hb dX11_wish_14 rfl (lv_at hl 2 rfl) ?_
      refine lv_iload hx hb dX11_wish_15 (lv_at hl 4 rfl) ?_
      refine th_cSs (As := [.int x2, .int x4]) (rest := []) (n := 2) (d := 1) ⟨hx, hb, hml, hown, hts⟩ (c_X11_isSpan l s.heap x2 x4) wd_463 wd_464 wd_1 wd_465 (by decide +kernel) ⟨by rw [hR]; exact Nat.le_of_ble_eq_true rfl, by rw [hR]; exact Nat.le_of_ble_eq_true rfl⟩ hN hS rfl hl.1 rfl (Nat.le_of_ble_eq_true rfl) dX11_wish_17 ⟨Nat.zero_le _, Nat.zero_le _⟩ (fun r1629 locs hp hS => ?_)
      rcases hp with ⟨rfl, hp⟩ | ⟨rfl, hp⟩
      · skip
        try simp only [rg, not_and, Int.not_le] at hp
        have hp1630 := hp
        refine lv_if_ne (tgt := 29) hx hb dX11_wish_20 (by decide) (fun _ => ?_) (fun c => absurd c (by decide))
        refine lv_aload_n hx hb dX11_wish_29 rfl (lv_at hl 0 rfl) ?_
        obtain ⟨a1631, a1635, a1637, a1639, a1641, a1643, a1645, a1647, a1649, a1651, a1653, w1655, w1658, w1659, w1660, w1661, hO, hq1632, ⟨m1634, hq1633⟩, hq1636, hq1638, hq1640, hq1642, hq1644, hq1646, hq1648, hq1650, hq1652, hq1654, ⟨k1656, k1657⟩⟩ := op_15 hI hG0 List.not_mem_nil
        have hI := th_I.weak (a := h0) hI
        refine th_get hx hb hts inT11 hown hK hO rfl 0 (by decide) (hts _ (tb_c wd_345)) rfl rfl dX11_wish_30 ?_
        have hI := th_I.close hI hG0 hO (ok_15 hq1632 ⟨_, hq1633⟩ hq1636 hq1638 hq1640 hq1642 hq1644 hq1646 hq1648 hq1650 hq1652 hq1654 ⟨by omega, by omega⟩)
        obtain ⟨a1662, a1664, a1666, a1668, a1670, a1672, a1674, a1676, a1678, a1680, w1682, w1685, w1686, w1687, hO, hq1663, hq1665, hq1667, hq1669, hq1671, hq1673, hq1675, hq1677, hq1679, hq1681, ⟨k1683, k1684⟩⟩ := op_6 hI hq1632 List.not_mem_nil
        have hI := th_I.weak (a := a1631) hI
        refine th_getN hx hb hts inT6 hown hK hN hO rfl 8 (by decide) wn_80 rfl rfl dX11_wish_33 ?_
        have hI := th_I.close hI hq1632 hO (ok_6 hq1663 hq1665 hq1667 hq1669 hq1671 hq1673 hq1675 hq1677 hq1679 hq1681 ⟨by omega, by omega⟩)
        obtain ⟨a1689, w1691, hO, hq1690, ⟨k1692, k1693⟩, k1694⟩ := op_4 hI hq1679 List.not_mem_nil
        have hI := th_I.weak (a := a1678) hI
        have k1695 : (nI 6).toInt = ((6 : Nat) : Int) := nI_toInt (by omega)
        refine th_cVs (As := []) (rest := []) (n := 0) (d := 0) ⟨hx, hb, hml, hown, hts⟩ (c_X4_isFull l E D s.heap a1678 6 a1689 w1691 hO (by omega) (by omega) (by omega)) wd_481 wd_482 wd_483 wd_3 wd_484 (by decide +kernel) ⟨by rw [hR]; exact Nat.le_of_ble_eq_true rfl, by rw [hR]; exact Nat.le_of_ble_eq_true rfl⟩ hN hK hS ⟨_, hO⟩ rfl rfl hl.1 rfl (Nat.le_of_ble_eq_true rfl) dX11_wish_36 ⟨Nat.zero_le _, Nat.zero_le _⟩ (fun r1688 locs hp hS => ?_)
        rcases hp with ⟨rfl, hp⟩ | ⟨rfl, hp⟩
        · skip
          try simp only [rg, not_and, Int.not_le] at hp
          have hp1696 := hp
          refine lv_if_eq (tgt := 49) hx hb dX11_wish_39 (by decide) (fun c => absurd c (by decide)) (fun _ => ?_)
          refine lv_aload_n hx hb dX11_wish_42 rfl (lv_at hl 0 rfl) ?_
          refine lv_bipush (v := (-5)) hx hb dX11_wish_43 (by decide) ?_
          have hI := th_I.close hI hq1679 hO (ok_4 hq1690 ⟨by omega, by omega⟩ (by omega))
          refine th_cVi (As := [.int (-5)]) (rest := []) (n := 1) (d := 0) ⟨hx, hb, hml, hown, hts⟩ (c_X11_refuse l E D G h0 (n) hG0 (-5)) wd_407 wd_409 wp_0 wd_1 wd_410 (by decide +kernel) ⟨by rw [hR]; exact Nat.le_of_ble_eq_true rfl, by rw [hR]; exact Nat.le_of_ble_eq_true rfl⟩ hI hN hK hS (rc_15 hI hG0 List.not_mem_nil) rfl rfl hl.1 rfl (Nat.le_of_ble_eq_true rfl) dX11_wish_45 ⟨Nat.zero_le _, Nat.zero_le _⟩ (fun r1697 H locs hp hI hS => ?_)
          have hp := hp.symm
          subst hp
          have hpost : True := trivial
          rw [hQ]
          exact W.iret (v := (-5)) hx hb hr (fun t ht hW => ⟨⟨(-5), (), rfl, hpost, by rw [ht]; exact hI, hN.warm hW, va_K.moved hW.alike hK⟩, hS.F ht⟩) hS.2.2 dX11_wish_48
        · skip
          have hp1698 := hp
          refine lv_if_eq (tgt := 49) hx hb dX11_wish_39 (by decide) (fun _ => ?_) (fun c => absurd c (by decide))
          refine lv_aload_n hx hb dX11_wish_49 rfl (lv_at hl 0 rfl) ?_
          have hI := th_I.close hI hq1679 hO (ok_4 hq1690 ⟨by omega, by omega⟩ (by omega))
          obtain ⟨a1699, a1703, a1705, a1707, a1709, a1711, a1713, a1715, a1717, a1719, a1721, w1723, w1726, w1727, w1728, w1729, hO, hq1700, ⟨m1702, hq1701⟩, hq1704, hq1706, hq1708, hq1710, hq1712, hq1714, hq1716, hq1718, hq1720, hq1722, ⟨k1724, k1725⟩⟩ := op_15 hI hG0 List.not_mem_nil
          have hI := th_I.weak (a := h0) hI
          refine th_get hx hb hts inT11 hown hK hO rfl 0 (by decide) (hts _ (tb_c wd_345)) rfl rfl dX11_wish_50 ?_
          have hI := th_I.close hI hG0 hO (ok_15 hq1700 ⟨_, hq1701⟩ hq1704 hq1706 hq1708 hq1710 hq1712 hq1714 hq1716 hq1718 hq1720 hq1722 ⟨by omega, by omega⟩)
          obtain ⟨a1730, a1732, a1734, a1736, a1738, a1740, a1742, a1744, a1746, a1748, w1750, w1753, w1754, w1755, hO, hq1731, hq1733, hq1735, hq1737, hq1739, hq1741, hq1743, hq1745, hq1747, hq1749, ⟨k1751, k1752⟩⟩ := op_6 hI hq1700 List.not_mem_nil
          have hI := th_I.weak (a := a1699) hI
          refine th_getN hx hb hts inT6 hown hK hN hO rfl 8 (by decide) wn_80 rfl rfl dX11_wish_53 ?_
          refine lv_iload_n hx hb dX11_wish_56 rfl (lv_at hl 1 rfl) ?_
          refine lv_iload_n hx hb dX11_wish_57 rfl (lv_at hl 2 rfl) ?_
          refine lv_iload_n hx hb dX11_wish_58 rfl (lv_at hl 3 rfl) ?_
          refine lv_iload hx hb dX11_wish_59 (lv_at hl 4 rfl) ?_
          have hI := th_I.close hI hq1700 hO (ok_6 hq1731 hq1733 hq1735 hq1737 hq1739 hq1741 hq1743 hq1745 hq1747 hq1749 ⟨by omega, by omega⟩)
          refine th_cVi (As := [.int x1, .int x2, .int x3, .int x4]) (rest := []) (n := 4) (d := 1) ⟨hx, hb, hml, hown, hts⟩ (c_X4_put l E D G a1746 (6) hq1747 x1 x2 x3 x4) wd_485 wd_486 wd_487 wd_3 wd_488 (by decide +kernel) ⟨by rw [hR]; exact Nat.le_of_ble_eq_true rfl, by rw [hR]; exact Nat.le_of_ble_eq_true rfl⟩ hI hN hK hS (rc_4 hI hq1747 List.not_mem_nil) rfl rfl hl.1 rfl (Nat.le_of_ble_eq_true rfl) dX11_wish_61 ⟨Nat.zero_le _, Nat.zero_le _⟩ (fun r1756 H locs hp hI hS => ?_)
          refine lv_pop hx hb dX11_wish_64 rfl ?_
          refine lv_aload_n hx hb dX11_wish_65 rfl (lv_at hl 0 rfl) ?_
          refine th_cVv (As := []) (rest := []) (n := 0) (d := 1) ⟨hx, hb, hml, hown, hts⟩ (c_X11_turnLists l E D G h0 (n) hG0 ) wd_431 wd_433 wp_2 wd_1 wd_434 (by decide +kernel) ⟨by rw [hR]; exact Nat.le_of_ble_eq_true rfl, by rw [hR]; exact Nat.le_of_ble_eq_true rfl⟩ hI hN hK hS (rc_15 hI hG0 List.not_mem_nil) rfl rfl hl.1 rfl (Nat.le_of_ble_eq_true rfl) dX11_wish_66 ⟨Nat.zero_le _, Nat.zero_le _⟩ (fun H locs hI hS => ?_)
          refine lv_aload_n hx hb dX11_wish_69 rfl (lv_at hl 0 rfl) ?_
          refine lv_aload_n hx hb dX11_wish_70 rfl (lv_at hl 0 rfl) ?_
          obtain ⟨a1758, a1762, a1764, a1766, a1768, a1770, a1772, a1774, a1776, a1778, a1780, w1782, w1785, w1786, w1787, w1788, hO, hq1759, ⟨m1761, hq1760⟩, hq1763, hq1765, hq1767, hq1769, hq1771, hq1773, hq1775, hq1777, hq1779, hq1781, ⟨k1783, k1784⟩⟩ := op_15 hI hG0 List.not_mem_nil
          have hI := th_I.weak (a := h0) hI
          refine th_get hx hb hts inT11 hown hK hO rfl 0 (by decide) (hts _ (tb_c wd_345)) rfl rfl dX11_wish_71 ?_
          have hI := th_I.close hI hG0 hO (ok_15 hq1759 ⟨_, hq1760⟩ hq1763 hq1765 hq1767 hq1769 hq1771 hq1773 hq1775 hq1777 hq1779 hq1781 ⟨by omega, by omega⟩)
          obtain ⟨a1789, a1791, a1793, a1795, a1797, a1799, a1801, a1803, a1805, a1807, w1809, w1812, w1813, w1814, hO, hq1790, hq1792, hq1794, hq1796, hq1798, hq1800, hq1802, hq1804, hq1806, hq1808, ⟨k1810, k1811⟩⟩ := op_6 hI hq1759 List.not_mem_nil
          have hI := th_I.weak (a := a1758) hI
          refine th_getN hx hb hts inT6 hown hK hN hO rfl 8 (by decide) wn_80 rfl rfl dX11_wish_74 ?_
          have hI := th_I.close hI hq1759 hO (ok_6 hq1790 hq1792 hq1794 hq1796 hq1798 hq1800 hq1802 hq1804 hq1806 hq1808 ⟨by omega, by omega⟩)
          obtain ⟨a1816, w1818, hO, hq1817, ⟨k1819, k1820⟩, k1821⟩ := op_4 hI hq1806 List.not_mem_nil
          have hI := th_I.weak (a := a1805) hI
          have k1822 : (nI 6).toInt = ((6 : Nat) : Int) := nI_toInt (by omega)
          refine th_cVs (As := []) (rest := [.ref h0]) (n := 0) (d := 0) ⟨hx, hb, hml, hown, hts⟩ (c_X4_size l E D H a1805 6 a1816 w1818 hO (by omega) (by omega) (by omega)) wd_506 wd_507 wd_508 wd_3 wd_509 (by decide +kernel) ⟨by rw [hR]; exact Nat.le_of_ble_eq_true rfl, by rw [hR]; exact Nat.le_of_ble_eq_true rfl⟩ hN hK hS ⟨_, hO⟩ rfl rfl hl.1 rfl (Nat.le_of_ble_eq_true rfl) dX11_wish_77 ⟨Nat.zero_le _, Nat.zero_le _⟩ (fun r1815 locs hp hS => ?_)
          have hp := hp.symm
          subst hp
          have hI := th_I.close hI hq1806 hO (ok_4 hq1817 ⟨by omega, by omega⟩ (by omega))
          refine th_cVi (As := [.int w1818]) (rest := []) (n := 1) (d := 0) ⟨hx, hb, hml, hown, hts⟩ (c_X11_accept l E D G h0 (n) hG0 w1818) wd_447 wd_449 wp_3 wd_1 wd_450 (by decide +kernel) ⟨by rw [hR]; exact Nat.le_of_ble_eq_true rfl, by rw [hR]; exact Nat.le_of_ble_eq_true rfl⟩ hI hN hK hS (rc_15 hI hG0 List.not_mem_nil) rfl rfl hl.1 rfl (Nat.le_of_ble_eq_true rfl) dX11_wish_80 ⟨Nat.zero_le _, Nat.zero_le _⟩ (fun r1823 H locs hp hI hS => ?_)
          have hp := hp.symm
          subst hp
          have hpost : True := trivial
          rw [hQ]
          exact W.iret (v := w1818) hx hb hr (fun t ht hW => ⟨⟨w1818, (), rfl, hpost, by rw [ht]; exact hI, hN.warm hW, va_K.moved hW.alike hK⟩, hS.F ht⟩) hS.2.2 dX11_wish_83
      · skip
        try simp only [rg, not_and, Int.not_le] at hp
        have hp1824 := hp
        refine lv_if_ne (tgt := 29) hx hb dX11_wish_20 (by decide) (fun c => absurd c (by decide)) (fun _ => ?_)
        exact J_23 s.heap locs ls  (lv_sub hl [0, 1, 2, 3, 4] rfl)  hI hS
    · skip
      try simp only [rg, not_and, Int.not_le] at hp
      have hp1825 := hp
      refine lv_if_eq (tgt := 23) hx hb dX11_wish_11 (by decide) (fun _ => ?_) (fun c => absurd c (by decide))
      exact J_23 s.heap locs ls  (lv_sub hl [0, 1, 2, 3, 4] rfl)  hI hS
  · skip
    try simp only [rg, not_and, Int.not_le] at hp
    have hp1826 := hp
    refine lv_if_eq (tgt := 23) hx hb dX11_wish_4 (by decide) (fun _ => ?_) (fun c => absurd c (by decide))
    exact J_23 s.heap locs ls  (lv_sub hl [0, 1, 2, 3, 4] rfl)  hI hS
theorem dX11_drop_0 : decode cX11_drop 0 = .ok (.aload_n 0, 1) := by decide +kernel
theorem dX11_drop_1 : decode cX11_drop 1 = .ok (.invokevirtual 191, 3) := by decide +kernel
theorem dX11_drop_4 : decode cX11_drop 4 = .ok (.aload_n 0, 1) := by decide +kernel
theorem dX11_drop_5 : decode cX11_drop 5 = .ok (.getfield 12, 3) := by decide +kernel
theorem dX11_drop_8 : decode cX11_drop 8 = .ok (.getfield 322, 3) := by decide +kernel
theorem dX11_drop_11 : decode cX11_drop 11 = .ok (.invokevirtual 295, 3) := by decide +kernel
theorem dX11_drop_14 : decode cX11_drop 14 = .ok (.ireturn, 1) := by decide +kernel
set_option maxHeartbeats 4000000 in
set_option maxRecDepth 100000 in
theorem c_X11_drop (l : Launch) (E : Nat → ClassId) (D : va_G) (G : th_G) (h0 n : Nat) (hG0 : G h0 = some (15, n)) : Met l yX11_drop (tb (.code yX11_drop cX11_drop 1 (some .int))) (rm 2) (va_Pc [.ref h0] (th_P E D G)) (QI E D G (fun r => True)) 0 0 (th_A G) := by
  refine Met.ofW (cc := cX11_drop) (maxL := 1) (ret := (some .int)) (by decide) rfl ?_
  intro p e s m args below meth c s₁ B hml hv
  obtain ⟨hav, hI, hN, hK⟩ := hv
  have hx := B.exec
  have hb := B.bytes
  have hr := B.returns
  have hts := atoms_spec (ws := tb (.code yX11_drop cX11_drop 1 (some .int))) B.pre
  have hown : s.vm.findClass RX11 = some m.cls := findClass_of_methodNamed B.named
  have hlocks := B.notSynchronized
  have hS : va_S (th_A G) s.heap s.heap [] := va_S.rf
  have hl := lv_entry ([.ref h0]) (n := 1) (Nat.le_of_ble_eq_true rfl)
  rw [show entryFrame m args 1 = entryFrame m ([.ref h0] : List Value).toArray 1 from by rw [hav], lg_entry_eq]
  generalize (lg_sl ([.ref h0]) ++ List.replicate (1 - (lg_sl ([.ref h0])).length) Slot.unset).toArray = ls at hl ⊢
  have hl : lv_has ls 1 [(0, .ref h0)] := hl
  generalize hR : (headSpec (tb (.code yX11_drop cX11_drop 1 (some .int))) (rm 2)).room = R
  have hR := hR.symm
  generalize hQ : MQ below (QI E D G (fun r => True)) args s 0 0 (th_A G) = QF
  have hQ := hQ.symm
  refine lv_aload_n hx hb dX11_drop_0 rfl (lv_at hl 0 rfl) ?_
  refine th_cVv (As := []) (rest := []) (n := 0) (d := 1) ⟨hx, hb, hml, hown, hts⟩ (c_X11_turnLists l E D G h0 (n) hG0 ) wd_431 wd_433 wp_2 wd_1 wd_434 (by decide +kernel) ⟨by rw [hR]; exact Nat.le_of_ble_eq_true rfl, by rw [hR]; exact Nat.le_of_ble_eq_true rfl⟩ hI hN hK hS (rc_15 hI hG0 List.not_mem_nil) rfl rfl hl.1 rfl (Nat.le_of_ble_eq_true rfl) dX11_drop_1 ⟨Nat.zero_le _, Nat.zero_le _⟩ (fun H locs hI hS => ?_)
  refine lv_aload_n hx hb dX11_drop_4 rfl (lv_at hl 0 rfl) ?_
  obtain ⟨a2, a6, a8, a10, a12, a14, a16, a18, a20, a22, a24, w26, w29, w30, w31, w32, hO, hq3, ⟨m5, hq4⟩, hq7, hq9, hq11, hq13, hq15, hq17, hq19, hq21, hq23, hq25, ⟨k27, k28⟩⟩ := op_15 hI hG0 List.not_mem_nil
  have hI := th_I.weak (a := h0) hI
  refine th_get hx hb hts inT11 hown hK hO rfl 0 (by decide) (hts _ (tb_c wd_345)) rfl rfl dX11_drop_5 ?_
  have hI := th_I.close hI hG0 hO (ok_15 hq3 ⟨_, hq4⟩ hq7 hq9 hq11 hq13 hq15 hq17 hq19 hq21 hq23 hq25 ⟨by omega, by omega⟩)
  obtain ⟨a33, a35, a37, a39, a41, a43, a45, a47, a49, a51, w53, w56, w57, w58, hO, hq34, hq36, hq38, hq40, hq42, hq44, hq46, hq48, hq50, hq52, ⟨k54, k55⟩⟩ := op_6 hI hq3 List.not_mem_nil
  have hI := th_I.weak (a := a2) hI
  refine th_getN hx hb hts inT6 hown hK hN hO rfl 8 (by decide) wn_80 rfl rfl dX11_drop_8 ?_
  have hI := th_I.close hI hq3 hO (ok_6 hq34 hq36 hq38 hq40 hq42 hq44 hq46 hq48 hq50 hq52 ⟨by omega, by omega⟩)
  refine th_cVi (As := []) (rest := []) (n := 0) (d := 0) ⟨hx, hb, hml, hown, hts⟩ (c_X4_clear l E D G a49 (6) hq50 ) wd_983 wd_984 wd_985 wd_3 wd_986 (by decide +kernel) ⟨by rw [hR]; exact Nat.le_of_ble_eq_true rfl, by rw [hR]; exact Nat.le_of_ble_eq_true rfl⟩ hI hN hK hS (rc_4 hI hq50 List.not_mem_nil) rfl rfl hl.1 rfl (Nat.le_of_ble_eq_true rfl) dX11_drop_11 ⟨Nat.zero_le _, Nat.zero_le _⟩ (fun r59 H locs hp hI hS => ?_)
  have hpost : True := trivial
  rw [hQ]
  exact W.iret (v := r59) hx hb hr (fun t ht hW => ⟨⟨r59, (), rfl, hpost, by rw [ht]; exact hI, hN.warm hW, va_K.moved hW.alike hK⟩, hS.F ht⟩) hS.2.2 dX11_drop_14
theorem dX11_granted_0 : decode cX11_granted 0 = .ok (.aload_n 0, 1) := by decide +kernel
theorem dX11_granted_1 : decode cX11_granted 1 = .ok (.getfield 85, 3) := by decide +kernel
theorem dX11_granted_4 : decode cX11_granted 4 = .ok (.invokevirtual 325, 3) := by decide +kernel
theorem dX11_granted_7 : decode cX11_granted 7 = .ok (.ireturn, 1) := by decide +kernel
set_option maxHeartbeats 4000000 in
set_option maxRecDepth 100000 in
theorem c_X11_granted (l : Launch) (E : Nat → ClassId) (D : va_G) (G : th_G) (h0 n : Nat) (hG0 : G h0 = some (15, n)) : Met l yX11_granted (tb (.code yX11_granted cX11_granted 1 (some .int))) (rm 7) (va_Pc [.ref h0] (th_P E D G)) (QI E D G (fun r => True)) 0 0 (th_A G) := by
  refine Met.ofW (cc := cX11_granted) (maxL := 1) (ret := (some .int)) (by decide) rfl ?_
  intro p e s m args below meth c s₁ B hml hv
  obtain ⟨hav, hI, hN, hK⟩ := hv
  have hx := B.exec
  have hb := B.bytes
  have hr := B.returns
  have hts := atoms_spec (ws := tb (.code yX11_granted cX11_granted 1 (some .int))) B.pre
  have hown : s.vm.findClass RX11 = some m.cls := findClass_of_methodNamed B.named
  have hlocks := B.notSynchronized
  have hS : va_S (th_A G) s.heap s.heap [] := va_S.rf
  have hl := lv_entry ([.ref h0]) (n := 1) (Nat.le_of_ble_eq_true rfl)
  rw [show entryFrame m args 1 = entryFrame m ([.ref h0] : List Value).toArray 1 from by rw [hav], lg_entry_eq]
  generalize (lg_sl ([.ref h0]) ++ List.replicate (1 - (lg_sl ([.ref h0])).length) Slot.unset).toArray = ls at hl ⊢
  have hl : lv_has ls 1 [(0, .ref h0)] := hl
  generalize hR : (headSpec (tb (.code yX11_granted cX11_granted 1 (some .int))) (rm 7)).room = R
  have hR := hR.symm
  generalize hQ : MQ below (QI E D G (fun r => True)) args s 0 0 (th_A G) = QF
  have hQ := hQ.symm
  refine lv_aload_n hx hb dX11_granted_0 rfl (lv_at hl 0 rfl) ?_
  obtain ⟨a1, a5, a7, a9, a11, a13, a15, a17, a19, a21, a23, w25, w28, w29, w30, w31, hO, hq2, ⟨m4, hq3⟩, hq6, hq8, hq10, hq12, hq14, hq16, hq18, hq20, hq22, hq24, ⟨k26, k27⟩⟩ := op_15 hI hG0 List.not_mem_nil
  have hI := th_I.weak (a := h0) hI
  refine th_get hx hb hts inT11 hown hK hO rfl 11 (by decide) (hts _ (tb_c wd_356)) rfl rfl dX11_granted_1 ?_
  have hI := th_I.close hI hG0 hO (ok_15 hq2 ⟨_, hq3⟩ hq6 hq8 hq10 hq12 hq14 hq16 hq18 hq20 hq22 hq24 ⟨by omega, by omega⟩)
  refine th_cVi (As := []) (rest := []) (n := 0) (d := 6) ⟨hx, hb, hml, hown, hts⟩ (c_X10_grantedNow l E D G a23 hq24 ) wd_1134 wd_1135 wd_1136 wd_12 wd_1137 (by decide +kernel) ⟨by rw [hR]; exact Nat.le_of_ble_eq_true rfl, by rw [hR]; exact Nat.le_of_ble_eq_true rfl⟩ hI hN hK hS (rc_14 hI hq24 List.not_mem_nil) rfl rfl hl.1 rfl (Nat.le_of_ble_eq_true rfl) dX11_granted_4 ⟨Nat.zero_le _, Nat.zero_le _⟩ (fun r32 H locs hp hI hS => ?_)
  have hpost : True := trivial
  rw [hQ]
  exact W.iret (v := r32) hx hb hr (fun t ht hW => ⟨⟨r32, (), rfl, hpost, by rw [ht]; exact hI, hN.warm hW, va_K.moved hW.alike hK⟩, hS.F ht⟩) hS.2.2 dX11_granted_7
theorem dX11_best_0 : decode cX11_best 0 = .ok (.iload_n 1, 1) := by decide +kernel
theorem dX11_best_1 : decode cX11_best 1 = .ok (.invokestatic 117, 3) := by decide +kernel
theorem dX11_best_4 : decode cX11_best 4 = .ok (.ifCond .ne 5, 3) := by decide +kernel
theorem dX11_best_7 : decode cX11_best 7 = .ok (.iconst (-1), 1) := by decide +kernel
theorem dX11_best_8 : decode cX11_best 8 = .ok (.ireturn, 1) := by decide +kernel
theorem dX11_best_9 : decode cX11_best 9 = .ok (.aload_n 0, 1) := by decide +kernel
theorem dX11_best_10 : decode cX11_best 10 = .ok (.getfield 85, 3) := by decide +kernel
theorem dX11_best_13 : decode cX11_best 13 = .ok (.iload_n 1, 1) := by decide +kernel
theorem dX11_best_14 : decode cX11_best 14 = .ok (.invokevirtual 328, 3) := by decide +kernel
theorem dX11_best_17 : decode cX11_best 17 = .ok (.aload_n 0, 1) := by decide +kernel
theorem dX11_best_18 : decode cX11_best 18 = .ok (.getfield 85, 3) := by decide +kernel
theorem dX11_best_21 : decode cX11_best 21 = .ok (.iload_n 2, 1) := by decide +kernel
theorem dX11_best_22 : decode cX11_best 22 = .ok (.invokevirtual 331, 3) := by decide +kernel
theorem dX11_best_25 : decode cX11_best 25 = .ok (.ireturn, 1) := by decide +kernel
set_option maxHeartbeats 4000000 in
set_option maxRecDepth 100000 in
theorem c_X11_best (l : Launch) (E : Nat → ClassId) (D : va_G) (G : th_G) (h0 n : Nat) (hG0 : G h0 = some (15, n)) (x1 x2 : Int32) : Met l yX11_best (tb (.code yX11_best cX11_best 3 (some .int))) (rm 8) (va_Pc [.ref h0, .int x1, .int x2] (th_P E D G)) (QI E D G (fun r => True)) 0 0 (th_A G) := by
  refine Met.ofW (cc := cX11_best) (maxL := 3) (ret := (some .int)) (by decide) rfl ?_
  intro p e s m args below meth c s₁ B hml hv
  obtain ⟨hav, hI, hN, hK⟩ := hv
  have hx := B.exec
  have hb := B.bytes
  have hr := B.returns
  have hts := atoms_spec (ws := tb (.code yX11_best cX11_best 3 (some .int))) B.pre
  have hown : s.vm.findClass RX11 = some m.cls := findClass_of_methodNamed B.named
  have hlocks := B.notSynchronized
  have hS : va_S (th_A G) s.heap s.heap [] := va_S.rf
  have hl := lv_entry ([.ref h0, .int x1, .int x2]) (n := 3) (Nat.le_of_ble_eq_true rfl)
  rw [show entryFrame m args 3 = entryFrame m ([.ref h0, .int x1, .int x2] : List Value).toArray 3 from by rw [hav], lg_entry_eq]
  generalize (lg_sl ([.ref h0, .int x1, .int x2]) ++ List.replicate (3 - (lg_sl ([.ref h0, .int x1, .int x2])).length) Slot.unset).toArray = ls at hl ⊢
  have hl : lv_has ls 3 [(0, .ref h0), (1, .int x1), (2, .int x2)] := hl
  generalize hR : (headSpec (tb (.code yX11_best cX11_best 3 (some .int))) (rm 8)).room = R
  have hR := hR.symm
  generalize hQ : MQ below (QI E D G (fun r => True)) args s 0 0 (th_A G) = QF
  have hQ := hQ.symm
  refine lv_iload_n hx hb dX11_best_0 rfl (lv_at hl 1 rfl) ?_
  refine th_cSs (As := [.int x1]) (rest := []) (n := 1) (d := 0) ⟨hx, hb, hml, hown, hts⟩ (c_X11_isPump l s.heap x1) wd_411 wd_412 wd_1 wd_413 (by decide +kernel) ⟨by rw [hR]; exact Nat.le_of_ble_eq_true rfl, by rw [hR]; exact Nat.le_of_ble_eq_true rfl⟩ hN hS rfl hl.1 rfl (Nat.le_of_ble_eq_true rfl) dX11_best_1 ⟨Nat.zero_le _, Nat.zero_le _⟩ (fun r1 locs hp hS => ?_)
  rcases hp with ⟨rfl, hp⟩ | ⟨rfl, hp⟩
  · skip
    try simp only [rg, not_and, Int.not_le] at hp
    have hp2 := hp
    refine lv_if_ne (tgt := 9) hx hb dX11_best_4 (by decide) (fun _ => ?_) (fun c => absurd c (by decide))
    refine lv_aload_n hx hb dX11_best_9 rfl (lv_at hl 0 rfl) ?_
    obtain ⟨a3, a7, a9, a11, a13, a15, a17, a19, a21, a23, a25, w27, w30, w31, w32, w33, hO, hq4, ⟨m6, hq5⟩, hq8, hq10, hq12, hq14, hq16, hq18, hq20, hq22, hq24, hq26, ⟨k28, k29⟩⟩ := op_15 hI hG0 List.not_mem_nil
    have hI := th_I.weak (a := h0) hI
    refine th_get hx hb hts inT11 hown hK hO rfl 11 (by decide) (hts _ (tb_c wd_356)) rfl rfl dX11_best_10 ?_
    refine lv_iload_n hx hb dX11_best_13 rfl (lv_at hl 1 rfl) ?_
    have hI := th_I.close hI hG0 hO (ok_15 hq4 ⟨_, hq5⟩ hq8 hq10 hq12 hq14 hq16 hq18 hq20 hq22 hq24 hq26 ⟨by omega, by omega⟩)
    refine th_cVv (As := [.int x1]) (rest := []) (n := 1) (d := 7) ⟨hx, hb, hml, hown, hts⟩ (c_X10_tune l E D G a25 hq26 x1) wd_1145 wd_1146 wd_1147 wd_12 wd_1148 (by decide +kernel) ⟨by rw [hR]; exact Nat.le_of_ble_eq_true rfl, by rw [hR]; exact Nat.le_of_ble_eq_true rfl⟩ hI hN hK hS (rc_14 hI hq26 List.not_mem_nil) rfl rfl hl.1 rfl (Nat.le_of_ble_eq_true rfl) dX11_best_14 ⟨Nat.zero_le _, Nat.zero_le _⟩ (fun H locs hI hS => ?_)
    refine lv_aload_n hx hb dX11_best_17 rfl (lv_at hl 0 rfl) ?_
    obtain ⟨a35, a39, a41, a43, a45, a47, a49, a51, a53, a55, a57, w59, w62, w63, w64, w65, hO, hq36, ⟨m38, hq37⟩, hq40, hq42, hq44, hq46, hq48, hq50, hq52, hq54, hq56, hq58, ⟨k60, k61⟩⟩ := op_15 hI hG0 List.not_mem_nil
    have hI := th_I.weak (a := h0) hI
    refine th_get hx hb hts inT11 hown hK hO rfl 11 (by decide) (hts _ (tb_c wd_356)) rfl rfl dX11_best_18 ?_
    refine lv_iload_n hx hb dX11_best_21 rfl (lv_at hl 2 rfl) ?_
    have hI := th_I.close hI hG0 hO (ok_15 hq36 ⟨_, hq37⟩ hq40 hq42 hq44 hq46 hq48 hq50 hq52 hq54 hq56 hq58 ⟨by omega, by omega⟩)
    refine th_cVi (As := [.int x2]) (rest := []) (n := 1) (d := 0) ⟨hx, hb, hml, hown, hts⟩ (c_X10_tuned l E D G a57 hq58 x2) wd_1168 wd_1169 wd_1170 wd_12 wd_1171 (by decide +kernel) ⟨by rw [hR]; exact Nat.le_of_ble_eq_true rfl, by rw [hR]; exact Nat.le_of_ble_eq_true rfl⟩ hI hN hK hS (rc_14 hI hq58 List.not_mem_nil) rfl rfl hl.1 rfl (Nat.le_of_ble_eq_true rfl) dX11_best_22 ⟨Nat.zero_le _, Nat.zero_le _⟩ (fun r66 H locs hp hI hS => ?_)
    have hpost : True := trivial
    rw [hQ]
    exact W.iret (v := r66) hx hb hr (fun t ht hW => ⟨⟨r66, (), rfl, hpost, by rw [ht]; exact hI, hN.warm hW, va_K.moved hW.alike hK⟩, hS.F ht⟩) hS.2.2 dX11_best_25
  · skip
    try simp only [rg, not_and, Int.not_le] at hp
    have hp67 := hp
    refine lv_if_ne (tgt := 9) hx hb dX11_best_4 (by decide) (fun c => absurd c (by decide)) (fun _ => ?_)
    refine lv_iconst (v := (-1)) hx hb dX11_best_7 (by decide) ?_
    have hpost : True := trivial
    rw [hQ]
    exact W.iret (v := (-1)) hx hb hr (fun t ht hW => ⟨⟨(-1), (), rfl, hpost, by rw [ht]; exact hI, hN.warm hW, va_K.moved hW.alike hK⟩, hS.F ht⟩) hS.2.2 dX11_best_8
theorem dX11_set_0 : decode cX11_set 0 = .ok (.iload_n 1, 1) := by decide +kernel
theorem dX11_set_1 : decode cX11_set 1 = .ok (.invokestatic 117, 3) := by decide +kernel
theorem dX11_set_4 : decode cX11_set 4 = .ok (.ifCond .ne 10, 3) := by decide +kernel
theorem dX11_set_7 : decode cX11_set 7 = .ok (.aload_n 0, 1) := by decide +kernel
theorem dX11_set_8 : decode cX11_set 8 = .ok (.bipush (-2), 2) := by decide +kernel
theorem dX11_set_10 : decode cX11_set 10 = .ok (.invokevirtual 113, 3) := by decide +kernel
theorem dX11_set_13 : decode cX11_set 13 = .ok (.ireturn, 1) := by decide +kernel
theorem dX11_set_14 : decode cX11_set 14 = .ok (.aload_n 0, 1) := by decide +kernel
theorem dX11_set_15 : decode cX11_set 15 = .ok (.getfield 85, 3) := by decide +kernel
theorem dX11_set_18 : decode cX11_set 18 = .ok (.iload_n 1, 1) := by decide +kernel
theorem dX11_set_19 : decode cX11_set 19 = .ok (.invokevirtual 328, 3) := by decide +kernel
theorem dX11_set_22 : decode cX11_set 22 = .ok (.aload_n 0, 1) := by decide +kernel
theorem dX11_set_23 : decode cX11_set 23 = .ok (.getfield 85, 3) := by decide +kernel
theorem dX11_set_26 : decode cX11_set 26 = .ok (.iconst 1, 1) := by decide +kernel
theorem dX11_set_27 : decode cX11_set 27 = .ok (.invokevirtual 331, 3) := by decide +kernel
theorem dX11_set_30 : decode cX11_set 30 = .ok (.istore_n 2, 1) := by decide +kernel
theorem dX11_set_31 : decode cX11_set 31 = .ok (.aload_n 0, 1) := by decide +kernel
theorem dX11_set_32 : decode cX11_set 32 = .ok (.getfield 12, 3) := by decide +kernel
theorem dX11_set_35 : decode cX11_set 35 = .ok (.iload_n 1, 1) := by decide +kernel
theorem dX11_set_36 : decode cX11_set 36 = .ok (.iload_n 2, 1) := by decide +kernel
theorem dX11_set_37 : decode cX11_set 37 = .ok (.iload_n 2, 1) := by decide +kernel
theorem dX11_set_38 : decode cX11_set 38 = .ok (.aload_n 0, 1) := by decide +kernel
theorem dX11_set_39 : decode cX11_set 39 = .ok (.getfield 85, 3) := by decide +kernel
theorem dX11_set_42 : decode cX11_set 42 = .ok (.iconst 2, 1) := by decide +kernel
theorem dX11_set_43 : decode cX11_set 43 = .ok (.invokevirtual 331, 3) := by decide +kernel
theorem dX11_set_46 : decode cX11_set 46 = .ok (.iadd, 1) := by decide +kernel
theorem dX11_set_47 : decode cX11_set 47 = .ok (.bipush 24, 2) := by decide +kernel
theorem dX11_set_49 : decode cX11_set 49 = .ok (.irem, 1) := by decide +kernel
theorem dX11_set_50 : decode cX11_set 50 = .ok (.invokevirtual 334, 3) := by decide +kernel
theorem dX11_set_53 : decode cX11_set 53 = .ok (.aload_n 0, 1) := by decide +kernel
theorem dX11_set_54 : decode cX11_set 54 = .ok (.invokevirtual 124, 3) := by decide +kernel
theorem dX11_set_57 : decode cX11_set 57 = .ok (.aload_n 0, 1) := by decide +kernel
theorem dX11_set_58 : decode cX11_set 58 = .ok (.aload_n 0, 1) := by decide +kernel
theorem dX11_set_59 : decode cX11_set 59 = .ok (.getfield 85, 3) := by decide +kernel
theorem dX11_set_62 : decode cX11_set 62 = .ok (.iconst 0, 1) := by decide +kernel
theorem dX11_set_63 : decode cX11_set 63 = .ok (.invokevirtual 331, 3) := by decide +kernel
theorem dX11_set_66 : decode cX11_set 66 = .ok (.invokevirtual 127, 3) := by decide +kernel
theorem dX11_set_69 : decode cX11_set 69 = .ok (.ireturn, 1) := by decide +kernel
set_option maxHeartbeats 4000000 in
set_option maxRecDepth 100000 in
theorem c_X11_set (l : Launch) (E : Nat → ClassId) (D : va_G) (G : th_G) (h0 n : Nat) (hG0 : G h0 = some (15, n)) (x1 : Int32) : Met l yX11_set (tb (.code yX11_set cX11_set 3 (some .int))) (rm 8) (va_Pc [.ref h0, .int x1] (th_P E D G)) (QI E D G (fun r => True)) 0 0 (th_A G) := by
  refine Met.ofW (cc := cX11_set) (maxL := 3) (ret := (some .int)) (by decide) rfl ?_
  intro p e s m args below meth c s₁ B hml hv
  obtain ⟨hav, hI, hN, hK⟩ := hv
  have hx := B.exec
  have hb := B.bytes
  have hr := B.returns
  have hts := atoms_spec (ws := tb (.code yX11_set cX11_set 3 (some .int))) B.pre
  have hown : s.vm.findClass RX11 = some m.cls := findClass_of_methodNamed B.named
  have hlocks := B.notSynchronized
  have hS : va_S (th_A G) s.heap s.heap [] := va_S.rf
  have hl := lv_entry ([.ref h0, .int x1]) (n := 3) (Nat.le_of_ble_eq_true rfl)
  rw [show entryFrame m args 3 = entryFrame m ([.ref h0, .int x1] : List Value).toArray 3 from by rw [hav], lg_entry_eq]
  generalize (lg_sl ([.ref h0, .int x1]) ++ List.replicate (3 - (lg_sl ([.ref h0, .int x1])).length) Slot.unset).toArray = ls at hl ⊢
  have hl : lv_has ls 3 [(0, .ref h0), (1, .int x1)] := hl
  generalize hR : (headSpec (tb (.code yX11_set cX11_set 3 (some .int))) (rm 8)).room = R
  have hR := hR.symm
  generalize hQ : MQ below (QI E D G (fun r => True)) args s 0 0 (th_A G) = QF
  have hQ := hQ.symm
  refine lv_iload_n hx hb dX11_set_0 rfl (lv_at hl 1 rfl) ?_
  refine th_cSs (As := [.int x1]) (rest := []) (n := 1) (d := 0) ⟨hx, hb, hml, hown, hts⟩ (c_X11_isPump l s.heap x1) wd_411 wd_412 wd_1 wd_413 (by decide +kernel) ⟨by rw [hR]; exact Nat.le_of_ble_eq_true rfl, by rw [hR]; exact Nat.le_of_ble_eq_true rfl⟩ hN hS rfl hl.1 rfl (Nat.le_of_ble_eq_true rfl) dX11_set_1 ⟨Nat.zero_le _, Nat.zero_le _⟩ (fun r1 locs hp hS => ?_)
  rcases hp with ⟨rfl, hp⟩ | ⟨rfl, hp⟩
  · skip
    try simp only [rg, not_and, Int.not_le] at hp
    have hp2 := hp
    refine lv_if_ne (tgt := 14) hx hb dX11_set_4 (by decide) (fun _ => ?_) (fun c => absurd c (by decide))
    refine lv_aload_n hx hb dX11_set_14 rfl (lv_at hl 0 rfl) ?_
    obtain ⟨a3, a7, a9, a11, a13, a15, a17, a19, a21, a23, a25, w27, w30, w31, w32, w33, hO, hq4, ⟨m6, hq5⟩, hq8, hq10, hq12, hq14, hq16, hq18, hq20, hq22, hq24, hq26, ⟨k28, k29⟩⟩ := op_15 hI hG0 List.not_mem_nil
    have hI := th_I.weak (a := h0) hI
    refine th_get hx hb hts inT11 hown hK hO rfl 11 (by decide) (hts _ (tb_c wd_356)) rfl rfl dX11_set_15 ?_
    refine lv_iload_n hx hb dX11_set_18 rfl (lv_at hl 1 rfl) ?_
    have hI := th_I.close hI hG0 hO (ok_15 hq4 ⟨_, hq5⟩ hq8 hq10 hq12 hq14 hq16 hq18 hq20 hq22 hq24 hq26 ⟨by omega, by omega⟩)
    refine th_cVv (As := [.int x1]) (rest := []) (n := 1) (d := 7) ⟨hx, hb, hml, hown, hts⟩ (c_X10_tune l E D G a25 hq26 x1) wd_1145 wd_1146 wd_1147 wd_12 wd_1148 (by decide +kernel) ⟨by rw [hR]; exact Nat.le_of_ble_eq_true rfl, by rw [hR]; exact Nat.le_of_ble_eq_true rfl⟩ hI hN hK hS (rc_14 hI hq26 List.not_mem_nil) rfl rfl hl.1 rfl (Nat.le_of_ble_eq_true rfl) dX11_set_19 ⟨Nat.zero_le _, Nat.zero_le _⟩ (fun H locs hI hS => ?_)
    refine lv_aload_n hx hb dX11_set_22 rfl (lv_at hl 0 rfl) ?_
    obtain ⟨a35, a39, a41, a43, a45, a47, a49, a51, a53, a55, a57, w59, w62, w63, w64, w65, hO, hq36, ⟨m38, hq37⟩, hq40, hq42, hq44, hq46, hq48, hq50, hq52, hq54, hq56, hq58, ⟨k60, k61⟩⟩ := op_15 hI hG0 List.not_mem_nil
    have hI := th_I.weak (a := h0) hI
    refine th_get hx hb hts inT11 hown hK hO rfl 11 (by decide) (hts _ (tb_c wd_356)) rfl rfl dX11_set_23 ?_
    refine lv_iconst (v := 1) hx hb dX11_set_26 (by decide) ?_
    have hI := th_I.close hI hG0 hO (ok_15 hq36 ⟨_, hq37⟩ hq40 hq42 hq44 hq46 hq48 hq50 hq52 hq54 hq56 hq58 ⟨by omega, by omega⟩)
    refine th_cVi (As := [.int 1]) (rest := []) (n := 1) (d := 0) ⟨hx, hb, hml, hown, hts⟩ (c_X10_tuned l E D G a57 hq58 1) wd_1168 wd_1169 wd_1170 wd_12 wd_1171 (by decide +kernel) ⟨by rw [hR]; exact Nat.le_of_ble_eq_true rfl, by rw [hR]; exact Nat.le_of_ble_eq_true rfl⟩ hI hN hK hS (rc_14 hI hq58 List.not_mem_nil) rfl rfl hl.1 rfl (Nat.le_of_ble_eq_true rfl) dX11_set_27 ⟨Nat.zero_le _, Nat.zero_le _⟩ (fun r66 H locs hp hI hS => ?_)
    refine lv_istore_n (lv' := [(2, .int r66), (0, .ref h0), (1, .int x1)]) hx hb dX11_set_30 rfl hl (by decide) rfl (fun ls hl => ?_)
    refine lv_aload_n hx hb dX11_set_31 rfl (lv_at hl 1 rfl) ?_
    obtain ⟨a67, a71, a73, a75, a77, a79, a81, a83, a85, a87, a89, w91, w94, w95, w96, w97, hO, hq68, ⟨m70, hq69⟩, hq72, hq74, hq76, hq78, hq80, hq82, hq84, hq86, hq88, hq90, ⟨k92, k93⟩⟩ := op_15 hI hG0 List.not_mem_nil
    have hI := th_I.weak (a := h0) hI
    refine th_get hx hb hts inT11 hown hK hO rfl 0 (by decide) (hts _ (tb_c wd_345)) rfl rfl dX11_set_32 ?_
    refine lv_iload_n hx hb dX11_set_35 rfl (lv_at hl 2 rfl) ?_
    refine lv_iload_n hx hb dX11_set_36 rfl (lv_at hl 0 rfl) ?_
    refine lv_iload_n hx hb dX11_set_37 rfl (lv_at hl 0 rfl) ?_
    refine lv_aload_n hx hb dX11_set_38 rfl (lv_at hl 1 rfl) ?_
    refine th_get hx hb hts inT11 hown hK hO rfl 11 (by decide) (hts _ (tb_c wd_356)) rfl rfl dX11_set_39 ?_
    refine lv_iconst (v := 2) hx hb dX11_set_42 (by decide) ?_
    have hI := th_I.close hI hG0 hO (ok_15 hq68 ⟨_, hq69⟩ hq72 hq74 hq76 hq78 hq80 hq82 hq84 hq86 hq88 hq90 ⟨by omega, by omega⟩)
    refine th_cVi (As := [.int 2]) (rest := [.int r66, .int r66, .int x1, .ref a67]) (n := 1) (d := 0) ⟨hx, hb, hml, hown, hts⟩ (c_X10_tuned l E D G a89 hq90 2) wd_1168 wd_1169 wd_1170 wd_12 wd_1171 (by decide +kernel) ⟨by rw [hR]; exact Nat.le_of_ble_eq_true rfl, by rw [hR]; exact Nat.le_of_ble_eq_true rfl⟩ hI hN hK hS (rc_14 hI hq90 List.not_mem_nil) rfl rfl hl.1 rfl (Nat.le_of_ble_eq_true rfl) dX11_set_43 ⟨Nat.zero_le _, Nat.zero_le _⟩ (fun r98 H locs hp hI hS => ?_)
    refine lv_iadd hx hb dX11_set_46 ?_
    refine lv_topi (fun v99 e100 => ?_)
    try have tv99 : v99.toInt = r66.toInt + r98.toInt := iv_add rfl rfl e100 (by omega) (by omega)
    refine lv_bipush (v := 24) hx hb dX11_set_47 (by decide) ?_
    refine lv_irem hx hb dX11_set_49 (by decide) ?_
    refine lv_topi (fun v101 e102 => ?_)
    refine th_cVv (As := [.int x1, .int r66, .int v101]) (rest := []) (n := 3) (d := 1) ⟨hx, hb, hml, hown, hts⟩ (c_X6_tellClocks l E D G a67 hq68 x1 r66 v101) wd_1176 wd_420 wd_421 wd_2 wd_422 (by decide +kernel) ⟨by rw [hR]; exact Nat.le_of_ble_eq_true rfl, by rw [hR]; exact Nat.le_of_ble_eq_true rfl⟩ hI hN hK hS (rc_6 hI hq68 List.not_mem_nil) rfl rfl hl.1 rfl (Nat.le_of_ble_eq_true rfl) dX11_set_50 ⟨Nat.zero_le _, Nat.zero_le _⟩ (fun H locs hI hS => ?_)
    refine lv_aload_n hx hb dX11_set_53 rfl (lv_at hl 1 rfl) ?_
    refine th_cVv (As := []) (rest := []) (n := 0) (d := 2) ⟨hx, hb, hml, hown, hts⟩ (c_X11_turnRiver l E D G h0 (n) hG0 ) wd_423 wd_425 wp_1 wd_1 wd_426 (by decide +kernel) ⟨by rw [hR]; exact Nat.le_of_ble_eq_true rfl, by rw [hR]; exact Nat.le_of_ble_eq_true rfl⟩ hI hN hK hS (rc_15 hI hG0 List.not_mem_nil) rfl rfl hl.1 rfl (Nat.le_of_ble_eq_true rfl) dX11_set_54 ⟨Nat.zero_le _, Nat.zero_le _⟩ (fun H locs hI hS => ?_)
    refine lv_aload_n hx hb dX11_set_57 rfl (lv_at hl 1 rfl) ?_
    refine lv_aload_n hx hb dX11_set_58 rfl (lv_at hl 1 rfl) ?_
    obtain ⟨a105, a109, a111, a113, a115, a117, a119, a121, a123, a125, a127, w129, w132, w133, w134, w135, hO, hq106, ⟨m108, hq107⟩, hq110, hq112, hq114, hq116, hq118, hq120, hq122, hq124, hq126, hq128, ⟨k130, k131⟩⟩ := op_15 hI hG0 List.not_mem_nil
    have hI := th_I.weak (a := h0) hI
    refine th_get hx hb hts inT11 hown hK hO rfl 11 (by decide) (hts _ (tb_c wd_356)) rfl rfl dX11_set_59 ?_
    refine lv_iconst (v := 0) hx hb dX11_set_62 (by decide) ?_
    have hI := th_I.close hI hG0 hO (ok_15 hq106 ⟨_, hq107⟩ hq110 hq112 hq114 hq116 hq118 hq120 hq122 hq124 hq126 hq128 ⟨by omega, by omega⟩)
    refine th_cVi (As := [.int 0]) (rest := [.ref h0]) (n := 1) (d := 0) ⟨hx, hb, hml, hown, hts⟩ (c_X10_tuned l E D G a127 hq128 0) wd_1168 wd_1169 wd_1170 wd_12 wd_1171 (by decide +kernel) ⟨by rw [hR]; exact Nat.le_of_ble_eq_true rfl, by rw [hR]; exact Nat.le_of_ble_eq_true rfl⟩ hI hN hK hS (rc_14 hI hq128 List.not_mem_nil) rfl rfl hl.1 rfl (Nat.le_of_ble_eq_true rfl) dX11_set_63 ⟨Nat.zero_le _, Nat.zero_le _⟩ (fun r136 H locs hp hI hS => ?_)
    refine th_cVi (As := [.int r136]) (rest := []) (n := 1) (d := 0) ⟨hx, hb, hml, hown, hts⟩ (c_X11_accept l E D G h0 (n) hG0 r136) wd_447 wd_449 wp_3 wd_1 wd_450 (by decide +kernel) ⟨by rw [hR]; exact Nat.le_of_ble_eq_true rfl, by rw [hR]; exact Nat.le_of_ble_eq_true rfl⟩ hI hN hK hS (rc_15 hI hG0 List.not_mem_nil) rfl rfl hl.1 rfl (Nat.le_of_ble_eq_true rfl) dX11_set_66 ⟨Nat.zero_le _, Nat.zero_le _⟩ (fun r137 H locs hp hI hS => ?_)
    have hp := hp.symm
    subst hp
    have hpost : True := trivial
    rw [hQ]
    exact W.iret (v := r136) hx hb hr (fun t ht hW => ⟨⟨r136, (), rfl, hpost, by rw [ht]; exact hI, hN.warm hW, va_K.moved hW.alike hK⟩, hS.F ht⟩) hS.2.2 dX11_set_69
  · skip
    try simp only [rg, not_and, Int.not_le] at hp
    have hp138 := hp
    refine lv_if_ne (tgt := 14) hx hb dX11_set_4 (by decide) (fun c => absurd c (by decide)) (fun _ => ?_)
    refine lv_aload_n hx hb dX11_set_7 rfl (lv_at hl 0 rfl) ?_
    refine lv_bipush (v := (-2)) hx hb dX11_set_8 (by decide) ?_
    refine th_cVi (As := [.int (-2)]) (rest := []) (n := 1) (d := 0) ⟨hx, hb, hml, hown, hts⟩ (c_X11_refuse l E D G h0 (n) hG0 (-2)) wd_407 wd_409 wp_0 wd_1 wd_410 (by decide +kernel) ⟨by rw [hR]; exact Nat.le_of_ble_eq_true rfl, by rw [hR]; exact Nat.le_of_ble_eq_true rfl⟩ hI hN hK hS (rc_15 hI hG0 List.not_mem_nil) rfl rfl hl.1 rfl (Nat.le_of_ble_eq_true rfl) dX11_set_10 ⟨Nat.zero_le _, Nat.zero_le _⟩ (fun r139 H locs hp hI hS => ?_)
    have hp := hp.symm
    subst hp
    have hpost : True := trivial
    rw [hQ]
    exact W.iret (v := (-2)) hx hb hr (fun t ht hW => ⟨⟨(-2), (), rfl, hpost, by rw [ht]; exact hI, hN.warm hW, va_K.moved hW.alike hK⟩, hS.F ht⟩) hS.2.2 dX11_set_13
theorem dX11_week_0 : decode cX11_week 0 = .ok (.iload_n 1, 1) := by decide +kernel
theorem dX11_week_1 : decode cX11_week 1 = .ok (.ifCond .lt 20, 3) := by decide +kernel
theorem dX11_week_4 : decode cX11_week 4 = .ok (.iload_n 1, 1) := by decide +kernel
theorem dX11_week_5 : decode cX11_week 5 = .ok (.ldc_w 337, 3) := by decide +kernel
theorem dX11_week_8 : decode cX11_week 8 = .ok (.if_icmp .gt 13, 3) := by decide +kernel
theorem dX11_week_11 : decode cX11_week 11 = .ok (.iload_n 2, 1) := by decide +kernel
theorem dX11_week_12 : decode cX11_week 12 = .ok (.ifCond .lt 9, 3) := by decide +kernel
theorem dX11_week_15 : decode cX11_week 15 = .ok (.iload_n 2, 1) := by decide +kernel
theorem dX11_week_16 : decode cX11_week 16 = .ok (.bipush 100, 2) := by decide +kernel
theorem dX11_week_18 : decode cX11_week 18 = .ok (.if_icmp .le 9, 3) := by decide +kernel
theorem dX11_week_21 : decode cX11_week 21 = .ok (.aload_n 0, 1) := by decide +kernel
theorem dX11_week_22 : decode cX11_week 22 = .ok (.iconst (-1), 1) := by decide +kernel
theorem dX11_week_23 : decode cX11_week 23 = .ok (.invokevirtual 113, 3) := by decide +kernel
theorem dX11_week_26 : decode cX11_week 26 = .ok (.ireturn, 1) := by decide +kernel
theorem dX11_week_27 : decode cX11_week 27 = .ok (.aload_n 0, 1) := by decide +kernel
theorem dX11_week_28 : decode cX11_week 28 = .ok (.iconst 1, 1) := by decide +kernel
theorem dX11_week_29 : decode cX11_week 29 = .ok (.putfield 102, 3) := by decide +kernel
theorem dX11_week_32 : decode cX11_week 32 = .ok (.aload_n 0, 1) := by decide +kernel
theorem dX11_week_33 : decode cX11_week 33 = .ok (.aload_n 0, 1) := by decide +kernel
theorem dX11_week_34 : decode cX11_week 34 = .ok (.getfield 51, 3) := by decide +kernel
theorem dX11_week_37 : decode cX11_week 37 = .ok (.iload_n 1, 1) := by decide +kernel
theorem dX11_week_38 : decode cX11_week 38 = .ok (.iload_n 2, 1) := by decide +kernel
theorem dX11_week_39 : decode cX11_week 39 = .ok (.aload_n 0, 1) := by decide +kernel
theorem dX11_week_40 : decode cX11_week 40 = .ok (.getfield 27, 3) := by decide +kernel
theorem dX11_week_43 : decode cX11_week 43 = .ok (.invokevirtual 338, 3) := by decide +kernel
theorem dX11_week_46 : decode cX11_week 46 = .ok (.invokevirtual 127, 3) := by decide +kernel
theorem dX11_week_49 : decode cX11_week 49 = .ok (.ireturn, 1) := by decide +kernel
set_option maxHeartbeats 4000000 in
set_option maxRecDepth 100000 in
theorem c_X11_week (l : Launch) (E : Nat → ClassId) (D : va_G) (G : th_G) (h0 n : Nat) (hG0 : G h0 = some (15, n)) (x1 x2 : Int32) : Met l yX11_week (tb (.code yX11_week cX11_week 3 (some .int))) (rm 8) (va_Pc [.ref h0, .int x1, .int x2] (th_P E D G)) (QI E D G (fun r => True)) 0 0 (th_A G) := by
  refine Met.ofW (cc := cX11_week) (maxL := 3) (ret := (some .int)) (by decide) rfl ?_
  intro p e s m args below meth c s₁ B hml hv
  obtain ⟨hav, hI, hN, hK⟩ := hv
  have hx := B.exec
  have hb := B.bytes
  have hr := B.returns
  have hts := atoms_spec (ws := tb (.code yX11_week cX11_week 3 (some .int))) B.pre
  have hown : s.vm.findClass RX11 = some m.cls := findClass_of_methodNamed B.named
  have hlocks := B.notSynchronized
  have hS : va_S (th_A G) s.heap s.heap [] := va_S.rf
  have hl := lv_entry ([.ref h0, .int x1, .int x2]) (n := 3) (Nat.le_of_ble_eq_true rfl)
  rw [show entryFrame m args 3 = entryFrame m ([.ref h0, .int x1, .int x2] : List Value).toArray 3 from by rw [hav], lg_entry_eq]
  generalize (lg_sl ([.ref h0, .int x1, .int x2]) ++ List.replicate (3 - (lg_sl ([.ref h0, .int x1, .int x2])).length) Slot.unset).toArray = ls at hl ⊢
  have hl : lv_has ls 3 [(0, .ref h0), (1, .int x1), (2, .int x2)] := hl
  generalize hR : (headSpec (tb (.code yX11_week cX11_week 3 (some .int))) (rm 8)).room = R
  have hR := hR.symm
  generalize hQ : MQ below (QI E D G (fun r => True)) args s 0 0 (th_A G) = QF
  have hQ := hQ.symm
  have J_21 : ∀ (H : Heap) (locs : List Loc) (ls : Array Slot) , lv_has ls 3 [(0, .ref h0), (1, .int x1), (2, .int x2)] → th_I (okC E) D G [] H → va_S (th_A G) s.heap H locs → W p l e R s m args below meth c H locs 0 0 QF (F0 m 21 ls []) := by
    intro H locs ls  hl  hI hS
    refine lv_aload_n hx hb dX11_week_21 rfl (lv_at hl 0 rfl) ?_
    refine lv_iconst (v := (-1)) hx hb dX11_week_22 (by decide) ?_
    refine th_cVi (As := [.int (-1)]) (rest := []) (n := 1) (d := 0) ⟨hx, hb, hml, hown, hts⟩ (c_X11_refuse l E D G h0 (n) hG0 (-1)) wd_407 wd_409 wp_0 wd_1 wd_410 (by decide +kernel) ⟨by rw [hR]; exact Nat.le_of_ble_eq_true rfl, by rw [hR]; exact Nat.le_of_ble_eq_true rfl⟩ hI hN hK hS (rc_15 hI hG0 List.not_mem_nil) rfl rfl hl.1 rfl (Nat.le_of_ble_eq_true rfl) dX11_week_23 ⟨Nat.zero_le _, Nat.zero_le _⟩ (fun r400 H locs hp hI hS => ?_)
    have hp := hp.symm
    subst hp
    have hpost : True := trivial
    rw [hQ]
    exact W.iret (v := (-1)) hx hb hr (fun t ht hW => ⟨⟨(-1), (), rfl, hpost, by rw [ht]; exact hI, hN.warm hW, va_K.moved hW.alike hK⟩, hS.F ht⟩) hS.2.2 dX11_week_26
  refine lv_iload_n hx hb dX11_week_0 rfl (lv_at hl 1 rfl) ?_
  have k401 := iv_lo x1
  have k402 := iv_hi x1
  refine lv_if_lt (tgt := 21) hx hb dX11_week_1 (by decide) (fun c403 => ?_) (fun c403 => ?_)
  · skip
    have k404 := iv_lt (X := x1.toInt) (Y := (0)) rfl (by decide) c403
    exact J_21 s.heap [] ls  (lv_sub hl [0, 1, 2] rfl)  hI hS
  · skip
    have k405 := iv_nlt (X := x1.toInt) (Y := (0)) rfl (by decide) c403
    refine lv_iload_n hx hb dX11_week_4 rfl (lv_at hl 1 rfl) ?_
    refine lv_ldcw hx hb hown (hts _ (tb_c wd_1181)) dX11_week_5 ?_
    refine lv_icmp_gt (tgt := 21) hx hb dX11_week_8 (by decide) (fun c406 => ?_) (fun c406 => ?_)
    · skip
      have k407 := iv_lt (X := (1000000)) (Y := x1.toInt) (by decide) rfl c406
      exact J_21 s.heap [] ls  (lv_sub hl [0, 1, 2] rfl)  hI hS
    · skip
      have k408 := iv_nlt (X := (1000000)) (Y := x1.toInt) (by decide) rfl c406
      refine lv_iload_n hx hb dX11_week_11 rfl (lv_at hl 2 rfl) ?_
      have k409 := iv_lo x2
      have k410 := iv_hi x2
      refine lv_if_lt (tgt := 21) hx hb dX11_week_12 (by decide) (fun c411 => ?_) (fun c411 => ?_)
      · skip
        have k412 := iv_lt (X := x2.toInt) (Y := (0)) rfl (by decide) c411
        exact J_21 s.heap [] ls  (lv_sub hl [0, 1, 2] rfl)  hI hS
      · skip
        have k413 := iv_nlt (X := x2.toInt) (Y := (0)) rfl (by decide) c411
        refine lv_iload_n hx hb dX11_week_15 rfl (lv_at hl 2 rfl) ?_
        refine lv_bipush (v := 100) hx hb dX11_week_16 (by decide) ?_
        refine lv_icmp_le (tgt := 27) hx hb dX11_week_18 (by decide) (fun c414 => ?_) (fun c414 => ?_)
        · skip
          have k415 := iv_le (X := x2.toInt) (Y := (100)) rfl (by decide) c414
          refine lv_aload_n hx hb dX11_week_27 rfl (lv_at hl 0 rfl) ?_
          refine lv_iconst (v := 1) hx hb dX11_week_28 (by decide) ?_
          obtain ⟨a416, a420, a422, a424, a426, a428, a430, a432, a434, a436, a438, w440, w443, w444, w445, w446, hO, hq417, ⟨m419, hq418⟩, hq421, hq423, hq425, hq427, hq429, hq431, hq433, hq435, hq437, hq439, ⟨k441, k442⟩⟩ := op_15 hI hG0 List.not_mem_nil
          have hI := th_I.weak (a := h0) hI
          refine th_put (ty := .boolean) hx hb hts inT11 tyX11 tyX11_ok nmX11 hown hK hO hS ⟨_, hG0⟩ rfl 16 (by decide) (hts _ (tb_c wd_361)) rfl rfl (by decide +kernel) (by decide) rfl (Nat.le_of_ble_eq_true rfl) dX11_week_29 (fun H locs hO oq hS => ?_)
          have hI := th_I.moved hI oq
          have hO : va_at D vwCl (h0, .inr (11, [.ref a416, .ref n, .ref a420, .ref a422, .ref a424, .ref a426, .ref a428, .ref a430, .ref a432, .ref a434, .ref a436, .ref a438, .int w440, .int w443, .int w444, .int w445, .int 1])) H := hO
          refine lv_aload_n hx hb dX11_week_32 rfl (lv_at hl 0 rfl) ?_
          refine lv_aload_n hx hb dX11_week_33 rfl (lv_at hl 0 rfl) ?_
          refine th_get hx hb hts inT11 hown hK hO rfl 7 (by decide) (hts _ (tb_c wd_352)) rfl rfl dX11_week_34 ?_
          refine lv_iload_n hx hb dX11_week_37 rfl (lv_at hl 1 rfl) ?_
          refine lv_iload_n hx hb dX11_week_38 rfl (lv_at hl 2 rfl) ?_
          refine lv_aload_n hx hb dX11_week_39 rfl (lv_at hl 0 rfl) ?_
          refine th_get hx hb hts inT11 hown hK hO rfl 4 (by decide) (hts _ (tb_c wd_349)) rfl rfl dX11_week_40 ?_
          have hI := th_I.close hI hG0 hO (ok_15 hq417 ⟨_, hq418⟩ hq421 hq423 hq425 hq427 hq429 hq431 hq433 hq435 hq437 hq439 ⟨by omega, by omega⟩)
          refine th_cVi (As := [.int x1, .int x2, .ref a424]) (rest := [.ref h0]) (n := 3) (d := 7) ⟨hx, hb, hml, hown, hts⟩ (c_X9_drawWeek l E D G a430 hq431 x1 x2 a424 hq425) wd_1182 wd_1183 wd_1184 wd_8 wd_1185 (by decide +kernel) ⟨by rw [hR]; exact Nat.le_of_ble_eq_true rfl, by rw [hR]; exact Nat.le_of_ble_eq_true rfl⟩ hI hN hK hS (rc_10 hI hq431 List.not_mem_nil) rfl rfl hl.1 rfl (Nat.le_of_ble_eq_true rfl) dX11_week_43 ⟨Nat.zero_le _, Nat.zero_le _⟩ (fun r447 H locs hp hI hS => ?_)
          refine th_cVi (As := [.int r447]) (rest := []) (n := 1) (d := 0) ⟨hx, hb, hml, hown, hts⟩ (c_X11_accept l E D G h0 (n) hG0 r447) wd_447 wd_449 wp_3 wd_1 wd_450 (by decide +kernel) ⟨by rw [hR]; exact Nat.le_of_ble_eq_true rfl, by rw [hR]; exact Nat.le_of_ble_eq_true rfl⟩ hI hN hK hS (rc_15 hI hG0 List.not_mem_nil) rfl rfl hl.1 rfl (Nat.le_of_ble_eq_true rfl) dX11_week_46 ⟨Nat.zero_le _, Nat.zero_le _⟩ (fun r448 H locs hp hI hS => ?_)
          have hp := hp.symm
          subst hp
          have hpost : True := trivial
          rw [hQ]
          exact W.iret (v := r447) hx hb hr (fun t ht hW => ⟨⟨r447, (), rfl, hpost, by rw [ht]; exact hI, hN.warm hW, va_K.moved hW.alike hK⟩, hS.F ht⟩) hS.2.2 dX11_week_49
        · skip
          have k449 := iv_nle (X := x2.toInt) (Y := (100)) rfl (by decide) c414
          exact J_21 s.heap [] ls  (lv_sub hl [0, 1, 2] rfl)  hI hS
theorem dX11_drawn_0 : decode cX11_drawn 0 = .ok (.aload_n 0, 1) := by decide +kernel
theorem dX11_drawn_1 : decode cX11_drawn 1 = .ok (.getfield 102, 3) := by decide +kernel
theorem dX11_drawn_4 : decode cX11_drawn 4 = .ok (.ifCond .eq 19, 3) := by decide +kernel
theorem dX11_drawn_7 : decode cX11_drawn 7 = .ok (.iload_n 1, 1) := by decide +kernel
theorem dX11_drawn_8 : decode cX11_drawn 8 = .ok (.invokestatic 106, 3) := by decide +kernel
theorem dX11_drawn_11 : decode cX11_drawn 11 = .ok (.ifCond .eq 12, 3) := by decide +kernel
theorem dX11_drawn_14 : decode cX11_drawn 14 = .ok (.aload_n 0, 1) := by decide +kernel
theorem dX11_drawn_15 : decode cX11_drawn 15 = .ok (.getfield 27, 3) := by decide +kernel
theorem dX11_drawn_18 : decode cX11_drawn 18 = .ok (.iload_n 1, 1) := by decide +kernel
theorem dX11_drawn_19 : decode cX11_drawn 19 = .ok (.iaload, 1) := by decide +kernel
theorem dX11_drawn_20 : decode cX11_drawn 20 = .ok (.goto 4, 3) := by decide +kernel
theorem dX11_drawn_23 : decode cX11_drawn 23 = .ok (.iconst (-1), 1) := by decide +kernel
theorem dX11_drawn_24 : decode cX11_drawn 24 = .ok (.ireturn, 1) := by decide +kernel
set_option maxHeartbeats 4000000 in
set_option maxRecDepth 100000 in
theorem c_X11_drawn (l : Launch) (E : Nat → ClassId) (D : va_G) (G : th_G) (h0 n : Nat) (hG0 : G h0 = some (15, n)) (x1 : Int32) : Met l yX11_drawn (tb (.code yX11_drawn cX11_drawn 2 (some .int))) (rm 1) (va_Pc [.ref h0, .int x1] (th_P E D G)) (QI E D G (fun r => True)) 0 0 (th_A G) := by
  refine Met.ofW (cc := cX11_drawn) (maxL := 2) (ret := (some .int)) (by decide) rfl ?_
  intro p e s m args below meth c s₁ B hml hv
  obtain ⟨hav, hI, hN, hK⟩ := hv
  have hx := B.exec
  have hb := B.bytes
  have hr := B.returns
  have hts := atoms_spec (ws := tb (.code yX11_drawn cX11_drawn 2 (some .int))) B.pre
  have hown : s.vm.findClass RX11 = some m.cls := findClass_of_methodNamed B.named
  have hlocks := B.notSynchronized
  have hS : va_S (th_A G) s.heap s.heap [] := va_S.rf
  have hl := lv_entry ([.ref h0, .int x1]) (n := 2) (Nat.le_of_ble_eq_true rfl)
  rw [show entryFrame m args 2 = entryFrame m ([.ref h0, .int x1] : List Value).toArray 2 from by rw [hav], lg_entry_eq]
  generalize (lg_sl ([.ref h0, .int x1]) ++ List.replicate (2 - (lg_sl ([.ref h0, .int x1])).length) Slot.unset).toArray = ls at hl ⊢
  have hl : lv_has ls 2 [(0, .ref h0), (1, .int x1)] := hl
  generalize hR : (headSpec (tb (.code yX11_drawn cX11_drawn 2 (some .int))) (rm 1)).room = R
  have hR := hR.symm
  generalize hQ : MQ below (QI E D G (fun r => True)) args s 0 0 (th_A G) = QF
  have hQ := hQ.symm
  refine lv_aload_n hx hb dX11_drawn_0 rfl (lv_at hl 0 rfl) ?_
  obtain ⟨a1, a5, a7, a9, a11, a13, a15, a17, a19, a21, a23, w25, w28, w29, w30, w31, hO, hq2, ⟨m4, hq3⟩, hq6, hq8, hq10, hq12, hq14, hq16, hq18, hq20, hq22, hq24, ⟨k26, k27⟩⟩ := op_15 hI hG0 List.not_mem_nil
  have hI := th_I.weak (a := h0) hI
  refine th_get hx hb hts inT11 hown hK hO rfl 16 (by decide) (hts _ (tb_c wd_361)) rfl rfl dX11_drawn_1 ?_
  have k32 := iv_lo w31
  have k33 := iv_hi w31
  refine lv_if_eq (tgt := 23) hx hb dX11_drawn_4 (by decide) (fun c34 => ?_) (fun c34 => ?_)
  · skip
    have k35 := iv_eq (X := w31.toInt) (Y := (0)) rfl (by decide) c34
    refine lv_iconst (v := (-1)) hx hb dX11_drawn_23 (by decide) ?_
    have hI := th_I.close hI hG0 hO (ok_15 hq2 ⟨_, hq3⟩ hq6 hq8 hq10 hq12 hq14 hq16 hq18 hq20 hq22 hq24 ⟨by omega, by omega⟩)
    have hpost : True := trivial
    rw [hQ]
    exact W.iret (v := (-1)) hx hb hr (fun t ht hW => ⟨⟨(-1), (), rfl, hpost, by rw [ht]; exact hI, hN.warm hW, va_K.moved hW.alike hK⟩, hS.F ht⟩) hS.2.2 dX11_drawn_24
  · skip
    have k36 := iv_ne (X := w31.toInt) (Y := (0)) rfl (by decide) c34
    refine lv_iload_n hx hb dX11_drawn_7 rfl (lv_at hl 1 rfl) ?_
    refine th_cSs (As := [.int x1]) (rest := []) (n := 1) (d := 0) ⟨hx, hb, hml, hown, hts⟩ (c_X11_isCell l s.heap x1) wd_401 wd_402 wd_1 wd_403 (by decide +kernel) ⟨by rw [hR]; exact Nat.le_of_ble_eq_true rfl, by rw [hR]; exact Nat.le_of_ble_eq_true rfl⟩ hN hS rfl hl.1 rfl (Nat.le_of_ble_eq_true rfl) dX11_drawn_8 ⟨Nat.zero_le _, Nat.zero_le _⟩ (fun r37 locs hp hS => ?_)
    rcases hp with ⟨rfl, hp⟩ | ⟨rfl, hp⟩
    · skip
      try simp only [rg, not_and, Int.not_le] at hp
      have hp38 := hp
      refine lv_if_eq (tgt := 23) hx hb dX11_drawn_11 (by decide) (fun c => absurd c (by decide)) (fun _ => ?_)
      refine lv_aload_n hx hb dX11_drawn_14 rfl (lv_at hl 0 rfl) ?_
      refine th_get hx hb hts inT11 hown hK hO rfl 4 (by decide) (hts _ (tb_c wd_349)) rfl rfl dX11_drawn_15 ?_
      refine lv_iload_n hx hb dX11_drawn_18 rfl (lv_at hl 1 rfl) ?_
      obtain ⟨_, hA39⟩ := op_0 hI hq10 (th_ne hG0 hq10 (show (15 : Nat) ≠ 0 by decide))
      refine th_iald hx hb hK hA39 0 rfl (iv_in (X := x1.toInt) rfl (by omega) (by omega)) dX11_drawn_19 (fun v40 _ => ?_)
      refine lv_goto (tgt := 24) hx hb dX11_drawn_20 (by decide) ?_
      have hI := th_I.close hI hG0 hO (ok_15 hq2 ⟨_, hq3⟩ hq6 hq8 hq10 hq12 hq14 hq16 hq18 hq20 hq22 hq24 ⟨by omega, by omega⟩)
      have hpost : True := trivial
      rw [hQ]
      exact W.iret (v := v40) hx hb hr (fun t ht hW => ⟨⟨v40, (), rfl, hpost, by rw [ht]; exact hI, hN.warm hW, va_K.moved hW.alike hK⟩, hS.F ht⟩) hS.2.2 dX11_drawn_24
    · skip
      try simp only [rg, not_and, Int.not_le] at hp
      have hp41 := hp
      refine lv_if_eq (tgt := 23) hx hb dX11_drawn_11 (by decide) (fun _ => ?_) (fun c => absurd c (by decide))
      refine lv_iconst (v := (-1)) hx hb dX11_drawn_23 (by decide) ?_
      have hI := th_I.close hI hG0 hO (ok_15 hq2 ⟨_, hq3⟩ hq6 hq8 hq10 hq12 hq14 hq16 hq18 hq20 hq22 hq24 ⟨by omega, by omega⟩)
      have hpost : True := trivial
      rw [hQ]
      exact W.iret (v := (-1)) hx hb hr (fun t ht hW => ⟨⟨(-1), (), rfl, hpost, by rw [ht]; exact hI, hN.warm hW, va_K.moved hW.alike hK⟩, hS.F ht⟩) hS.2.2 dX11_drawn_24
theorem dX11_count_0 : decode cX11_count 0 = .ok (.iload_n 1, 1) := by decide +kernel
theorem dX11_count_1 : decode cX11_count 1 = .ok (.bipush 10, 2) := by decide +kernel
theorem dX11_count_3 : decode cX11_count 3 = .ok (.if_icmp .lt 19, 3) := by decide +kernel
theorem dX11_count_6 : decode cX11_count 6 = .ok (.iload_n 1, 1) := by decide +kernel
theorem dX11_count_7 : decode cX11_count 7 = .ok (.bipush 14, 2) := by decide +kernel
theorem dX11_count_9 : decode cX11_count 9 = .ok (.if_icmp .gt 13, 3) := by decide +kernel
theorem dX11_count_12 : decode cX11_count 12 = .ok (.aload_n 0, 1) := by decide +kernel
theorem dX11_count_13 : decode cX11_count 13 = .ok (.getfield 24, 3) := by decide +kernel
theorem dX11_count_16 : decode cX11_count 16 = .ok (.iload_n 1, 1) := by decide +kernel
theorem dX11_count_17 : decode cX11_count 17 = .ok (.bipush 10, 2) := by decide +kernel
theorem dX11_count_19 : decode cX11_count 19 = .ok (.isub, 1) := by decide +kernel
theorem dX11_count_20 : decode cX11_count 20 = .ok (.iaload, 1) := by decide +kernel
theorem dX11_count_21 : decode cX11_count 21 = .ok (.ireturn, 1) := by decide +kernel
theorem dX11_count_22 : decode cX11_count 22 = .ok (.iload_n 1, 1) := by decide +kernel
theorem dX11_count_23 : decode cX11_count 23 = .ok (.tableswitch 183 0 15 #[77, 85, 93, 104, 115, 126, 137, 148, 159, 170, 183, 183, 183, 183, 183, 175], 77) := by decide +kernel
theorem dX11_count_100 : decode cX11_count 100 = .ok (.aload_n 0, 1) := by decide +kernel
theorem dX11_count_101 : decode cX11_count 101 = .ok (.getfield 12, 3) := by decide +kernel
theorem dX11_count_104 : decode cX11_count 104 = .ok (.getfield 194, 3) := by decide +kernel
theorem dX11_count_107 : decode cX11_count 107 = .ok (.ireturn, 1) := by decide +kernel
theorem dX11_count_108 : decode cX11_count 108 = .ok (.aload_n 0, 1) := by decide +kernel
theorem dX11_count_109 : decode cX11_count 109 = .ok (.getfield 12, 3) := by decide +kernel
theorem dX11_count_112 : decode cX11_count 112 = .ok (.invokevirtual 345, 3) := by decide +kernel
theorem dX11_count_115 : decode cX11_count 115 = .ok (.ireturn, 1) := by decide +kernel
theorem dX11_count_116 : decode cX11_count 116 = .ok (.aload_n 0, 1) := by decide +kernel
theorem dX11_count_117 : decode cX11_count 117 = .ok (.getfield 12, 3) := by decide +kernel
theorem dX11_count_120 : decode cX11_count 120 = .ok (.getfield 145, 3) := by decide +kernel
theorem dX11_count_123 : decode cX11_count 123 = .ok (.invokevirtual 166, 3) := by decide +kernel
theorem dX11_count_126 : decode cX11_count 126 = .ok (.ireturn, 1) := by decide +kernel
theorem dX11_count_127 : decode cX11_count 127 = .ok (.aload_n 0, 1) := by decide +kernel
theorem dX11_count_128 : decode cX11_count 128 = .ok (.getfield 12, 3) := by decide +kernel
theorem dX11_count_131 : decode cX11_count 131 = .ok (.getfield 170, 3) := by decide +kernel
theorem dX11_count_134 : decode cX11_count 134 = .ok (.invokevirtual 166, 3) := by decide +kernel
theorem dX11_count_137 : decode cX11_count 137 = .ok (.ireturn, 1) := by decide +kernel
theorem dX11_count_138 : decode cX11_count 138 = .ok (.aload_n 0, 1) := by decide +kernel
theorem dX11_count_139 : decode cX11_count 139 = .ok (.getfield 12, 3) := by decide +kernel
theorem dX11_count_142 : decode cX11_count 142 = .ok (.getfield 246, 3) := by decide +kernel
theorem dX11_count_145 : decode cX11_count 145 = .ok (.invokevirtual 166, 3) := by decide +kernel
theorem dX11_count_148 : decode cX11_count 148 = .ok (.ireturn, 1) := by decide +kernel
theorem dX11_count_149 : decode cX11_count 149 = .ok (.aload_n 0, 1) := by decide +kernel
theorem dX11_count_150 : decode cX11_count 150 = .ok (.getfield 12, 3) := by decide +kernel
theorem dX11_count_153 : decode cX11_count 153 = .ok (.getfield 266, 3) := by decide +kernel
theorem dX11_count_156 : decode cX11_count 156 = .ok (.invokevirtual 166, 3) := by decide +kernel
theorem dX11_count_159 : decode cX11_count 159 = .ok (.ireturn, 1) := by decide +kernel
theorem dX11_count_160 : decode cX11_count 160 = .ok (.aload_n 0, 1) := by decide +kernel
theorem dX11_count_161 : decode cX11_count 161 = .ok (.getfield 12, 3) := by decide +kernel
theorem dX11_count_164 : decode cX11_count 164 = .ok (.getfield 292, 3) := by decide +kernel
theorem dX11_count_167 : decode cX11_count 167 = .ok (.invokevirtual 166, 3) := by decide +kernel
theorem dX11_count_170 : decode cX11_count 170 = .ok (.ireturn, 1) := by decide +kernel
theorem dX11_count_171 : decode cX11_count 171 = .ok (.aload_n 0, 1) := by decide +kernel
theorem dX11_count_172 : decode cX11_count 172 = .ok (.getfield 12, 3) := by decide +kernel
theorem dX11_count_175 : decode cX11_count 175 = .ok (.getfield 307, 3) := by decide +kernel
theorem dX11_count_178 : decode cX11_count 178 = .ok (.invokevirtual 166, 3) := by decide +kernel
theorem dX11_count_181 : decode cX11_count 181 = .ok (.ireturn, 1) := by decide +kernel
theorem dX11_count_182 : decode cX11_count 182 = .ok (.aload_n 0, 1) := by decide +kernel
theorem dX11_count_183 : decode cX11_count 183 = .ok (.getfield 12, 3) := by decide +kernel
theorem dX11_count_186 : decode cX11_count 186 = .ok (.getfield 322, 3) := by decide +kernel
theorem dX11_count_189 : decode cX11_count 189 = .ok (.invokevirtual 166, 3) := by decide +kernel
theorem dX11_count_192 : decode cX11_count 192 = .ok (.ireturn, 1) := by decide +kernel
theorem dX11_count_193 : decode cX11_count 193 = .ok (.aload_n 0, 1) := by decide +kernel
theorem dX11_count_194 : decode cX11_count 194 = .ok (.getfield 89, 3) := by decide +kernel
theorem dX11_count_197 : decode cX11_count 197 = .ok (.ireturn, 1) := by decide +kernel
theorem dX11_count_198 : decode cX11_count 198 = .ok (.aload_n 0, 1) := by decide +kernel
theorem dX11_count_199 : decode cX11_count 199 = .ok (.getfield 12, 3) := by decide +kernel
theorem dX11_count_202 : decode cX11_count 202 = .ok (.getfield 208, 3) := by decide +kernel
theorem dX11_count_205 : decode cX11_count 205 = .ok (.ireturn, 1) := by decide +kernel
theorem dX11_count_206 : decode cX11_count 206 = .ok (.iconst (-1), 1) := by decide +kernel
theorem dX11_count_207 : decode cX11_count 207 = .ok (.ireturn, 1) := by decide +kernel
set_option maxHeartbeats 4000000 in
set_option maxRecDepth 100000 in
theorem c_X11_count (l : Launch) (E : Nat → ClassId) (D : va_G) (G : th_G) (h0 n : Nat) (hG0 : G h0 = some (15, n)) (x1 : Int32) : Met l yX11_count (tb (.code yX11_count cX11_count 2 (some .int))) (rm 1) (va_Pc [.ref h0, .int x1] (th_P E D G)) (QI E D G (fun r => True)) 0 0 (th_A G) := by
  refine Met.ofW (cc := cX11_count) (maxL := 2) (ret := (some .int)) (by decide) rfl ?_
  intro p e s m args below meth c s₁ B hml hv
  obtain ⟨hav, hI, hN, hK⟩ := hv
  have hx := B.exec
  have hb := B.bytes
  have hr := B.returns
  have hts := atoms_spec (ws := tb (.code yX11_count cX11_count 2 (some .int))) B.pre
  have hown : s.vm.findClass RX11 = some m.cls := findClass_of_methodNamed B.named
  have hlocks := B.notSynchronized
  have hS : va_S (th_A G) s.heap s.heap [] := va_S.rf
  have hl := lv_entry ([.ref h0, .int x1]) (n := 2) (Nat.le_of_ble_eq_true rfl)
  rw [show entryFrame m args 2 = entryFrame m ([.ref h0, .int x1] : List Value).toArray 2 from by rw [hav], lg_entry_eq]
  generalize (lg_sl ([.ref h0, .int x1]) ++ List.replicate (2 - (lg_sl ([.ref h0, .int x1])).length) Slot.unset).toArray = ls at hl ⊢
  have hl : lv_has ls 2 [(0, .ref h0), (1, .int x1)] := hl
  generalize hR : (headSpec (tb (.code yX11_count cX11_count 2 (some .int))) (rm 1)).room = R
  have hR := hR.symm
  generalize hQ : MQ below (QI E D G (fun r => True)) args s 0 0 (th_A G) = QF
  have hQ := hQ.symm
  have J_22 : ∀ (H : Heap) (locs : List Loc) (ls : Array Slot) , lv_has ls 2 [(0, .ref h0), (1, .int x1)] → th_I (okC E) D G [] H → va_S (th_A G) s.heap H locs → W p l e R s m args below meth c H locs 0 0 QF (F0 m 22 ls []) := by
    intro H locs ls  hl  hI hS
    refine lv_iload_n hx hb dX11_count_22 rfl (lv_at hl 1 rfl) ?_
    have k5119 := iv_lo x1
    have k5120 := iv_hi x1
    by_cases c5121 : x1 = 0
    · skip
      have k5122 := iv_eq (X := x1.toInt) (Y := 0) rfl (by decide) c5121
      refine lv_tableIn (tgt := 100) (off := 77) hx hb dX11_count_23 (by omega) (by omega) (by rw [k5122]; rfl) (by decide) ?_
      refine lv_aload_n hx hb dX11_count_100 rfl (lv_at hl 0 rfl) ?_
      obtain ⟨a5123, a5127, a5129, a5131, a5133, a5135, a5137, a5139, a5141, a5143, a5145, w5147, w5150, w5151, w5152, w5153, hO, hq5124, ⟨m5126, hq5125⟩, hq5128, hq5130, hq5132, hq5134, hq5136, hq5138, hq5140, hq5142, hq5144, hq5146, ⟨k5148, k5149⟩⟩ := op_15 hI hG0 List.not_mem_nil
      have hI := th_I.weak (a := h0) hI
      refine th_get hx hb hts inT11 hown hK hO rfl 0 (by decide) (hts _ (tb_c wd_345)) rfl rfl dX11_count_101 ?_
      have hI := th_I.close hI hG0 hO (ok_15 hq5124 ⟨_, hq5125⟩ hq5128 hq5130 hq5132 hq5134 hq5136 hq5138 hq5140 hq5142 hq5144 hq5146 ⟨by omega, by omega⟩)
      obtain ⟨a5154, a5156, a5158, a5160, a5162, a5164, a5166, a5168, a5170, a5172, w5174, w5177, w5178, w5179, hO, hq5155, hq5157, hq5159, hq5161, hq5163, hq5165, hq5167, hq5169, hq5171, hq5173, ⟨k5175, k5176⟩⟩ := op_6 hI hq5124 List.not_mem_nil
      have hI := th_I.weak (a := a5123) hI
      refine th_getN hx hb hts inT6 hown hK hN hO rfl 10 (by decide) wn_83 rfl rfl dX11_count_104 ?_
      have hI := th_I.close hI hq5124 hO (ok_6 hq5155 hq5157 hq5159 hq5161 hq5163 hq5165 hq5167 hq5169 hq5171 hq5173 ⟨by omega, by omega⟩)
      have hpost : True := trivial
      rw [hQ]
      exact W.iret (v := w5174) hx hb hr (fun t ht hW => ⟨⟨w5174, (), rfl, hpost, by rw [ht]; exact hI, hN.warm hW, va_K.moved hW.alike hK⟩, hS.F ht⟩) hS.2.2 dX11_count_107
    have k5180 := iv_ne (X := x1.toInt) (Y := 0) rfl (by decide) c5121
    by_cases c5181 : x1 = 1
    · skip
      have k5182 := iv_eq (X := x1.toInt) (Y := 1) rfl (by decide) c5181
      refine lv_tableIn (tgt := 108) (off := 85) hx hb dX11_count_23 (by omega) (by omega) (by rw [k5182]; rfl) (by decide) ?_
      refine lv_aload_n hx hb dX11_count_108 rfl (lv_at hl 0 rfl) ?_
      obtain ⟨a5183, a5187, a5189, a5191, a5193, a5195, a5197, a5199, a5201, a5203, a5205, w5207, w5210, w5211, w5212, w5213, hO, hq5184, ⟨m5186, hq5185⟩, hq5188, hq5190, hq5192, hq5194, hq5196, hq5198, hq5200, hq5202, hq5204, hq5206, ⟨k5208, k5209⟩⟩ := op_15 hI hG0 List.not_mem_nil
      have hI := th_I.weak (a := h0) hI
      refine th_get hx hb hts inT11 hown hK hO rfl 0 (by decide) (hts _ (tb_c wd_345)) rfl rfl dX11_count_109 ?_
      have hI := th_I.close hI hG0 hO (ok_15 hq5184 ⟨_, hq5185⟩ hq5188 hq5190 hq5192 hq5194 hq5196 hq5198 hq5200 hq5202 hq5204 hq5206 ⟨by omega, by omega⟩)
      refine th_cVi (As := []) (rest := []) (n := 0) (d := 0) ⟨hx, hb, hml, hown, hts⟩ (c_X6_countStrikes l E D G a5183 hq5184 ) wd_1219 wd_1220 wd_1221 wd_2 wd_1222 (by decide +kernel) ⟨by rw [hR]; exact Nat.le_of_ble_eq_true rfl, by rw [hR]; exact Nat.le_of_ble_eq_true rfl⟩ hI hN hK hS (rc_6 hI hq5184 List.not_mem_nil) rfl rfl hl.1 rfl (Nat.le_of_ble_eq_true rfl) dX11_count_112 ⟨Nat.zero_le _, Nat.zero_le _⟩ (fun r5214 H locs hp hI hS => ?_)
      have hpost : True := trivial
      rw [hQ]
      exact W.iret (v := r5214) hx hb hr (fun t ht hW => ⟨⟨r5214, (), rfl, hpost, by rw [ht]; exact hI, hN.warm hW, va_K.moved hW.alike hK⟩, hS.F ht⟩) hS.2.2 dX11_count_115
    have k5215 := iv_ne (X := x1.toInt) (Y := 1) rfl (by decide) c5181
    by_cases c5216 : x1 = 2
    · skip
      have k5217 := iv_eq (X := x1.toInt) (Y := 2) rfl (by decide) c5216
      refine lv_tableIn (tgt := 116) (off := 93) hx hb dX11_count_23 (by omega) (by omega) (by rw [k5217]; rfl) (by decide) ?_
      refine lv_aload_n hx hb dX11_count_116 rfl (lv_at hl 0 rfl) ?_
      obtain ⟨a5218, a5222, a5224, a5226, a5228, a5230, a5232, a5234, a5236, a5238, a5240, w5242, w5245, w5246, w5247, w5248, hO, hq5219, ⟨m5221, hq5220⟩, hq5223, hq5225, hq5227, hq5229, hq5231, hq5233, hq5235, hq5237, hq5239, hq5241, ⟨k5243, k5244⟩⟩ := op_15 hI hG0 List.not_mem_nil
      have hI := th_I.weak (a := h0) hI
      refine th_get hx hb hts inT11 hown hK hO rfl 0 (by decide) (hts _ (tb_c wd_345)) rfl rfl dX11_count_117 ?_
      have hI := th_I.close hI hG0 hO (ok_15 hq5219 ⟨_, hq5220⟩ hq5223 hq5225 hq5227 hq5229 hq5231 hq5233 hq5235 hq5237 hq5239 hq5241 ⟨by omega, by omega⟩)
      obtain ⟨a5249, a5251, a5253, a5255, a5257, a5259, a5261, a5263, a5265, a5267, w5269, w5272, w5273, w5274, hO, hq5250, hq5252, hq5254, hq5256, hq5258, hq5260, hq5262, hq5264, hq5266, hq5268, ⟨k5270, k5271⟩⟩ := op_6 hI hq5219 List.not_mem_nil
      have hI := th_I.weak (a := a5218) hI
      refine th_getN hx hb hts inT6 hown hK hN hO rfl 2 (by decide) wn_61 rfl rfl dX11_count_120 ?_
      have hI := th_I.close hI hq5219 hO (ok_6 hq5250 hq5252 hq5254 hq5256 hq5258 hq5260 hq5262 hq5264 hq5266 hq5268 ⟨by omega, by omega⟩)
      obtain ⟨a5276, w5278, hO, hq5277, ⟨k5279, k5280⟩, k5281⟩ := op_4 hI hq5254 List.not_mem_nil
      have hI := th_I.weak (a := a5253) hI
      have k5282 : (nI 8).toInt = ((8 : Nat) : Int) := nI_toInt (by omega)
      refine th_cVs (As := []) (rest := []) (n := 0) (d := 0) ⟨hx, hb, hml, hown, hts⟩ (c_X4_size l E D H a5253 8 a5276 w5278 hO (by omega) (by omega) (by omega)) wd_506 wd_507 wd_508 wd_3 wd_509 (by decide +kernel) ⟨by rw [hR]; exact Nat.le_of_ble_eq_true rfl, by rw [hR]; exact Nat.le_of_ble_eq_true rfl⟩ hN hK hS ⟨_, hO⟩ rfl rfl hl.1 rfl (Nat.le_of_ble_eq_true rfl) dX11_count_123 ⟨Nat.zero_le _, Nat.zero_le _⟩ (fun r5275 locs hp hS => ?_)
      have hp := hp.symm
      subst hp
      have hI := th_I.close hI hq5254 hO (ok_4 hq5277 ⟨by omega, by omega⟩ (by omega))
      have hpost : True := trivial
      rw [hQ]
      exact W.iret (v := w5278) hx hb hr (fun t ht hW => ⟨⟨w5278, (), rfl, hpost, by rw [ht]; exact hI, hN.warm hW, va_K.moved hW.alike hK⟩, hS.F ht⟩) hS.2.2 dX11_count_126
    have k5283 := iv_ne (X := x1.toInt) (Y := 2) rfl (by decide) c5216
    by_cases c5284 : x1 = 3
    · skip
      have k5285 := iv_eq (X := x1.toInt) (Y := 3) rfl (by decide) c5284
      refine lv_tableIn (tgt := 127) (off := 104) hx hb dX11_count_23 (by omega) (by omega) (by rw [k5285]; rfl) (by decide) ?_
      refine lv_aload_n hx hb dX11_count_127 rfl (lv_at hl 0 rfl) ?_
      obtain ⟨a5286, a5290, a5292, a5294, a5296, a5298, a5300, a5302, a5304, a5306, a5308, w5310, w5313, w5314, w5315, w5316, hO, hq5287, ⟨m5289, hq5288⟩, hq5291, hq5293, hq5295, hq5297, hq5299, hq5301, hq5303, hq5305, hq5307, hq5309, ⟨k5311, k5312⟩⟩ := op_15 hI hG0 List.not_mem_nil
      have hI := th_I.weak (a := h0) hI
      refine th_get hx hb hts inT11 hown hK hO rfl 0 (by decide) (hts _ (tb_c wd_345)) rfl rfl dX11_count_128 ?_
      have hI := th_I.close hI hG0 hO (ok_15 hq5287 ⟨_, hq5288⟩ hq5291 hq5293 hq5295 hq5297 hq5299 hq5301 hq5303 hq5305 hq5307 hq5309 ⟨by omega, by omega⟩)
      obtain ⟨a5317, a5319, a5321, a5323, a5325, a5327, a5329, a5331, a5333, a5335, w5337, w5340, w5341, w5342, hO, hq5318, hq5320, hq5322, hq5324, hq5326, hq5328, hq5330, hq5332, hq5334, hq5336, ⟨k5338, k5339⟩⟩ := op_6 hI hq5287 List.not_mem_nil
      have hI := th_I.weak (a := a5286) hI
      refine th_getN hx hb hts inT6 hown hK hN hO rfl 3 (by decide) wn_64 rfl rfl dX11_count_131 ?_
      have hI := th_I.close hI hq5287 hO (ok_6 hq5318 hq5320 hq5322 hq5324 hq5326 hq5328 hq5330 hq5332 hq5334 hq5336 ⟨by omega, by omega⟩)
      obtain ⟨a5344, w5346, hO, hq5345, ⟨k5347, k5348⟩, k5349⟩ := op_4 hI hq5324 List.not_mem_nil
      have hI := th_I.weak (a := a5323) hI
      have k5350 : (nI 6).toInt = ((6 : Nat) : Int) := nI_toInt (by omega)
      refine th_cVs (As := []) (rest := []) (n := 0) (d := 0) ⟨hx, hb, hml, hown, hts⟩ (c_X4_size l E D H a5323 6 a5344 w5346 hO (by omega) (by omega) (by omega)) wd_506 wd_507 wd_508 wd_3 wd_509 (by decide +kernel) ⟨by rw [hR]; exact Nat.le_of_ble_eq_true rfl, by rw [hR]; exact Nat.le_of_ble_eq_true rfl⟩ hN hK hS ⟨_, hO⟩ rfl rfl hl.1 rfl (Nat.le_of_ble_eq_true rfl) dX11_count_134 ⟨Nat.zero_le _, Nat.zero_le _⟩ (fun r5343 locs hp hS => ?_)
      have hp := hp.symm
      subst hp
      have hI := th_I.close hI hq5324 hO (ok_4 hq5345 ⟨by omega, by omega⟩ (by omega))
      have hpost : True := trivial
      rw [hQ]
      exact W.iret (v := w5346) hx hb hr (fun t ht hW => ⟨⟨w5346, (), rfl, hpost, by rw [ht]; exact hI, hN.warm hW, va_K.moved hW.alike hK⟩, hS.F ht⟩) hS.2.2 dX11_count_137
    have k5351 := iv_ne (X := x1.toInt) (Y := 3) rfl (by decide) c5284
    by_cases c5352 : x1 = 4
    · skip
      have k5353 := iv_eq (X := x1.toInt) (Y := 4) rfl (by decide) c5352
      refine lv_tableIn (tgt := 138) (off := 115) hx hb dX11_count_23 (by omega) (by omega) (by rw [k5353]; rfl) (by decide) ?_
      refine lv_aload_n hx hb dX11_count_138 rfl (lv_at hl 0 rfl) ?_
      obtain ⟨a5354, a5358, a5360, a5362, a5364, a5366, a5368, a5370, a5372, a5374, a5376, w5378, w5381, w5382, w5383, w5384, hO, hq5355, ⟨m5357, hq5356⟩, hq5359, hq5361, hq5363, hq5365, hq5367, hq5369, hq5371, hq5373, hq5375, hq5377, ⟨k5379, k5380⟩⟩ := op_15 hI hG0 List.not_mem_nil
      have hI := th_I.weak (a := h0) hI
      refine th_get hx hb hts inT11 hown hK hO rfl 0 (by decide) (hts _ (tb_c wd_345)) rfl rfl dX11_count_139 ?_
      have hI := th_I.close hI hG0 hO (ok_15 hq5355 ⟨_, hq5356⟩ hq5359 hq5361 hq5363 hq5365 hq5367 hq5369 hq5371 hq5373 hq5375 hq5377 ⟨by omega, by omega⟩)
      obtain ⟨a5385, a5387, a5389, a5391, a5393, a5395, a5397, a5399, a5401, a5403, w5405, w5408, w5409, w5410, hO, hq5386, hq5388, hq5390, hq5392, hq5394, hq5396, hq5398, hq5400, hq5402, hq5404, ⟨k5406, k5407⟩⟩ := op_6 hI hq5355 List.not_mem_nil
      have hI := th_I.weak (a := a5354) hI
      refine th_getN hx hb hts inT6 hown hK hN hO rfl 4 (by decide) wn_68 rfl rfl dX11_count_142 ?_
      have hI := th_I.close hI hq5355 hO (ok_6 hq5386 hq5388 hq5390 hq5392 hq5394 hq5396 hq5398 hq5400 hq5402 hq5404 ⟨by omega, by omega⟩)
      obtain ⟨a5412, w5414, hO, hq5413, ⟨k5415, k5416⟩, k5417⟩ := op_4 hI hq5394 List.not_mem_nil
      have hI := th_I.weak (a := a5393) hI
      have k5418 : (nI 6).toInt = ((6 : Nat) : Int) := nI_toInt (by omega)
      refine th_cVs (As := []) (rest := []) (n := 0) (d := 0) ⟨hx, hb, hml, hown, hts⟩ (c_X4_size l E D H a5393 6 a5412 w5414 hO (by omega) (by omega) (by omega)) wd_506 wd_507 wd_508 wd_3 wd_509 (by decide +kernel) ⟨by rw [hR]; exact Nat.le_of_ble_eq_true rfl, by rw [hR]; exact Nat.le_of_ble_eq_true rfl⟩ hN hK hS ⟨_, hO⟩ rfl rfl hl.1 rfl (Nat.le_of_ble_eq_true rfl) dX11_count_145 ⟨Nat.zero_le _, Nat.zero_le _⟩ (fun r5411 locs hp hS => ?_)
      have hp := hp.symm
      subst hp
      have hI := th_I.close hI hq5394 hO (ok_4 hq5413 ⟨by omega, by omega⟩ (by omega))
      have hpost : True := trivial
      rw [hQ]
      exact W.iret (v := w5414) hx hb hr (fun t ht hW => ⟨⟨w5414, (), rfl, hpost, by rw [ht]; exact hI, hN.warm hW, va_K.moved hW.alike hK⟩, hS.F ht⟩) hS.2.2 dX11_count_148
    have k5419 := iv_ne (X := x1.toInt) (Y := 4) rfl (by decide) c5352
    by_cases c5420 : x1 = 5
    · skip
      have k5421 := iv_eq (X := x1.toInt) (Y := 5) rfl (by decide) c5420
      refine lv_tableIn (tgt := 149) (off := 126) hx hb dX11_count_23 (by omega) (by omega) (by rw [k5421]; rfl) (by decide) ?_
      refine lv_aload_n hx hb dX11_count_149 rfl (lv_at hl 0 rfl) ?_
      obtain ⟨a5422, a5426, a5428, a5430, a5432, a5434, a5436, a5438, a5440, a5442, a5444, w5446, w5449, w5450, w5451, w5452, hO, hq5423, ⟨m5425, hq5424⟩, hq5427, hq5429, hq5431, hq5433, hq5435, hq5437, hq5439, hq5441, hq5443, hq5445, ⟨k5447, k5448⟩⟩ := op_15 hI hG0 List.not_mem_nil
      have hI := th_I.weak (a := h0) hI
      refine th_get hx hb hts inT11 hown hK hO rfl 0 (by decide) (hts _ (tb_c wd_345)) rfl rfl dX11_count_150 ?_
      have hI := th_I.close hI hG0 hO (ok_15 hq5423 ⟨_, hq5424⟩ hq5427 hq5429 hq5431 hq5433 hq5435 hq5437 hq5439 hq5441 hq5443 hq5445 ⟨by omega, by omega⟩)
      obtain ⟨a5453, a5455, a5457, a5459, a5461, a5463, a5465, a5467, a5469, a5471, w5473, w5476, w5477, w5478, hO, hq5454, hq5456, hq5458, hq5460, hq5462, hq5464, hq5466, hq5468, hq5470, hq5472, ⟨k5474, k5475⟩⟩ := op_6 hI hq5423 List.not_mem_nil
      have hI := th_I.weak (a := a5422) hI
      refine th_getN hx hb hts inT6 hown hK hN hO rfl 5 (by decide) wn_71 rfl rfl dX11_count_153 ?_
      have hI := th_I.close hI hq5423 hO (ok_6 hq5454 hq5456 hq5458 hq5460 hq5462 hq5464 hq5466 hq5468 hq5470 hq5472 ⟨by omega, by omega⟩)
      obtain ⟨a5480, w5482, hO, hq5481, ⟨k5483, k5484⟩, k5485⟩ := op_4 hI hq5464 List.not_mem_nil
      have hI := th_I.weak (a := a5463) hI
      have k5486 : (nI 16).toInt = ((16 : Nat) : Int) := nI_toInt (by omega)
      refine th_cVs (As := []) (rest := []) (n := 0) (d := 0) ⟨hx, hb, hml, hown, hts⟩ (c_X4_size l E D H a5463 16 a5480 w5482 hO (by omega) (by omega) (by omega)) wd_506 wd_507 wd_508 wd_3 wd_509 (by decide +kernel) ⟨by rw [hR]; exact Nat.le_of_ble_eq_true rfl, by rw [hR]; exact Nat.le_of_ble_eq_true rfl⟩ hN hK hS ⟨_, hO⟩ rfl rfl hl.1 rfl (Nat.le_of_ble_eq_true rfl) dX11_count_156 ⟨Nat.zero_le _, Nat.zero_le _⟩ (fun r5479 locs hp hS => ?_)
      have hp := hp.symm
      subst hp
      have hI := th_I.close hI hq5464 hO (ok_4 hq5481 ⟨by omega, by omega⟩ (by omega))
      have hpost : True := trivial
      rw [hQ]
      exact W.iret (v := w5482) hx hb hr (fun t ht hW => ⟨⟨w5482, (), rfl, hpost, by rw [ht]; exact hI, hN.warm hW, va_K.moved hW.alike hK⟩, hS.F ht⟩) hS.2.2 dX11_count_159
    have k5487 := iv_ne (X := x1.toInt) (Y := 5) rfl (by decide) c5420
    by_cases c5488 : x1 = 6
    · skip
      have k5489 := iv_eq (X := x1.toInt) (Y := 6) rfl (by decide) c5488
      refine lv_tableIn (tgt := 160) (off := 137) hx hb dX11_count_23 (by omega) (by omega) (by rw [k5489]; rfl) (by decide) ?_
      refine lv_aload_n hx hb dX11_count_160 rfl (lv_at hl 0 rfl) ?_
      obtain ⟨a5490, a5494, a5496, a5498, a5500, a5502, a5504, a5506, a5508, a5510, a5512, w5514, w5517, w5518, w5519, w5520, hO, hq5491, ⟨m5493, hq5492⟩, hq5495, hq5497, hq5499, hq5501, hq5503, hq5505, hq5507, hq5509, hq5511, hq5513, ⟨k5515, k5516⟩⟩ := op_15 hI hG0 List.not_mem_nil
      have hI := th_I.weak (a := h0) hI
      refine th_get hx hb hts inT11 hown hK hO rfl 0 (by decide) (hts _ (tb_c wd_345)) rfl rfl dX11_count_161 ?_
      have hI := th_I.close hI hG0 hO (ok_15 hq5491 ⟨_, hq5492⟩ hq5495 hq5497 hq5499 hq5501 hq5503 hq5505 hq5507 hq5509 hq5511 hq5513 ⟨by omega, by omega⟩)
      obtain ⟨a5521, a5523, a5525, a5527, a5529, a5531, a5533, a5535, a5537, a5539, w5541, w5544, w5545, w5546, hO, hq5522, hq5524, hq5526, hq5528, hq5530, hq5532, hq5534, hq5536, hq5538, hq5540, ⟨k5542, k5543⟩⟩ := op_6 hI hq5491 List.not_mem_nil
      have hI := th_I.weak (a := a5490) hI
      refine th_getN hx hb hts inT6 hown hK hN hO rfl 6 (by decide) wn_74 rfl rfl dX11_count_164 ?_
      have hI := th_I.close hI hq5491 hO (ok_6 hq5522 hq5524 hq5526 hq5528 hq5530 hq5532 hq5534 hq5536 hq5538 hq5540 ⟨by omega, by omega⟩)
      obtain ⟨a5548, w5550, hO, hq5549, ⟨k5551, k5552⟩, k5553⟩ := op_4 hI hq5534 List.not_mem_nil
      have hI := th_I.weak (a := a5533) hI
      have k5554 : (nI 10).toInt = ((10 : Nat) : Int) := nI_toInt (by omega)
      refine th_cVs (As := []) (rest := []) (n := 0) (d := 0) ⟨hx, hb, hml, hown, hts⟩ (c_X4_size l E D H a5533 10 a5548 w5550 hO (by omega) (by omega) (by omega)) wd_506 wd_507 wd_508 wd_3 wd_509 (by decide +kernel) ⟨by rw [hR]; exact Nat.le_of_ble_eq_true rfl, by rw [hR]; exact Nat.le_of_ble_eq_true rfl⟩ hN hK hS ⟨_, hO⟩ rfl rfl hl.1 rfl (Nat.le_of_ble_eq_true rfl) dX11_count_167 ⟨Nat.zero_le _, Nat.zero_le _⟩ (fun r5547 locs hp hS => ?_)
      have hp := hp.symm
      subst hp
      have hI := th_I.close hI hq5534 hO (ok_4 hq5549 ⟨by omega, by omega⟩ (by omega))
      have hpost : True := trivial
      rw [hQ]
      exact W.iret (v := w5550) hx hb hr (fun t ht hW => ⟨⟨w5550, (), rfl, hpost, by rw [ht]; exact hI, hN.warm hW, va_K.moved hW.alike hK⟩, hS.F ht⟩) hS.2.2 dX11_count_170
    have k5555 := iv_ne (X := x1.toInt) (Y := 6) rfl (by decide) c5488
    by_cases c5556 : x1 = 7
    · skip
      have k5557 := iv_eq (X := x1.toInt) (Y := 7) rfl (by decide) c5556
      refine lv_tableIn (tgt := 171) (off := 148) hx hb dX11_count_23 (by omega) (by omega) (by rw [k5557]; rfl) (by decide) ?_
      refine lv_aload_n hx hb dX11_count_171 rfl (lv_at hl 0 rfl) ?_
      obtain ⟨a5558, a5562, a5564, a5566, a5568, a5570, a5572, a5574, a5576, a5578, a5580, w5582, w5585, w5586, w5587, w5588, hO, hq5559, ⟨m5561, hq5560⟩, hq5563, hq5565, hq5567, hq5569, hq5571, hq5573, hq5575, hq5577, hq5579, hq5581, ⟨k5583, k5584⟩⟩ := op_15 hI hG0 List.not_mem_nil
      have hI := th_I.weak (a := h0) hI
      refine th_get hx hb hts inT11 hown hK hO rfl 0 (by decide) (hts _ (tb_c wd_345)) rfl rfl dX11_count_172 ?_
      have hI := th_I.close hI hG0 hO (ok_15 hq5559 ⟨_, hq5560⟩ hq5563 hq5565 hq5567 hq5569 hq5571 hq5573 hq5575 hq5577 hq5579 hq5581 ⟨by omega, by omega⟩)
      obtain ⟨a5589, a5591, a5593, a5595, a5597, a5599, a5601, a5603, a5605, a5607, w5609, w5612, w5613, w5614, hO, hq5590, hq5592, hq5594, hq5596, hq5598, hq5600, hq5602, hq5604, hq5606, hq5608, ⟨k5610, k5611⟩⟩ := op_6 hI hq5559 List.not_mem_nil
      have hI := th_I.weak (a := a5558) hI
      refine th_getN hx hb hts inT6 hown hK hN hO rfl 7 (by decide) wn_77 rfl rfl dX11_count_175 ?_
      have hI := th_I.close hI hq5559 hO (ok_6 hq5590 hq5592 hq5594 hq5596 hq5598 hq5600 hq5602 hq5604 hq5606 hq5608 ⟨by omega, by omega⟩)
      obtain ⟨a5616, w5618, hO, hq5617, ⟨k5619, k5620⟩, k5621⟩ := op_4 hI hq5604 List.not_mem_nil
      have hI := th_I.weak (a := a5603) hI
      have k5622 : (nI 6).toInt = ((6 : Nat) : Int) := nI_toInt (by omega)
      refine th_cVs (As := []) (rest := []) (n := 0) (d := 0) ⟨hx, hb, hml, hown, hts⟩ (c_X4_size l E D H a5603 6 a5616 w5618 hO (by omega) (by omega) (by omega)) wd_506 wd_507 wd_508 wd_3 wd_509 (by decide +kernel) ⟨by rw [hR]; exact Nat.le_of_ble_eq_true rfl, by rw [hR]; exact Nat.le_of_ble_eq_true rfl⟩ hN hK hS ⟨_, hO⟩ rfl rfl hl.1 rfl (Nat.le_of_ble_eq_true rfl) dX11_count_178 ⟨Nat.zero_le _, Nat.zero_le _⟩ (fun r5615 locs hp hS => ?_)
      have hp := hp.symm
      subst hp
      have hI := th_I.close hI hq5604 hO (ok_4 hq5617 ⟨by omega, by omega⟩ (by omega))
      have hpost : True := trivial
      rw [hQ]
      exact W.iret (v := w5618) hx hb hr (fun t ht hW => ⟨⟨w5618, (), rfl, hpost, by rw [ht]; exact hI, hN.warm hW, va_K.moved hW.alike hK⟩, hS.F ht⟩) hS.2.2 dX11_count_181
    have k5623 := iv_ne (X := x1.toInt) (Y := 7) rfl (by decide) c5556
    by_cases c5624 : x1 = 8
    · skip
      have k5625 := iv_eq (X := x1.toInt) (Y := 8) rfl (by decide) c5624
      refine lv_tableIn (tgt := 182) (off := 159) hx hb dX11_count_23 (by omega) (by omega) (by rw [k5625]; rfl) (by decide) ?_
      refine lv_aload_n hx hb dX11_count_182 rfl (lv_at hl 0 rfl) ?_
      obtain ⟨a5626, a5630, a5632, a5634, a5636, a5638, a5640, a5642, a5644, a5646, a5648, w5650, w5653, w5654, w5655, w5656, hO, hq5627, ⟨m5629, hq5628⟩, hq5631, hq5633, hq5635, hq5637, hq5639, hq5641, hq5643, hq5645, hq5647, hq5649, ⟨k5651, k5652⟩⟩ := op_15 hI hG0 List.not_mem_nil
      have hI := th_I.weak (a := h0) hI
      refine th_get hx hb hts inT11 hown hK hO rfl 0 (by decide) (hts _ (tb_c wd_345)) rfl rfl dX11_count_183 ?_
      have hI := th_I.close hI hG0 hO (ok_15 hq5627 ⟨_, hq5628⟩ hq5631 hq5633 hq5635 hq5637 hq5639 hq5641 hq5643 hq5645 hq5647 hq5649 ⟨by omega, by omega⟩)
      obtain ⟨a5657, a5659, a5661, a5663, a5665, a5667, a5669, a5671, a5673, a5675, w5677, w5680, w5681, w5682, hO, hq5658, hq5660, hq5662, hq5664, hq5666, hq5668, hq5670, hq5672, hq5674, hq5676, ⟨k5678, k5679⟩⟩ := op_6 hI hq5627 List.not_mem_nil
      have hI := th_I.weak (a := a5626) hI
      refine th_getN hx hb hts inT6 hown hK hN hO rfl 8 (by decide) wn_80 rfl rfl dX11_count_186 ?_
      have hI := th_I.close hI hq5627 hO (ok_6 hq5658 hq5660 hq5662 hq5664 hq5666 hq5668 hq5670 hq5672 hq5674 hq5676 ⟨by omega, by omega⟩)
      obtain ⟨a5684, w5686, hO, hq5685, ⟨k5687, k5688⟩, k5689⟩ := op_4 hI hq5674 List.not_mem_nil
      have hI := th_I.weak (a := a5673) hI
      have k5690 : (nI 6).toInt = ((6 : Nat) : Int) := nI_toInt (by omega)
      refine th_cVs (As := []) (rest := []) (n := 0) (d := 0) ⟨hx, hb, hml, hown, hts⟩ (c_X4_size l E D H a5673 6 a5684 w5686 hO (by omega) (by omega) (by omega)) wd_506 wd_507 wd_508 wd_3 wd_509 (by decide +kernel) ⟨by rw [hR]; exact Nat.le_of_ble_eq_true rfl, by rw [hR]; exact Nat.le_of_ble_eq_true rfl⟩ hN hK hS ⟨_, hO⟩ rfl rfl hl.1 rfl (Nat.le_of_ble_eq_true rfl) dX11_count_189 ⟨Nat.zero_le _, Nat.zero_le _⟩ (fun r5683 locs hp hS => ?_)
      have hp := hp.symm
      subst hp
      have hI := th_I.close hI hq5674 hO (ok_4 hq5685 ⟨by omega, by omega⟩ (by omega))
      have hpost : True := trivial
      rw [hQ]
      exact W.iret (v := w5686) hx hb hr (fun t ht hW => ⟨⟨w5686, (), rfl, hpost, by rw [ht]; exact hI, hN.warm hW, va_K.moved hW.alike hK⟩, hS.F ht⟩) hS.2.2 dX11_count_192
    have k5691 := iv_ne (X := x1.toInt) (Y := 8) rfl (by decide) c5624
    by_cases c5692 : x1 = 9
    · skip
      have k5693 := iv_eq (X := x1.toInt) (Y := 9) rfl (by decide) c5692
      refine lv_tableIn (tgt := 193) (off := 170) hx hb dX11_count_23 (by omega) (by omega) (by rw [k5693]; rfl) (by decide) ?_
      refine lv_aload_n hx hb dX11_count_193 rfl (lv_at hl 0 rfl) ?_
      obtain ⟨a5694, a5698, a5700, a5702, a5704, a5706, a5708, a5710, a5712, a5714, a5716, w5718, w5721, w5722, w5723, w5724, hO, hq5695, ⟨m5697, hq5696⟩, hq5699, hq5701, hq5703, hq5705, hq5707, hq5709, hq5711, hq5713, hq5715, hq5717, ⟨k5719, k5720⟩⟩ := op_15 hI hG0 List.not_mem_nil
      have hI := th_I.weak (a := h0) hI
      refine th_get hx hb hts inT11 hown hK hO rfl 12 (by decide) (hts _ (tb_c wd_357)) rfl rfl dX11_count_194 ?_
      have hI := th_I.close hI hG0 hO (ok_15 hq5695 ⟨_, hq5696⟩ hq5699 hq5701 hq5703 hq5705 hq5707 hq5709 hq5711 hq5713 hq5715 hq5717 ⟨by omega, by omega⟩)
      have hpost : True := trivial
      rw [hQ]
      exact W.iret (v := w5718) hx hb hr (fun t ht hW => ⟨⟨w5718, (), rfl, hpost, by rw [ht]; exact hI, hN.warm hW, va_K.moved hW.alike hK⟩, hS.F ht⟩) hS.2.2 dX11_count_197
    have k5725 := iv_ne (X := x1.toInt) (Y := 9) rfl (by decide) c5692
    by_cases c5726 : x1 = 10
    · skip
      have k5727 := iv_eq (X := x1.toInt) (Y := 10) rfl (by decide) c5726
      refine lv_tableIn (tgt := 206) (off := 183) hx hb dX11_count_23 (by omega) (by omega) (by rw [k5727]; rfl) (by decide) ?_
      refine lv_iconst (v := (-1)) hx hb dX11_count_206 (by decide) ?_
      have hpost : True := trivial
      rw [hQ]
      exact W.iret (v := (-1)) hx hb hr (fun t ht hW => ⟨⟨(-1), (), rfl, hpost, by rw [ht]; exact hI, hN.warm hW, va_K.moved hW.alike hK⟩, hS.F ht⟩) hS.2.2 dX11_count_207
    have k5728 := iv_ne (X := x1.toInt) (Y := 10) rfl (by decide) c5726
    by_cases c5729 : x1 = 11
    · skip
      have k5730 := iv_eq (X := x1.toInt) (Y := 11) rfl (by decide) c5729
      refine lv_tableIn (tgt := 206) (off := 183) hx hb dX11_count_23 (by omega) (by omega) (by rw [k5730]; rfl) (by decide) ?_
      refine lv_iconst (v := (-1)) hx hb dX11_count_206 (by decide) ?_
      have hpost : True := trivial
      rw [hQ]
      exact W.iret (v := (-1)) hx hb hr (fun t ht hW => ⟨⟨(-1), (), rfl, hpost, by rw [ht]; exact hI, hN.warm hW, va_K.moved hW.alike hK⟩, hS.F ht⟩) hS.2.2 dX11_count_207
    have k5731 := iv_ne (X := x1.toInt) (Y := 11) rfl (by decide) c5729
    by_cases c5732 : x1 = 12
    · skip
      have k5733 := iv_eq (X := x1.toInt) (Y := 12) rfl (by decide) c5732
      refine lv_tableIn (tgt := 206) (off := 183) hx hb dX11_count_23 (by omega) (by omega) (by rw [k5733]; rfl) (by decide) ?_
      refine lv_iconst (v := (-1)) hx hb dX11_count_206 (by decide) ?_
      have hpost : True := trivial
      rw [hQ]
      exact W.iret (v := (-1)) hx hb hr (fun t ht hW => ⟨⟨(-1), (), rfl, hpost, by rw [ht]; exact hI, hN.warm hW, va_K.moved hW.alike hK⟩, hS.F ht⟩) hS.2.2 dX11_count_207
    have k5734 := iv_ne (X := x1.toInt) (Y := 12) rfl (by decide) c5732
    by_cases c5735 : x1 = 13
    · skip
      have k5736 := iv_eq (X := x1.toInt) (Y := 13) rfl (by decide) c5735
      refine lv_tableIn (tgt := 206) (off := 183) hx hb dX11_count_23 (by omega) (by omega) (by rw [k5736]; rfl) (by decide) ?_
      refine lv_iconst (v := (-1)) hx hb dX11_count_206 (by decide) ?_
      have hpost : True := trivial
      rw [hQ]
      exact W.iret (v := (-1)) hx hb hr (fun t ht hW => ⟨⟨(-1), (), rfl, hpost, by rw [ht]; exact hI, hN.warm hW, va_K.moved hW.alike hK⟩, hS.F ht⟩) hS.2.2 dX11_count_207
    have k5737 := iv_ne (X := x1.toInt) (Y := 13) rfl (by decide) c5735
    by_cases c5738 : x1 = 14
    · skip
      have k5739 := iv_eq (X := x1.toInt) (Y := 14) rfl (by decide) c5738
      refine lv_tableIn (tgt := 206) (off := 183) hx hb dX11_count_23 (by omega) (by omega) (by rw [k5739]; rfl) (by decide) ?_
      refine lv_iconst (v := (-1)) hx hb dX11_count_206 (by decide) ?_
      have hpost : True := trivial
      rw [hQ]
      exact W.iret (v := (-1)) hx hb hr (fun t ht hW => ⟨⟨(-1), (), rfl, hpost, by rw [ht]; exact hI, hN.warm hW, va_K.moved hW.alike hK⟩, hS.F ht⟩) hS.2.2 dX11_count_207
    have k5740 := iv_ne (X := x1.toInt) (Y := 14) rfl (by decide) c5738
    by_cases c5741 : x1 = 15
    · skip
      have k5742 := iv_eq (X := x1.toInt) (Y := 15) rfl (by decide) c5741
      refine lv_tableIn (tgt := 198) (off := 175) hx hb dX11_count_23 (by omega) (by omega) (by rw [k5742]; rfl) (by decide) ?_
      refine lv_aload_n hx hb dX11_count_198 rfl (lv_at hl 0 rfl) ?_
      obtain ⟨a5743, a5747, a5749, a5751, a5753, a5755, a5757, a5759, a5761, a5763, a5765, w5767, w5770, w5771, w5772, w5773, hO, hq5744, ⟨m5746, hq5745⟩, hq5748, hq5750, hq5752, hq5754, hq5756, hq5758, hq5760, hq5762, hq5764, hq5766, ⟨k5768, k5769⟩⟩ := op_15 hI hG0 List.not_mem_nil
      have hI := th_I.weak (a := h0) hI
      refine th_get hx hb hts inT11 hown hK hO rfl 0 (by decide) (hts _ (tb_c wd_345)) rfl rfl dX11_count_199 ?_
      have hI := th_I.close hI hG0 hO (ok_15 hq5744 ⟨_, hq5745⟩ hq5748 hq5750 hq5752 hq5754 hq5756 hq5758 hq5760 hq5762 hq5764 hq5766 ⟨by omega, by omega⟩)
      obtain ⟨a5774, a5776, a5778, a5780, a5782, a5784, a5786, a5788, a5790, a5792, w5794, w5797, w5798, w5799, hO, hq5775, hq5777, hq5779, hq5781, hq5783, hq5785, hq5787, hq5789, hq5791, hq5793, ⟨k5795, k5796⟩⟩ := op_6 hI hq5744 List.not_mem_nil
      have hI := th_I.weak (a := a5743) hI
      refine th_getN hx hb hts inT6 hown hK hN hO rfl 11 (by decide) wn_85 rfl rfl dX11_count_202 ?_
      have hI := th_I.close hI hq5744 hO (ok_6 hq5775 hq5777 hq5779 hq5781 hq5783 hq5785 hq5787 hq5789 hq5791 hq5793 ⟨by omega, by omega⟩)
      have hpost : True := trivial
      rw [hQ]
      exact W.iret (v := w5797) hx hb hr (fun t ht hW => ⟨⟨w5797, (), rfl, hpost, by rw [ht]; exact hI, hN.warm hW, va_K.moved hW.alike hK⟩, hS.F ht⟩) hS.2.2 dX11_count_205
    have k5800 := iv_ne (X := x1.toInt) (Y := 15) rfl (by decide) c5741
    refine lv_tableOut (tgt := 206) hx hb dX11_count_23 (by omega) (by decide) ?_
    refine lv_iconst (v := (-1)) hx hb dX11_count_206 (by decide) ?_
    have hpost : True := trivial
    rw [hQ]
    exact W.iret (v := (-1)) hx hb hr (fun t ht hW => ⟨⟨(-1), (), rfl, hpost, by rw [ht]; exact hI, hN.warm hW, va_K.moved hW.alike hK⟩, hS.F ht⟩) hS.2.2 dX11_count_207
  refine lv_iload_n hx hb dX11_count_0 rfl (lv_at hl 1 rfl) ?_
  refine lv_bipush (v := 10) hx hb dX11_count_1 (by decide) ?_
  have k5801 := iv_lo x1
  have k5802 := iv_hi x1
  refine lv_icmp_lt (tgt := 22) hx hb dX11_count_3 (by decide) (fun c5803 => ?_) (fun c5803 => ?_)
  · skip
    have k5804 := iv_lt (X := x1.toInt) (Y := (10)) rfl (by decide) c5803
    exact J_22 s.heap [] ls  (lv_sub hl [0, 1] rfl)  hI hS
  · skip
    have k5805 := iv_nlt (X := x1.toInt) (Y := (10)) rfl (by decide) c5803
    refine lv_iload_n hx hb dX11_count_6 rfl (lv_at hl 1 rfl) ?_
    refine lv_bipush (v := 14) hx hb dX11_count_7 (by decide) ?_
    refine lv_icmp_gt (tgt := 22) hx hb dX11_count_9 (by decide) (fun c5806 => ?_) (fun c5806 => ?_)
    · skip
      have k5807 := iv_lt (X := (14)) (Y := x1.toInt) (by decide) rfl c5806
      exact J_22 s.heap [] ls  (lv_sub hl [0, 1] rfl)  hI hS
    · skip
      have k5808 := iv_nlt (X := (14)) (Y := x1.toInt) (by decide) rfl c5806
      refine lv_aload_n hx hb dX11_count_12 rfl (lv_at hl 0 rfl) ?_
      obtain ⟨a5809, a5813, a5815, a5817, a5819, a5821, a5823, a5825, a5827, a5829, a5831, w5833, w5836, w5837, w5838, w5839, hO, hq5810, ⟨m5812, hq5811⟩, hq5814, hq5816, hq5818, hq5820, hq5822, hq5824, hq5826, hq5828, hq5830, hq5832, ⟨k5834, k5835⟩⟩ := op_15 hI hG0 List.not_mem_nil
      have hI := th_I.weak (a := h0) hI
      refine th_get hx hb hts inT11 hown hK hO rfl 3 (by decide) (hts _ (tb_c wd_348)) rfl rfl dX11_count_13 ?_
      refine lv_iload_n hx hb dX11_count_16 rfl (lv_at hl 1 rfl) ?_
      refine lv_bipush (v := 10) hx hb dX11_count_17 (by decide) ?_
      refine lv_isub hx hb dX11_count_19 ?_
      refine lv_topi (fun v5840 e5841 => ?_)
      have tv5840 : v5840.toInt = x1.toInt - (10) := iv_sub rfl (by decide) e5841 (by omega) (by omega)
      obtain ⟨_, hA5842⟩ := op_0 hI hq5816 (th_ne hG0 hq5816 (show (15 : Nat) ≠ 0 by decide))
      refine th_iald hx hb hK hA5842 0 rfl (iv_in (X := v5840.toInt) rfl (by omega) (by omega)) dX11_count_20 (fun v5843 _ => ?_)
      have hI := th_I.close hI hG0 hO (ok_15 hq5810 ⟨_, hq5811⟩ hq5814 hq5816 hq5818 hq5820 hq5822 hq5824 hq5826 hq5828 hq5830 hq5832 ⟨by omega, by omega⟩)
      have hpost : True := trivial
      rw [hQ]
      exact W.iret (v := v5843) hx hb hr (fun t ht hW => ⟨⟨v5843, (), rfl, hpost, by rw [ht]; exact hI, hN.warm hW, va_K.moved hW.alike hK⟩, hS.F ht⟩) hS.2.2 dX11_count_21
