theorem wn_77 : (Cond.fieldLinkNest RX11 (307 : Nat) "NineRiver$State" "jobs" "LNineRiver$Rows;" "NineRiver") ∈ lw_tbl := List.mem_append_right _ (List.mem_of_getElem? (i := 77) (by decide +kernel))
theorem wn_80 : (Cond.fieldLinkNest RX11 (322 : Nat) "NineRiver$State" "wishes" "LNineRiver$Rows;" "NineRiver") ∈ lw_tbl := List.mem_append_right _ (List.mem_of_getElem? (i := 80) (by decide +kernel))
theorem wp_9 : Cond.selects RX11 yX11_pourFromTape yX11_pourFromTape ∈ TB := tv 9 (by decide +kernel) (by decide +kernel)
theorem wd_1016 : (Cond.methodLink RX11 (301 : Nat) yX5_findAlone) ∈ TB := tw 1016 (by decide +kernel) (by decide +kernel)
theorem wd_1017 : (Jvm.Cond.instanceMethod yX5_findAlone) ∈ TB := tw 1017 (by decide +kernel) (by decide +kernel)
theorem wd_1018 : (Cond.selects RX5 yX5_findAlone yX5_findAlone) ∈ TB := tw 1018 (by decide +kernel) (by decide +kernel)
theorem wd_1019 : (Cond.code yX5_findAlone cX5_findAlone 5 (Option.some Jvm.ClassFile.FieldType.int)) ∈ TB := tw 1019 (by decide +kernel) (by decide +kernel)
theorem wd_1084 : (Cond.methodLink RX11 (313 : Nat) yX8_answer) ∈ TB := tw 1084 (by decide +kernel) (by decide +kernel)
theorem wd_1085 : (Jvm.Cond.instanceMethod yX8_answer) ∈ TB := tw 1085 (by decide +kernel) (by decide +kernel)
theorem wd_1086 : (Cond.selects RX8 yX8_answer yX8_answer) ∈ TB := tw 1086 (by decide +kernel) (by decide +kernel)
theorem wd_1087 : (Cond.code yX8_answer cX8_answer 10 (Option.some Jvm.ClassFile.FieldType.int)) ∈ TB := tw 1087 (by decide +kernel) (by decide +kernel)
theorem wd_1098 : (Cond.methodLink RX11 (316 : Nat) yX9_paddle) ∈ TB := tw 1098 (by decide +kernel) (by decide +kernel)
theorem wd_1099 : (Jvm.Cond.instanceMethod yX9_paddle) ∈ TB := tw 1099 (by decide +kernel) (by decide +kernel)
theorem wd_1100 : (Cond.selects RX9 yX9_paddle yX9_paddle) ∈ TB := tw 1100 (by decide +kernel) (by decide +kernel)
theorem wd_1101 : (Cond.code yX9_paddle cX9_paddle 6 (Option.some Jvm.ClassFile.FieldType.int)) ∈ TB := tw 1101 (by decide +kernel) (by decide +kernel)
theorem wd_1109 : (Cond.methodLink RX11 (319 : Nat) yX9_turningHours) ∈ TB := tw 1109 (by decide +kernel) (by decide +kernel)
theorem wd_1110 : (Jvm.Cond.instanceMethod yX9_turningHours) ∈ TB := tw 1110 (by decide +kernel) (by decide +kernel)
theorem wd_1111 : (Cond.selects RX9 yX9_turningHours yX9_turningHours) ∈ TB := tw 1111 (by decide +kernel) (by decide +kernel)
theorem wd_1112 : (Cond.code yX9_turningHours cX9_turningHours 11 (Option.some Jvm.ClassFile.FieldType.int)) ∈ TB := tw 1112 (by decide +kernel) (by decide +kernel)
theorem wd_1134 : (Cond.methodLink RX11 (325 : Nat) yX10_grantedNow) ∈ TB := tw 1134 (by decide +kernel) (by decide +kernel)
theorem wd_1135 : (Jvm.Cond.instanceMethod yX10_grantedNow) ∈ TB := tw 1135 (by decide +kernel) (by decide +kernel)
theorem wd_1136 : (Cond.selects RX10 yX10_grantedNow yX10_grantedNow) ∈ TB := tw 1136 (by decide +kernel) (by decide +kernel)
theorem wd_1137 : (Cond.code yX10_grantedNow cX10_grantedNow 4 (Option.some Jvm.ClassFile.FieldType.int)) ∈ TB := tw 1137 (by decide +kernel) (by decide +kernel)
theorem wd_1145 : (Cond.methodLink RX11 (328 : Nat) yX10_tune) ∈ TB := tw 1145 (by decide +kernel) (by decide +kernel)
theorem wd_1146 : (Jvm.Cond.instanceMethod yX10_tune) ∈ TB := tw 1146 (by decide +kernel) (by decide +kernel)
theorem wd_1147 : (Cond.selects RX10 yX10_tune yX10_tune) ∈ TB := tw 1147 (by decide +kernel) (by decide +kernel)
theorem wd_1148 : (Cond.code yX10_tune cX10_tune 5 (Option.none : Option Jvm.ClassFile.FieldType)) ∈ TB := tw 1148 (by decide +kernel) (by decide +kernel)
theorem wd_1168 : (Cond.methodLink RX11 (331 : Nat) yX10_tuned) ∈ TB := tw 1168 (by decide +kernel) (by decide +kernel)
theorem wd_1169 : (Jvm.Cond.instanceMethod yX10_tuned) ∈ TB := tw 1169 (by decide +kernel) (by decide +kernel)
theorem wd_1170 : (Cond.selects RX10 yX10_tuned yX10_tuned) ∈ TB := tw 1170 (by decide +kernel) (by decide +kernel)
theorem wd_1171 : (Cond.code yX10_tuned cX10_tuned 2 (Option.some Jvm.ClassFile.FieldType.int)) ∈ TB := tw 1171 (by decide +kernel) (by decide +kernel)
theorem wd_1176 : (Cond.methodLink RX11 (334 : Nat) yX6_tellClocks) ∈ TB := tw 1176 (by decide +kernel) (by decide +kernel)
theorem wd_1181 : (Cond.constant RX11 (337 : Nat) (1000000 : Int32)) ∈ TB := tw 1181 (by decide +kernel) (by decide +kernel)
theorem wd_1182 : (Cond.methodLink RX11 (338 : Nat) yX9_drawWeek) ∈ TB := tw 1182 (by decide +kernel) (by decide +kernel)
theorem wd_1183 : (Jvm.Cond.instanceMethod yX9_drawWeek) ∈ TB := tw 1183 (by decide +kernel) (by decide +kernel)
theorem wd_1184 : (Cond.selects RX9 yX9_drawWeek yX9_drawWeek) ∈ TB := tw 1184 (by decide +kernel) (by decide +kernel)
theorem wd_1185 : (Cond.code yX9_drawWeek cX9_drawWeek 9 (Option.some Jvm.ClassFile.FieldType.int)) ∈ TB := tw 1185 (by decide +kernel) (by decide +kernel)
theorem wd_1219 : (Cond.methodLink RX11 (345 : Nat) yX6_countStrikes) ∈ TB := tw 1219 (by decide +kernel) (by decide +kernel)
theorem wd_1220 : (Jvm.Cond.instanceMethod yX6_countStrikes) ∈ TB := tw 1220 (by decide +kernel) (by decide +kernel)
theorem wd_1221 : (Cond.selects RX6 yX6_countStrikes yX6_countStrikes) ∈ TB := tw 1221 (by decide +kernel) (by decide +kernel)
theorem wd_1222 : (Cond.code yX6_countStrikes cX6_countStrikes 6 (Option.some Jvm.ClassFile.FieldType.int)) ∈ TB := tw 1222 (by decide +kernel) (by decide +kernel)
theorem wd_349 : (Cond.fieldLink RX11 (27 : Nat) "NineRiver" "landed" "[I") ∈ TB := tw 349 (by decide +kernel) (by decide +kernel)
theorem wd_361 : (Cond.fieldLink RX11 (102 : Nat) "NineRiver" "hasWeek" "Z") ∈ TB := tw 361 (by decide +kernel) (by decide +kernel)
theorem wd_613 : (Cond.methodLink RX11 (188 : Nat) yX11_pourFromTape) ∈ TB := tw 613 (by decide +kernel) (by decide +kernel)
theorem wd_615 : (Jvm.Cond.instanceMethod yX11_pourFromTape) ∈ TB := tw 615 (by decide +kernel) (by decide +kernel)
theorem wd_616 : (Cond.code yX11_pourFromTape cX11_pourFromTape 6 (Option.some Jvm.ClassFile.FieldType.boolean)) ∈ TB := tw 616 (by decide +kernel) (by decide +kernel)
theorem wd_995 : (Cond.methodLink RX11 (298 : Nat) yX5_countAlone) ∈ TB := tw 995 (by decide +kernel) (by decide +kernel)
theorem wd_996 : (Jvm.Cond.instanceMethod yX5_countAlone) ∈ TB := tw 996 (by decide +kernel) (by decide +kernel)
theorem wd_997 : (Cond.selects RX5 yX5_countAlone yX5_countAlone) ∈ TB := tw 997 (by decide +kernel) (by decide +kernel)
theorem wd_998 : (Cond.code yX5_countAlone cX5_countAlone 7 (Option.some Jvm.ClassFile.FieldType.int)) ∈ TB := tw 998 (by decide +kernel) (by decide +kernel)
theorem dX11_pourFromTape_0 : decode cX11_pourFromTape 0 = .ok (.iload_n 1, 1) := by decide +kernel
theorem dX11_pourFromTape_1 : decode cX11_pourFromTape 1 = .ok (.ifCond .lt 13, 3) := by decide +kernel
theorem dX11_pourFromTape_4 : decode cX11_pourFromTape 4 = .ok (.iload_n 1, 1) := by decide +kernel
theorem dX11_pourFromTape_5 : decode cX11_pourFromTape 5 = .ok (.iconst 4, 1) := by decide +kernel
theorem dX11_pourFromTape_6 : decode cX11_pourFromTape 6 = .ok (.iadd, 1) := by decide +kernel
theorem dX11_pourFromTape_7 : decode cX11_pourFromTape 7 = .ok (.aload_n 0, 1) := by decide +kernel
theorem dX11_pourFromTape_8 : decode cX11_pourFromTape 8 = .ok (.getfield 89, 3) := by decide +kernel
theorem dX11_pourFromTape_11 : decode cX11_pourFromTape 11 = .ok (.if_icmp .le 5, 3) := by decide +kernel
theorem dX11_pourFromTape_14 : decode cX11_pourFromTape 14 = .ok (.iconst 0, 1) := by decide +kernel
theorem dX11_pourFromTape_15 : decode cX11_pourFromTape 15 = .ok (.ireturn, 1) := by decide +kernel
theorem dX11_pourFromTape_16 : decode cX11_pourFromTape 16 = .ok (.aload_n 0, 1) := by decide +kernel
theorem dX11_pourFromTape_17 : decode cX11_pourFromTape 17 = .ok (.getfield 20, 3) := by decide +kernel
theorem dX11_pourFromTape_20 : decode cX11_pourFromTape 20 = .ok (.iload_n 1, 1) := by decide +kernel
theorem dX11_pourFromTape_21 : decode cX11_pourFromTape 21 = .ok (.iaload, 1) := by decide +kernel
theorem dX11_pourFromTape_22 : decode cX11_pourFromTape 22 = .ok (.istore_n 2, 1) := by decide +kernel
theorem dX11_pourFromTape_23 : decode cX11_pourFromTape 23 = .ok (.aload_n 0, 1) := by decide +kernel
theorem dX11_pourFromTape_24 : decode cX11_pourFromTape 24 = .ok (.getfield 20, 3) := by decide +kernel
theorem dX11_pourFromTape_27 : decode cX11_pourFromTape 27 = .ok (.iload_n 1, 1) := by decide +kernel
theorem dX11_pourFromTape_28 : decode cX11_pourFromTape 28 = .ok (.iconst 1, 1) := by decide +kernel
theorem dX11_pourFromTape_29 : decode cX11_pourFromTape 29 = .ok (.iadd, 1) := by decide +kernel
theorem dX11_pourFromTape_30 : decode cX11_pourFromTape 30 = .ok (.iaload, 1) := by decide +kernel
theorem dX11_pourFromTape_31 : decode cX11_pourFromTape 31 = .ok (.istore_n 3, 1) := by decide +kernel
theorem dX11_pourFromTape_32 : decode cX11_pourFromTape 32 = .ok (.aload_n 0, 1) := by decide +kernel
theorem dX11_pourFromTape_33 : decode cX11_pourFromTape 33 = .ok (.getfield 20, 3) := by decide +kernel
theorem dX11_pourFromTape_36 : decode cX11_pourFromTape 36 = .ok (.iload_n 1, 1) := by decide +kernel
theorem dX11_pourFromTape_37 : decode cX11_pourFromTape 37 = .ok (.iconst 2, 1) := by decide +kernel
theorem dX11_pourFromTape_38 : decode cX11_pourFromTape 38 = .ok (.iadd, 1) := by decide +kernel
theorem dX11_pourFromTape_39 : decode cX11_pourFromTape 39 = .ok (.iaload, 1) := by decide +kernel
theorem dX11_pourFromTape_40 : decode cX11_pourFromTape 40 = .ok (.istore 4, 2) := by decide +kernel
theorem dX11_pourFromTape_42 : decode cX11_pourFromTape 42 = .ok (.aload_n 0, 1) := by decide +kernel
theorem dX11_pourFromTape_43 : decode cX11_pourFromTape 43 = .ok (.getfield 20, 3) := by decide +kernel
theorem dX11_pourFromTape_46 : decode cX11_pourFromTape 46 = .ok (.iload_n 1, 1) := by decide +kernel
theorem dX11_pourFromTape_47 : decode cX11_pourFromTape 47 = .ok (.iconst 3, 1) := by decide +kernel
theorem dX11_pourFromTape_48 : decode cX11_pourFromTape 48 = .ok (.iadd, 1) := by decide +kernel
theorem dX11_pourFromTape_49 : decode cX11_pourFromTape 49 = .ok (.iaload, 1) := by decide +kernel
theorem dX11_pourFromTape_50 : decode cX11_pourFromTape 50 = .ok (.istore 5, 2) := by decide +kernel
theorem dX11_pourFromTape_52 : decode cX11_pourFromTape 52 = .ok (.iload_n 2, 1) := by decide +kernel
theorem dX11_pourFromTape_53 : decode cX11_pourFromTape 53 = .ok (.iload_n 3, 1) := by decide +kernel
theorem dX11_pourFromTape_54 : decode cX11_pourFromTape 54 = .ok (.iload 4, 2) := by decide +kernel
theorem dX11_pourFromTape_56 : decode cX11_pourFromTape 56 = .ok (.iload 5, 2) := by decide +kernel
theorem dX11_pourFromTape_58 : decode cX11_pourFromTape 58 = .ok (.invokestatic 262, 3) := by decide +kernel
theorem dX11_pourFromTape_61 : decode cX11_pourFromTape 61 = .ok (.ifCond .eq 15, 3) := by decide +kernel
theorem dX11_pourFromTape_64 : decode cX11_pourFromTape 64 = .ok (.aload_n 0, 1) := by decide +kernel
theorem dX11_pourFromTape_65 : decode cX11_pourFromTape 65 = .ok (.getfield 42, 3) := by decide +kernel
theorem dX11_pourFromTape_68 : decode cX11_pourFromTape 68 = .ok (.iload_n 2, 1) := by decide +kernel
theorem dX11_pourFromTape_69 : decode cX11_pourFromTape 69 = .ok (.iload_n 3, 1) := by decide +kernel
theorem dX11_pourFromTape_70 : decode cX11_pourFromTape 70 = .ok (.invokevirtual 220, 3) := by decide +kernel
theorem dX11_pourFromTape_73 : decode cX11_pourFromTape 73 = .ok (.ifCond .eq 5, 3) := by decide +kernel
theorem dX11_pourFromTape_76 : decode cX11_pourFromTape 76 = .ok (.iconst 0, 1) := by decide +kernel
theorem dX11_pourFromTape_77 : decode cX11_pourFromTape 77 = .ok (.ireturn, 1) := by decide +kernel
theorem dX11_pourFromTape_78 : decode cX11_pourFromTape 78 = .ok (.aload_n 0, 1) := by decide +kernel
theorem dX11_pourFromTape_79 : decode cX11_pourFromTape 79 = .ok (.getfield 12, 3) := by decide +kernel
theorem dX11_pourFromTape_82 : decode cX11_pourFromTape 82 = .ok (.getfield 266, 3) := by decide +kernel
theorem dX11_pourFromTape_85 : decode cX11_pourFromTape 85 = .ok (.iload_n 2, 1) := by decide +kernel
theorem dX11_pourFromTape_86 : decode cX11_pourFromTape 86 = .ok (.iload_n 3, 1) := by decide +kernel
theorem dX11_pourFromTape_87 : decode cX11_pourFromTape 87 = .ok (.iload 4, 2) := by decide +kernel
theorem dX11_pourFromTape_89 : decode cX11_pourFromTape 89 = .ok (.iload 5, 2) := by decide +kernel
theorem dX11_pourFromTape_91 : decode cX11_pourFromTape 91 = .ok (.invokevirtual 155, 3) := by decide +kernel
theorem dX11_pourFromTape_94 : decode cX11_pourFromTape 94 = .ok (.iconst (-1), 1) := by decide +kernel
theorem dX11_pourFromTape_95 : decode cX11_pourFromTape 95 = .ok (.if_icmp .eq 7, 3) := by decide +kernel
theorem dX11_pourFromTape_98 : decode cX11_pourFromTape 98 = .ok (.iconst 1, 1) := by decide +kernel
theorem dX11_pourFromTape_99 : decode cX11_pourFromTape 99 = .ok (.goto 4, 3) := by decide +kernel
theorem dX11_pourFromTape_102 : decode cX11_pourFromTape 102 = .ok (.iconst 0, 1) := by decide +kernel
theorem dX11_pourFromTape_103 : decode cX11_pourFromTape 103 = .ok (.ireturn, 1) := by decide +kernel
set_option maxHeartbeats 4000000 in
set_option maxRecDepth 100000 in
theorem c_X11_pourFromTape (l : Launch) (E : Nat → ClassId) (D : va_G) (G : th_G) (h0 n : Nat) (hG0 : G h0 = some (15, n)) (x1 : Int32) (hx1 : (0 : Int) ≤ x1.toInt ∧ x1.toInt ≤ 400) : Met l yX11_pourFromTape (tb (.code yX11_pourFromTape cX11_pourFromTape 6 (some .boolean))) (rm 6) (va_Pc [.ref h0, .int x1] (th_P E D G)) (QI E D G (fun r => 0 ≤ (r : Int32).toInt ∧ (r : Int32).toInt ≤ 1)) 0 0 (th_A G) := by
  refine Met.ofW (cc := cX11_pourFromTape) (maxL := 6) (ret := (some .boolean)) (by decide) rfl ?_
  intro p e s m args below meth c s₁ B hml hv
  obtain ⟨hav, hI, hN, hK⟩ := hv
  have hx := B.exec
  have hb := B.bytes
  have hr := B.returns
  have hts := atoms_spec (ws := tb (.code yX11_pourFromTape cX11_pourFromTape 6 (some .boolean))) B.pre
  have hown : s.vm.findClass RX11 = some m.cls := findClass_of_methodNamed B.named
  have hlocks := B.notSynchronized
  have hS : va_S (th_A G) s.heap s.heap [] := va_S.rf
  have hl := lv_entry ([.ref h0, .int x1]) (n := 6) (Nat.le_of_ble_eq_true rfl)
  rw [show entryFrame m args 6 = entryFrame m ([.ref h0, .int x1] : List Value).toArray 6 from by rw [hav], lg_entry_eq]
  generalize (lg_sl ([.ref h0, .int x1]) ++ List.replicate (6 - (lg_sl ([.ref h0, .int x1])).length) Slot.unset).toArray = ls at hl ⊢
  have hl : lv_has ls 6 [(0, .ref h0), (1, .int x1)] := hl
  generalize hR : (headSpec (tb (.code yX11_pourFromTape cX11_pourFromTape 6 (some .boolean))) (rm 6)).room = R
  have hR := hR.symm
  generalize hQ : MQ below (QI E D G (fun r => 0 ≤ (r : Int32).toInt ∧ (r : Int32).toInt ≤ 1)) args s 0 0 (th_A G) = QF
  have hQ := hQ.symm
  have J_76 : ∀ (H : Heap) (locs : List Loc) (ls : Array Slot) (v1005 : Int32) (v1006 : Int32) (v1007 : Int32) (v1008 : Int32), lv_has ls 6 [(5, .int v1005), (4, .int v1006), (3, .int v1007), (2, .int v1008), (0, .ref h0), (1, .int x1)] → ((0 : Int) ≤ x1.toInt ∧ x1.toInt ≤ 400) → th_I (okC E) D G [] H → va_S (th_A G) s.heap H locs → W p l e R s m args below meth c H locs 0 0 QF (F0 m 76 ls []) := by
    intro H locs ls v1005 v1006 v1007 v1008 hl k1009 hI hS
    refine lv_iconst (v := 0) hx hb dX11_pourFromTape_76 (by decide) ?_
    have hpost : 0 ≤ (0 : Int32).toInt ∧ (0 : Int32).toInt ≤ 1 := by first | decide | omega
    rw [hQ]
    exact W.zret (v := 0) hx hb hr (by decide) (fun t ht hW => ⟨⟨0, (), rfl, hpost, by rw [ht]; exact hI, hN.warm hW, va_K.moved hW.alike hK⟩, hS.F ht⟩) hS.2.2 dX11_pourFromTape_77
  have J_14 : ∀ (H : Heap) (locs : List Loc) (ls : Array Slot) , lv_has ls 6 [(0, .ref h0), (1, .int x1)] → ((0 : Int) ≤ x1.toInt ∧ x1.toInt ≤ 400) → th_I (okC E) D G [] H → va_S (th_A G) s.heap H locs → W p l e R s m args below meth c H locs 0 0 QF (F0 m 14 ls []) := by
    intro H locs ls  hl k1010 hI hS
    refine lv_iconst (v := 0) hx hb dX11_pourFromTape_14 (by decide) ?_
    have hpost : 0 ≤ (0 : Int32).toInt ∧ (0 : Int32).toInt ≤ 1 := by first | decide | omega
    rw [hQ]
    exact W.zret (v := 0) hx hb hr (by decide) (fun t ht hW => ⟨⟨0, (), rfl, hpost, by rw [ht]; exact hI, hN.warm hW, va_K.moved hW.alike hK⟩, hS.F ht⟩) hS.2.2 dX11_pourFromTape_15
  refine lv_iload_n hx hb dX11_pourFromTape_0 rfl (lv_at hl 1 rfl) ?_
  refine lv_if_lt (tgt := 14) hx hb dX11_pourFromTape_1 (by decide) (fun c1011 => ?_) (fun c1011 => ?_)
  · skip
    have k1012 := iv_lt (X := x1.toInt) (Y := (0)) rfl (by decide) c1011
    exfalso; omega
  · skip
    have k1013 := iv_nlt (X := x1.toInt) (Y := (0)) rfl (by decide) c1011
    refine lv_iload_n hx hb dX11_pourFromTape_4 rfl (lv_at hl 1 rfl) ?_
    refine lv_iconst (v := 4) hx hb dX11_pourFromTape_5 (by decide) ?_
    refine lv_iadd hx hb dX11_pourFromTape_6 ?_
    refine lv_topi (fun v1014 e1015 => ?_)
    have tv1014 : v1014.toInt = x1.toInt + (4) := iv_add rfl (by decide) e1015 (by omega) (by omega)
    refine lv_aload_n hx hb dX11_pourFromTape_7 rfl (lv_at hl 0 rfl) ?_
    obtain ⟨a1016, a1019, a1021, a1023, a1025, a1027, a1029, a1031, a1033, a1035, a1037, w1039, w1042, w1043, w1044, w1045, hO, hq1017, hq1018, hq1020, hq1022, hq1024, hq1026, hq1028, hq1030, hq1032, hq1034, hq1036, hq1038, ⟨k1040, k1041⟩⟩ := op_15 hI hG0 List.not_mem_nil
    have hI := th_I.weak (a := h0) hI
    refine th_get hx hb hts inT11 hown hK hO rfl 12 (by decide) (hts _ (tb_c wd_357)) rfl rfl dX11_pourFromTape_8 ?_
    refine lv_icmp_le (tgt := 16) hx hb dX11_pourFromTape_11 (by decide) (fun c1046 => ?_) (fun c1046 => ?_)
    · skip
      have k1047 := iv_le (X := v1014.toInt) (Y := w1039.toInt) rfl rfl c1046
      refine lv_aload_n hx hb dX11_pourFromTape_16 rfl (lv_at hl 0 rfl) ?_
      refine th_get hx hb hts inT11 hown hK hO rfl 2 (by decide) (hts _ (tb_c wd_347)) rfl rfl dX11_pourFromTape_17 ?_
      refine lv_iload_n hx hb dX11_pourFromTape_20 rfl (lv_at hl 1 rfl) ?_
      obtain ⟨_, hA1048⟩ := op_0 hI hq1020 (th_ne hG0 hq1020 (show (15 : Nat) ≠ 0 by decide))
      refine th_iald hx hb hK hA1048 0 rfl (iv_in (X := x1.toInt) rfl (by omega) (by omega)) dX11_pourFromTape_21 (fun v1049 _ => ?_)
      refine lv_istore_n (lv' := [(2, .int v1049), (0, .ref h0), (1, .int x1)]) hx hb dX11_pourFromTape_22 rfl hl (by decide) rfl (fun ls hl => ?_)
      refine lv_aload_n hx hb dX11_pourFromTape_23 rfl (lv_at hl 1 rfl) ?_
      refine th_get hx hb hts inT11 hown hK hO rfl 2 (by decide) (hts _ (tb_c wd_347)) rfl rfl dX11_pourFromTape_24 ?_
      refine lv_iload_n hx hb dX11_pourFromTape_27 rfl (lv_at hl 2 rfl) ?_
      refine lv_iconst (v := 1) hx hb dX11_pourFromTape_28 (by decide) ?_
      refine lv_iadd hx hb dX11_pourFromTape_29 ?_
      refine lv_topi (fun v1050 e1051 => ?_)
      have tv1050 : v1050.toInt = x1.toInt + (1) := iv_add rfl (by decide) e1051 (by omega) (by omega)
      obtain ⟨_, hA1052⟩ := op_0 hI hq1020 (th_ne hG0 hq1020 (show (15 : Nat) ≠ 0 by decide))
      refine th_iald hx hb hK hA1052 0 rfl (iv_in (X := v1050.toInt) rfl (by omega) (by omega)) dX11_pourFromTape_30 (fun v1053 _ => ?_)
      refine lv_istore_n (lv' := [(3, .int v1053), (2, .int v1049), (0, .ref h0), (1, .int x1)]) hx hb dX11_pourFromTape_31 rfl hl (by decide) rfl (fun ls hl => ?_)
      refine lv_aload_n hx hb dX11_pourFromTape_32 rfl (lv_at hl 2 rfl) ?_
      refine th_get hx hb hts inT11 hown hK hO rfl 2 (by decide) (hts _ (tb_c wd_347)) rfl rfl dX11_pourFromTape_33 ?_
      refine lv_iload_n hx hb dX11_pourFromTape_36 rfl (lv_at hl 3 rfl) ?_
      refine lv_iconst (v := 2) hx hb dX11_pourFromTape_37 (by decide) ?_
      refine lv_iadd hx hb dX11_pourFromTape_38 ?_
      refine lv_topi (fun v1054 e1055 => ?_)
      have tv1054 : v1054.toInt = x1.toInt + (2) := iv_add rfl (by decide) e1055 (by omega) (by omega)
      obtain ⟨_, hA1056⟩ := op_0 hI hq1020 (th_ne hG0 hq1020 (show (15 : Nat) ≠ 0 by decide))
      refine th_iald hx hb hK hA1056 0 rfl (iv_in (X := v1054.toInt) rfl (by omega) (by omega)) dX11_pourFromTape_39 (fun v1057 _ => ?_)
      refine lv_istore (lv' := [(4, .int v1057), (3, .int v1053), (2, .int v1049), (0, .ref h0), (1, .int x1)]) hx hb dX11_pourFromTape_40 hl (by decide) rfl (fun ls hl => ?_)
      refine lv_aload_n hx hb dX11_pourFromTape_42 rfl (lv_at hl 3 rfl) ?_
      refine th_get hx hb hts inT11 hown hK hO rfl 2 (by decide) (hts _ (tb_c wd_347)) rfl rfl dX11_pourFromTape_43 ?_
      refine lv_iload_n hx hb dX11_pourFromTape_46 rfl (lv_at hl 4 rfl) ?_
      refine lv_iconst (v := 3) hx hb dX11_pourFromTape_47 (by decide) ?_
      refine lv_iadd hx hb dX11_pourFromTape_48 ?_
      refine lv_topi (fun v1058 e1059 => ?_)
      have tv1058 : v1058.toInt = x1.toInt + (3) := iv_add rfl (by decide) e1059 (by omega) (by omega)
      obtain ⟨_, hA1060⟩ := op_0 hI hq1020 (th_ne hG0 hq1020 (show (15 : Nat) ≠ 0 by decide))
      refine th_iald hx hb hK hA1060 0 rfl (iv_in (X := v1058.toInt) rfl (by omega) (by omega)) dX11_pourFromTape_49 (fun v1061 _ => ?_)
      refine lv_istore (lv' := [(5, .int v1061), (4, .int v1057), (3, .int v1053), (2, .int v1049), (0, .ref h0), (1, .int x1)]) hx hb dX11_pourFromTape_50 hl (by decide) rfl (fun ls hl => ?_)
      refine lv_iload_n hx hb dX11_pourFromTape_52 rfl (lv_at hl 3 rfl) ?_
      refine lv_iload_n hx hb dX11_pourFromTape_53 rfl (lv_at hl 2 rfl) ?_
      refine lv_iload hx hb dX11_pourFromTape_54 (lv_at hl 1 rfl) ?_
      refine lv_iload hx hb dX11_pourFromTape_56 (lv_at hl 0 rfl) ?_
      refine th_cSs (As := [.int v1049, .int v1053, .int v1057, .int v1061]) (rest := []) (n := 4) (d := 1) ⟨hx, hb, hml, hown, hts⟩ (c_X11_isPour l s.heap v1049 v1053 v1057 v1061) wd_617 wd_618 wd_1 wd_619 (by decide +kernel) ⟨by rw [hR]; exact Nat.le_of_ble_eq_true rfl, by rw [hR]; exact Nat.le_of_ble_eq_true rfl⟩ hN hS rfl hl.1 rfl (Nat.le_of_ble_eq_true rfl) dX11_pourFromTape_58 ⟨Nat.zero_le _, Nat.zero_le _⟩ (fun r1062 locs hp hS => ?_)
      rcases hp with ⟨rfl, hp⟩ | ⟨rfl, hp⟩
      · skip
        try simp only [rg, not_and, Int.not_le] at hp
        have hp1063 := hp
        refine lv_if_eq (tgt := 76) hx hb dX11_pourFromTape_61 (by decide) (fun c => absurd c (by decide)) (fun _ => ?_)
        refine lv_aload_n hx hb dX11_pourFromTape_64 rfl (lv_at hl 4 rfl) ?_
        refine th_get hx hb hts inT11 hown hK hO rfl 6 (by decide) (hts _ (tb_c wd_351)) rfl rfl dX11_pourFromTape_65 ?_
        refine lv_iload_n hx hb dX11_pourFromTape_68 rfl (lv_at hl 3 rfl) ?_
        refine lv_iload_n hx hb dX11_pourFromTape_69 rfl (lv_at hl 2 rfl) ?_
        have hI := th_I.close hI hG0 hO (ok_15 hq1017 hq1018 hq1020 hq1022 hq1024 hq1026 hq1028 hq1030 hq1032 hq1034 hq1036 hq1038 ⟨by omega, by omega⟩)
        refine th_cVi (As := [.int v1049, .int v1053]) (rest := []) (n := 2) (d := 5) ⟨hx, hb, hml, hown, hts⟩ (c_X7_isBarred l E D G a1027 hq1028 v1049 v1053) wd_623 wd_624 wd_625 wd_6 wd_626 (by decide +kernel) ⟨by rw [hR]; exact Nat.le_of_ble_eq_true rfl, by rw [hR]; exact Nat.le_of_ble_eq_true rfl⟩ hI hN hK hS (rc_9 hI hq1028 List.not_mem_nil) rfl rfl hl.1 rfl (Nat.le_of_ble_eq_true rfl) dX11_pourFromTape_70 ⟨Nat.zero_le _, Nat.zero_le _⟩ (fun r1064 H locs hp hI hS => ?_)
        have hp1065 := hp
        refine lv_if_eq (tgt := 78) hx hb dX11_pourFromTape_73 (by decide) (fun c1066 => ?_) (fun c1066 => ?_)
        · skip
          have k1067 := iv_eq (X := r1064.toInt) (Y := (0)) rfl (by decide) c1066
          refine lv_aload_n hx hb dX11_pourFromTape_78 rfl (lv_at hl 4 rfl) ?_
          obtain ⟨a1068, a1071, a1073, a1075, a1077, a1079, a1081, a1083, a1085, a1087, a1089, w1091, w1094, w1095, w1096, w1097, hO, hq1069, hq1070, hq1072, hq1074, hq1076, hq1078, hq1080, hq1082, hq1084, hq1086, hq1088, hq1090, ⟨k1092, k1093⟩⟩ := op_15 hI hG0 List.not_mem_nil
          have hI := th_I.weak (a := h0) hI
          refine th_get hx hb hts inT11 hown hK hO rfl 0 (by decide) (hts _ (tb_c wd_345)) rfl rfl dX11_pourFromTape_79 ?_
          have hI := th_I.close hI hG0 hO (ok_15 hq1069 hq1070 hq1072 hq1074 hq1076 hq1078 hq1080 hq1082 hq1084 hq1086 hq1088 hq1090 ⟨by omega, by omega⟩)
          obtain ⟨a1098, a1100, a1102, a1104, a1106, a1108, a1110, a1112, a1114, a1116, w1118, w1121, w1122, w1123, hO, hq1099, hq1101, hq1103, hq1105, hq1107, hq1109, hq1111, hq1113, hq1115, hq1117, ⟨k1119, k1120⟩⟩ := op_6 hI hq1069 List.not_mem_nil
          have hI := th_I.weak (a := a1068) hI
          refine th_getN hx hb hts inT6 hown hK hN hO rfl 5 (by decide) wn_71 rfl rfl dX11_pourFromTape_82 ?_
          refine lv_iload_n hx hb dX11_pourFromTape_85 rfl (lv_at hl 3 rfl) ?_
          refine lv_iload_n hx hb dX11_pourFromTape_86 rfl (lv_at hl 2 rfl) ?_
          refine lv_iload hx hb dX11_pourFromTape_87 (lv_at hl 1 rfl) ?_
          refine lv_iload hx hb dX11_pourFromTape_89 (lv_at hl 0 rfl) ?_
          have hI := th_I.close hI hq1069 hO (ok_6 hq1099 hq1101 hq1103 hq1105 hq1107 hq1109 hq1111 hq1113 hq1115 hq1117 ⟨by omega, by omega⟩)
          refine th_cVi (As := [.int v1049, .int v1053, .int v1057, .int v1061]) (rest := []) (n := 4) (d := 1) ⟨hx, hb, hml, hown, hts⟩ (c_X4_put l E D G a1108 (16) hq1109 v1049 v1053 v1057 v1061) wd_485 wd_486 wd_487 wd_3 wd_488 (by decide +kernel) ⟨by rw [hR]; exact Nat.le_of_ble_eq_true rfl, by rw [hR]; exact Nat.le_of_ble_eq_true rfl⟩ hI hN hK hS (rc_4 hI hq1109 List.not_mem_nil) rfl rfl hl.1 rfl (Nat.le_of_ble_eq_true rfl) dX11_pourFromTape_91 ⟨Nat.zero_le _, Nat.zero_le _⟩ (fun r1124 H locs hp hI hS => ?_)
          refine lv_iconst (v := (-1)) hx hb dX11_pourFromTape_94 (by decide) ?_
          have k1125 := iv_lo r1124
          have k1126 := iv_hi r1124
          refine lv_icmp_eq (tgt := 102) hx hb dX11_pourFromTape_95 (by decide) (fun c1127 => ?_) (fun c1127 => ?_)
          · skip
            have k1128 := iv_eq (X := r1124.toInt) (Y := (-1)) rfl (by decide) c1127
            refine lv_iconst (v := 0) hx hb dX11_pourFromTape_102 (by decide) ?_
            have hpost : 0 ≤ (0 : Int32).toInt ∧ (0 : Int32).toInt ≤ 1 := by first | decide | omega
            rw [hQ]
            exact W.zret (v := 0) hx hb hr (by decide) (fun t ht hW => ⟨⟨0, (), rfl, hpost, by rw [ht]; exact hI, hN.warm hW, va_K.moved hW.alike hK⟩, hS.F ht⟩) hS.2.2 dX11_pourFromTape_103
          · skip
            have k1129 := iv_ne (X := r1124.toInt) (Y := (-1)) rfl (by decide) c1127
            refine lv_iconst (v := 1) hx hb dX11_pourFromTape_98 (by decide) ?_
            refine lv_goto (tgt := 103) hx hb dX11_pourFromTape_99 (by decide) ?_
            have hpost : 0 ≤ (1 : Int32).toInt ∧ (1 : Int32).toInt ≤ 1 := by first | decide | omega
            rw [hQ]
            exact W.zret (v := 1) hx hb hr (by decide) (fun t ht hW => ⟨⟨1, (), rfl, hpost, by rw [ht]; exact hI, hN.warm hW, va_K.moved hW.alike hK⟩, hS.F ht⟩) hS.2.2 dX11_pourFromTape_103
        · skip
          have k1130 := iv_ne (X := r1064.toInt) (Y := (0)) rfl (by decide) c1066
          exact J_76 H locs ls v1061 v1057 v1053 v1049 (lv_sub hl [0, 1, 2, 3, 4, 5] rfl) ⟨by omega, by omega⟩ hI hS
      · skip
        try simp only [rg, not_and, Int.not_le] at hp
        have hp1131 := hp
        refine lv_if_eq (tgt := 76) hx hb dX11_pourFromTape_61 (by decide) (fun _ => ?_) (fun c => absurd c (by decide))
        have hI := th_I.close hI hG0 hO (ok_15 hq1017 hq1018 hq1020 hq1022 hq1024 hq1026 hq1028 hq1030 hq1032 hq1034 hq1036 hq1038 ⟨by omega, by omega⟩)
        exact J_76 s.heap locs ls v1061 v1057 v1053 v1049 (lv_sub hl [0, 1, 2, 3, 4, 5] rfl) ⟨by omega, by omega⟩ hI hS
    · skip
      have k1132 := iv_nle (X := v1014.toInt) (Y := w1039.toInt) rfl rfl c1046
      have hI := th_I.close hI hG0 hO (ok_15 hq1017 hq1018 hq1020 hq1022 hq1024 hq1026 hq1028 hq1030 hq1032 hq1034 hq1036 hq1038 ⟨by omega, by omega⟩)
      exact J_14 s.heap [] ls  (lv_sub hl [0, 1] rfl) ⟨by omega, by omega⟩ hI hS
theorem dX11_row_0 : decode cX11_row 0 = .ok (.aload_n 0, 1) := by decide +kernel
theorem dX11_row_1 : decode cX11_row 1 = .ok (.getfield 89, 3) := by decide +kernel
theorem dX11_row_4 : decode cX11_row 4 = .ok (.ifCond .ne 10, 3) := by decide +kernel
theorem dX11_row_7 : decode cX11_row 7 = .ok (.aload_n 0, 1) := by decide +kernel
theorem dX11_row_8 : decode cX11_row 8 = .ok (.bipush (-6), 2) := by decide +kernel
theorem dX11_row_10 : decode cX11_row 10 = .ok (.invokevirtual 113, 3) := by decide +kernel
theorem dX11_row_13 : decode cX11_row 13 = .ok (.ireturn, 1) := by decide +kernel
theorem dX11_row_14 : decode cX11_row 14 = .ok (.iconst 0, 1) := by decide +kernel
theorem dX11_row_15 : decode cX11_row 15 = .ok (.istore_n 1, 1) := by decide +kernel
theorem dX11_row_16 : decode cX11_row 16 = .ok (.iconst 0, 1) := by decide +kernel
theorem dX11_row_17 : decode cX11_row 17 = .ok (.istore_n 2, 1) := by decide +kernel
theorem dX11_row_18 : decode cX11_row 18 = .ok (.iconst 0, 1) := by decide +kernel
theorem dX11_row_19 : decode cX11_row 19 = .ok (.istore_n 3, 1) := by decide +kernel
theorem dX11_row_20 : decode cX11_row 20 = .ok (.iload_n 3, 1) := by decide +kernel
theorem dX11_row_21 : decode cX11_row 21 = .ok (.aload_n 0, 1) := by decide +kernel
theorem dX11_row_22 : decode cX11_row 22 = .ok (.getfield 89, 3) := by decide +kernel
theorem dX11_row_25 : decode cX11_row 25 = .ok (.if_icmp .ge 26, 3) := by decide +kernel
theorem dX11_row_28 : decode cX11_row 28 = .ok (.aload_n 0, 1) := by decide +kernel
theorem dX11_row_29 : decode cX11_row 29 = .ok (.iload_n 3, 1) := by decide +kernel
theorem dX11_row_30 : decode cX11_row 30 = .ok (.invokevirtual 188, 3) := by decide +kernel
theorem dX11_row_33 : decode cX11_row 33 = .ok (.ifCond .eq 9, 3) := by decide +kernel
theorem dX11_row_36 : decode cX11_row 36 = .ok (.iinc 1 1, 3) := by decide +kernel
theorem dX11_row_39 : decode cX11_row 39 = .ok (.goto 6, 3) := by decide +kernel
theorem dX11_row_42 : decode cX11_row 42 = .ok (.iinc 2 1, 3) := by decide +kernel
theorem dX11_row_45 : decode cX11_row 45 = .ok (.iinc 3 4, 3) := by decide +kernel
theorem dX11_row_48 : decode cX11_row 48 = .ok (.goto (-28), 3) := by decide +kernel
theorem dX11_row_51 : decode cX11_row 51 = .ok (.aload_n 0, 1) := by decide +kernel
theorem dX11_row_52 : decode cX11_row 52 = .ok (.iconst 0, 1) := by decide +kernel
theorem dX11_row_53 : decode cX11_row 53 = .ok (.putfield 89, 3) := by decide +kernel
theorem dX11_row_56 : decode cX11_row 56 = .ok (.aload_n 0, 1) := by decide +kernel
theorem dX11_row_57 : decode cX11_row 57 = .ok (.iload_n 2, 1) := by decide +kernel
theorem dX11_row_58 : decode cX11_row 58 = .ok (.putfield 96, 3) := by decide +kernel
theorem dX11_row_61 : decode cX11_row 61 = .ok (.aload_n 0, 1) := by decide +kernel
theorem dX11_row_62 : decode cX11_row 62 = .ok (.invokevirtual 191, 3) := by decide +kernel
theorem dX11_row_65 : decode cX11_row 65 = .ok (.aload_n 0, 1) := by decide +kernel
theorem dX11_row_66 : decode cX11_row 66 = .ok (.iload_n 1, 1) := by decide +kernel
theorem dX11_row_67 : decode cX11_row 67 = .ok (.invokevirtual 127, 3) := by decide +kernel
theorem dX11_row_70 : decode cX11_row 70 = .ok (.ireturn, 1) := by decide +kernel
set_option maxHeartbeats 4000000 in
set_option maxRecDepth 100000 in
theorem c_X11_row (l : Launch) (E : Nat → ClassId) (D : va_G) (G : th_G) (h0 n : Nat) (hG0 : G h0 = some (15, n)) : Met l yX11_row (tb (.code yX11_row cX11_row 4 (some .int))) (rm 7) (va_Pc [.ref h0] (th_P E D G)) (QI E D G (fun r => True)) 0 0 (th_A G) := by
  refine Met.ofW (cc := cX11_row) (maxL := 4) (ret := (some .int)) (by decide) rfl ?_
  intro p e s m args below meth c s₁ B hml hv
  obtain ⟨hav, hI, hN, hK⟩ := hv
  have hx := B.exec
  have hb := B.bytes
  have hr := B.returns
  have hts := atoms_spec (ws := tb (.code yX11_row cX11_row 4 (some .int))) B.pre
  have hown : s.vm.findClass RX11 = some m.cls := findClass_of_methodNamed B.named
  have hlocks := B.notSynchronized
  have hS : va_S (th_A G) s.heap s.heap [] := va_S.rf
  have hl := lv_entry ([.ref h0]) (n := 4) (Nat.le_of_ble_eq_true rfl)
  rw [show entryFrame m args 4 = entryFrame m ([.ref h0] : List Value).toArray 4 from by rw [hav], lg_entry_eq]
  generalize (lg_sl ([.ref h0]) ++ List.replicate (4 - (lg_sl ([.ref h0])).length) Slot.unset).toArray = ls at hl ⊢
  have hl : lv_has ls 4 [(0, .ref h0)] := hl
  generalize hR : (headSpec (tb (.code yX11_row cX11_row 4 (some .int))) (rm 7)).room = R
  have hR := hR.symm
  generalize hQ : MQ below (QI E D G (fun r => True)) args s 0 0 (th_A G) = QF
  have hQ := hQ.symm
  have J_20 : ∀ (nn : Nat) (H : Heap) (locs : List Loc) (ls : Array Slot) (v5132 : Int32) (v5133 : Int32) (v5134 : Int32), (Int.toNat (403 - v5132.toInt) = nn) → lv_has ls 4 [(3, .int v5132), (2, .int v5133), (1, .int v5134), (0, .ref h0)] → ((0 : Int) ≤ v5132.toInt ∧ v5132.toInt ≤ 403) → th_I (okC E) D G [] H → va_S (th_A G) s.heap H locs → W p l e R s m args below meth c H locs 0 0 QF (F0 m 20 ls []) := by
    intro nn
    induction nn using Nat.strongRecOn with
    | ind nn ih_20 =>
      intro H locs ls v5132 v5133 v5134 hm hl k5135 hI hS
      have J_45 : ∀ (H : Heap) (locs : List Loc) (ls : Array Slot) (v5136 : Int32) (v5138 : Int32), lv_has ls 4 [(2, .int v5136), (3, .int v5132), (1, .int v5138), (0, .ref h0)] → ((0 : Int) ≤ v5132.toInt ∧ v5132.toInt ≤ 399) → th_I (okC E) D G [] H → va_S (th_A G) s.heap H locs → W p l e R s m args below meth c H locs 0 0 QF (F0 m 45 ls []) := by
        intro H locs ls v5136 v5138 hl k5139 hI hS
        obtain ⟨v5140, e5141⟩ : ∃ y : Int32, y = v5132 + (4) := ⟨_, rfl⟩
        have tv5140 : v5140.toInt = v5132.toInt + (4) := iv_add rfl (by decide) e5141 (by omega) (by omega)
        refine lv_iinc (v := v5140) (lv' := [(3, .int v5140), (2, .int v5136), (1, .int v5138), (0, .ref h0)]) hx hb dX11_row_45 hl (k := 1) rfl (by rw [e5141]; rfl) (by decide) rfl (fun ls hl => ?_)
        refine lv_goto (tgt := 20) hx hb dX11_row_48 (by decide) ?_
        exact ih_20 _ (by omega) H locs ls v5140 v5136 v5138 rfl (lv_sub hl [0, 1, 2, 3] rfl) ⟨by omega, by omega⟩ hI hS
      refine lv_iload_n hx hb dX11_row_20 rfl (lv_at hl 0 rfl) ?_
      refine lv_aload_n hx hb dX11_row_21 rfl (lv_at hl 3 rfl) ?_
      obtain ⟨a5142, a5145, a5147, a5149, a5151, a5153, a5155, a5157, a5159, a5161, a5163, w5165, w5168, w5169, w5170, w5171, hO, hq5143, hq5144, hq5146, hq5148, hq5150, hq5152, hq5154, hq5156, hq5158, hq5160, hq5162, hq5164, ⟨k5166, k5167⟩⟩ := op_15 hI hG0 List.not_mem_nil
      have hI := th_I.weak (a := h0) hI
      refine th_get hx hb hts inT11 hown hK hO rfl 12 (by decide) (hts _ (tb_c wd_357)) rfl rfl dX11_row_22 ?_
      refine lv_icmp_ge (tgt := 51) hx hb dX11_row_25 (by decide) (fun c5172 => ?_) (fun c5172 => ?_)
      · skip
        have k5173 := iv_le (X := w5165.toInt) (Y := v5132.toInt) rfl rfl c5172
        refine lv_aload_n hx hb dX11_row_51 rfl (lv_at hl 3 rfl) ?_
        refine lv_iconst (v := 0) hx hb dX11_row_52 (by decide) ?_
        refine th_put (ty := .int) hx hb hts inT11 tyX11 tyX11_ok nmX11 hown hK hO hS ⟨_, hG0⟩ rfl 12 (by decide) (hts _ (tb_c wd_357)) rfl rfl (by decide +kernel) rfl rfl (Nat.le_of_ble_eq_true rfl) dX11_row_53 (fun H locs hO oq hS => ?_)
        have hI := th_I.moved hI oq
        have hO : va_at D vwCl (h0, .inr (11, [.ref a5142, .ref n, .ref a5145, .ref a5147, .ref a5149, .ref a5151, .ref a5153, .ref a5155, .ref a5157, .ref a5159, .ref a5161, .ref a5163, .int 0, .int w5168, .int w5169, .int w5170, .int w5171])) H := hO
        refine lv_aload_n hx hb dX11_row_56 rfl (lv_at hl 3 rfl) ?_
        refine lv_iload_n hx hb dX11_row_57 rfl (lv_at hl 1 rfl) ?_
        refine th_put (ty := .int) hx hb hts inT11 tyX11 tyX11_ok nmX11 hown hK hO hS ⟨_, hG0⟩ rfl 14 (by decide) (hts _ (tb_c wd_359)) rfl rfl (by decide +kernel) rfl rfl (Nat.le_of_ble_eq_true rfl) dX11_row_58 (fun H locs hO oq hS => ?_)
        have hI := th_I.moved hI oq
        have hO : va_at D vwCl (h0, .inr (11, [.ref a5142, .ref n, .ref a5145, .ref a5147, .ref a5149, .ref a5151, .ref a5153, .ref a5155, .ref a5157, .ref a5159, .ref a5161, .ref a5163, .int 0, .int w5168, .int v5133, .int w5170, .int w5171])) H := hO
        refine lv_aload_n hx hb dX11_row_61 rfl (lv_at hl 3 rfl) ?_
        have hI := th_I.close hI hG0 hO (ok_15 hq5143 hq5144 hq5146 hq5148 hq5150 hq5152 hq5154 hq5156 hq5158 hq5160 hq5162 hq5164 ⟨by rw [show (0 : Int32).toInt = 0 from by decide]; omega, by rw [show (0 : Int32).toInt = 0 from by decide]; omega⟩)
        refine th_cVv (As := []) (rest := []) (n := 0) (d := 1) ⟨hx, hb, hml, hown, hts⟩ (c_X11_turnLists l E D G h0 (n) hG0 ) wd_431 wd_433 wp_2 wd_1 wd_434 (by decide +kernel) ⟨by rw [hR]; exact Nat.le_of_ble_eq_true rfl, by rw [hR]; exact Nat.le_of_ble_eq_true rfl⟩ hI hN hK hS (rc_15 hI hG0 List.not_mem_nil) rfl rfl hl.1 rfl (Nat.le_of_ble_eq_true rfl) dX11_row_62 ⟨Nat.zero_le _, Nat.zero_le _⟩ (fun H locs hI hS => ?_)
        refine lv_aload_n hx hb dX11_row_65 rfl (lv_at hl 3 rfl) ?_
        refine lv_iload_n hx hb dX11_row_66 rfl (lv_at hl 2 rfl) ?_
        refine th_cVi (As := [.int v5134]) (rest := []) (n := 1) (d := 0) ⟨hx, hb, hml, hown, hts⟩ (c_X11_accept l E D G h0 (n) hG0 v5134) wd_447 wd_449 wp_3 wd_1 wd_450 (by decide +kernel) ⟨by rw [hR]; exact Nat.le_of_ble_eq_true rfl, by rw [hR]; exact Nat.le_of_ble_eq_true rfl⟩ hI hN hK hS (rc_15 hI hG0 List.not_mem_nil) rfl rfl hl.1 rfl (Nat.le_of_ble_eq_true rfl) dX11_row_67 ⟨Nat.zero_le _, Nat.zero_le _⟩ (fun r5175 H locs hp hI hS => ?_)
        have hp := hp.symm
        subst hp
        have hpost : True := trivial
        rw [hQ]
        exact W.iret (v := v5134) hx hb hr (fun t ht hW => ⟨⟨v5134, (), rfl, hpost, by rw [ht]; exact hI, hN.warm hW, va_K.moved hW.alike hK⟩, hS.F ht⟩) hS.2.2 dX11_row_70
      · skip
        have k5176 := iv_nle (X := w5165.toInt) (Y := v5132.toInt) rfl rfl c5172
        refine lv_aload_n hx hb dX11_row_28 rfl (lv_at hl 3 rfl) ?_
        refine lv_iload_n hx hb dX11_row_29 rfl (lv_at hl 0 rfl) ?_
        have hI := th_I.close hI hG0 hO (ok_15 hq5143 hq5144 hq5146 hq5148 hq5150 hq5152 hq5154 hq5156 hq5158 hq5160 hq5162 hq5164 ⟨by omega, by omega⟩)
        refine th_cVi (As := [.int v5132]) (rest := []) (n := 1) (d := 6) ⟨hx, hb, hml, hown, hts⟩ (c_X11_pourFromTape l E D G h0 (n) hG0 v5132 ⟨by omega, by omega⟩) wd_613 wd_615 wp_9 wd_1 wd_616 (by decide +kernel) ⟨by rw [hR]; exact Nat.le_of_ble_eq_true rfl, by rw [hR]; exact Nat.le_of_ble_eq_true rfl⟩ hI hN hK hS (rc_15 hI hG0 List.not_mem_nil) rfl rfl hl.1 rfl (Nat.le_of_ble_eq_true rfl) dX11_row_30 ⟨Nat.zero_le _, Nat.zero_le _⟩ (fun r5177 H locs hp hI hS => ?_)
        have hp5178 := hp
        refine lv_if_eq (tgt := 42) hx hb dX11_row_33 (by decide) (fun c5179 => ?_) (fun c5179 => ?_)
        · skip
          have k5180 := iv_eq (X := r5177.toInt) (Y := (0)) rfl (by decide) c5179
          obtain ⟨v5181, e5182⟩ : ∃ y : Int32, y = v5133 + (1) := ⟨_, rfl⟩
          have k5183 := iv_lo v5133
          have k5184 := iv_hi v5133
          refine lv_iinc (v := v5181) (lv' := [(2, .int v5181), (3, .int v5132), (1, .int v5134), (0, .ref h0)]) hx hb dX11_row_42 hl (k := 1) rfl (by rw [e5182]; rfl) (by decide) rfl (fun ls hl => ?_)
          exact J_45 H locs ls v5181 v5134 (lv_sub hl [0, 1, 2, 3] rfl) ⟨by omega, by omega⟩ hI hS
        · skip
          have k5185 := iv_ne (X := r5177.toInt) (Y := (0)) rfl (by decide) c5179
          obtain ⟨v5186, e5187⟩ : ∃ y : Int32, y = v5134 + (1) := ⟨_, rfl⟩
          have k5188 := iv_lo v5134
          have k5189 := iv_hi v5134
          refine lv_iinc (v := v5186) (lv' := [(1, .int v5186), (3, .int v5132), (2, .int v5133), (0, .ref h0)]) hx hb dX11_row_36 hl (k := 2) rfl (by rw [e5187]; rfl) (by decide) rfl (fun ls hl => ?_)
          refine lv_goto (tgt := 45) hx hb dX11_row_39 (by decide) ?_
          exact J_45 H locs ls v5133 v5186 (lv_sub hl [2, 1, 0, 3] rfl) ⟨by omega, by omega⟩ hI hS
  refine lv_aload_n hx hb dX11_row_0 rfl (lv_at hl 0 rfl) ?_
  obtain ⟨a5190, a5193, a5195, a5197, a5199, a5201, a5203, a5205, a5207, a5209, a5211, w5213, w5216, w5217, w5218, w5219, hO, hq5191, hq5192, hq5194, hq5196, hq5198, hq5200, hq5202, hq5204, hq5206, hq5208, hq5210, hq5212, ⟨k5214, k5215⟩⟩ := op_15 hI hG0 List.not_mem_nil
  have hI := th_I.weak (a := h0) hI
  refine th_get hx hb hts inT11 hown hK hO rfl 12 (by decide) (hts _ (tb_c wd_357)) rfl rfl dX11_row_1 ?_
  refine lv_if_ne (tgt := 14) hx hb dX11_row_4 (by decide) (fun c5220 => ?_) (fun c5220 => ?_)
  · skip
    have k5221 := iv_ne (X := w5213.toInt) (Y := (0)) rfl (by decide) c5220
    refine lv_iconst (v := 0) hx hb dX11_row_14 (by decide) ?_
    refine lv_istore_n (lv' := [(1, .int 0), (0, .ref h0)]) hx hb dX11_row_15 rfl hl (by decide) rfl (fun ls hl => ?_)
    refine lv_iconst (v := 0) hx hb dX11_row_16 (by decide) ?_
    refine lv_istore_n (lv' := [(2, .int 0), (1, .int 0), (0, .ref h0)]) hx hb dX11_row_17 rfl hl (by decide) rfl (fun ls hl => ?_)
    refine lv_iconst (v := 0) hx hb dX11_row_18 (by decide) ?_
    refine lv_istore_n (lv' := [(3, .int 0), (2, .int 0), (1, .int 0), (0, .ref h0)]) hx hb dX11_row_19 rfl hl (by decide) rfl (fun ls hl => ?_)
    have hI := th_I.close hI hG0 hO (ok_15 hq5191 hq5192 hq5194 hq5196 hq5198 hq5200 hq5202 hq5204 hq5206 hq5208 hq5210 hq5212 ⟨by omega, by omega⟩)
    have zl : (0 : Int32).toInt = 0 := by decide
    exact J_20 _ s.heap [] ls 0 0 0 rfl (lv_sub hl [0, 1, 2, 3] rfl) ⟨by decide, by decide⟩ hI hS
  · skip
    have k5222 := iv_eq (X := w5213.toInt) (Y := (0)) rfl (by decide) c5220
    refine lv_aload_n hx hb dX11_row_7 rfl (lv_at hl 0 rfl) ?_
    refine lv_bipush (v := (-6)) hx hb dX11_row_8 (by decide) ?_
    have hI := th_I.close hI hG0 hO (ok_15 hq5191 hq5192 hq5194 hq5196 hq5198 hq5200 hq5202 hq5204 hq5206 hq5208 hq5210 hq5212 ⟨by omega, by omega⟩)
    refine th_cVi (As := [.int (-6)]) (rest := []) (n := 1) (d := 0) ⟨hx, hb, hml, hown, hts⟩ (c_X11_refuse l E D G h0 (n) hG0 (-6)) wd_407 wd_409 wp_0 wd_1 wd_410 (by decide +kernel) ⟨by rw [hR]; exact Nat.le_of_ble_eq_true rfl, by rw [hR]; exact Nat.le_of_ble_eq_true rfl⟩ hI hN hK hS (rc_15 hI hG0 List.not_mem_nil) rfl rfl hl.1 rfl (Nat.le_of_ble_eq_true rfl) dX11_row_10 ⟨Nat.zero_le _, Nat.zero_le _⟩ (fun r5223 H locs hp hI hS => ?_)
    have hp := hp.symm
    subst hp
    have hpost : True := trivial
    rw [hQ]
    exact W.iret (v := (-6)) hx hb hr (fun t ht hW => ⟨⟨(-6), (), rfl, hpost, by rw [ht]; exact hI, hN.warm hW, va_K.moved hW.alike hK⟩, hS.F ht⟩) hS.2.2 dX11_row_13
theorem dX11_suspects_0 : decode cX11_suspects 0 = .ok (.iload_n 1, 1) := by decide +kernel
theorem dX11_suspects_1 : decode cX11_suspects 1 = .ok (.invokestatic 269, 3) := by decide +kernel
theorem dX11_suspects_4 : decode cX11_suspects 4 = .ok (.ifCond .eq 8, 3) := by decide +kernel
theorem dX11_suspects_7 : decode cX11_suspects 7 = .ok (.iload_n 2, 1) := by decide +kernel
theorem dX11_suspects_8 : decode cX11_suspects 8 = .ok (.iconst (-1), 1) := by decide +kernel
theorem dX11_suspects_9 : decode cX11_suspects 9 = .ok (.if_icmp .ge 5, 3) := by decide +kernel
theorem dX11_suspects_12 : decode cX11_suspects 12 = .ok (.iconst (-1), 1) := by decide +kernel
theorem dX11_suspects_13 : decode cX11_suspects 13 = .ok (.ireturn, 1) := by decide +kernel
theorem dX11_suspects_14 : decode cX11_suspects 14 = .ok (.iload_n 2, 1) := by decide +kernel
theorem dX11_suspects_15 : decode cX11_suspects 15 = .ok (.iconst (-1), 1) := by decide +kernel
theorem dX11_suspects_16 : decode cX11_suspects 16 = .ok (.if_icmp .ne 14, 3) := by decide +kernel
theorem dX11_suspects_19 : decode cX11_suspects 19 = .ok (.aload_n 0, 1) := by decide +kernel
theorem dX11_suspects_20 : decode cX11_suspects 20 = .ok (.getfield 69, 3) := by decide +kernel
theorem dX11_suspects_23 : decode cX11_suspects 23 = .ok (.iload_n 1, 1) := by decide +kernel
theorem dX11_suspects_24 : decode cX11_suspects 24 = .ok (.invokevirtual 298, 3) := by decide +kernel
theorem dX11_suspects_27 : decode cX11_suspects 27 = .ok (.goto 12, 3) := by decide +kernel
theorem dX11_suspects_30 : decode cX11_suspects 30 = .ok (.aload_n 0, 1) := by decide +kernel
theorem dX11_suspects_31 : decode cX11_suspects 31 = .ok (.getfield 69, 3) := by decide +kernel
theorem dX11_suspects_34 : decode cX11_suspects 34 = .ok (.iload_n 1, 1) := by decide +kernel
theorem dX11_suspects_35 : decode cX11_suspects 35 = .ok (.iload_n 2, 1) := by decide +kernel
theorem dX11_suspects_36 : decode cX11_suspects 36 = .ok (.invokevirtual 301, 3) := by decide +kernel
theorem dX11_suspects_39 : decode cX11_suspects 39 = .ok (.ireturn, 1) := by decide +kernel
set_option maxHeartbeats 4000000 in
set_option maxRecDepth 100000 in
theorem c_X11_suspects (l : Launch) (E : Nat → ClassId) (D : va_G) (G : th_G) (h0 n : Nat) (hG0 : G h0 = some (15, n)) (x1 x2 : Int32) : Met l yX11_suspects (tb (.code yX11_suspects cX11_suspects 3 (some .int))) (rm 8) (va_Pc [.ref h0, .int x1, .int x2] (th_P E D G)) (QI E D G (fun r => True)) 0 0 (th_A G) := by
  refine Met.ofW (cc := cX11_suspects) (maxL := 3) (ret := (some .int)) (by decide) rfl ?_
  intro p e s m args below meth c s₁ B hml hv
  obtain ⟨hav, hI, hN, hK⟩ := hv
  have hx := B.exec
  have hb := B.bytes
  have hr := B.returns
  have hts := atoms_spec (ws := tb (.code yX11_suspects cX11_suspects 3 (some .int))) B.pre
  have hown : s.vm.findClass RX11 = some m.cls := findClass_of_methodNamed B.named
  have hlocks := B.notSynchronized
  have hS : va_S (th_A G) s.heap s.heap [] := va_S.rf
  have hl := lv_entry ([.ref h0, .int x1, .int x2]) (n := 3) (Nat.le_of_ble_eq_true rfl)
  rw [show entryFrame m args 3 = entryFrame m ([.ref h0, .int x1, .int x2] : List Value).toArray 3 from by rw [hav], lg_entry_eq]
  generalize (lg_sl ([.ref h0, .int x1, .int x2]) ++ List.replicate (3 - (lg_sl ([.ref h0, .int x1, .int x2])).length) Slot.unset).toArray = ls at hl ⊢
  have hl : lv_has ls 3 [(0, .ref h0), (1, .int x1), (2, .int x2)] := hl
  generalize hR : (headSpec (tb (.code yX11_suspects cX11_suspects 3 (some .int))) (rm 8)).room = R
  have hR := hR.symm
  generalize hQ : MQ below (QI E D G (fun r => True)) args s 0 0 (th_A G) = QF
  have hQ := hQ.symm
  have J_12 : ∀ (H : Heap) (locs : List Loc) (ls : Array Slot) , lv_has ls 3 [(0, .ref h0), (1, .int x1), (2, .int x2)] → th_I (okC E) D G [] H → va_S (th_A G) s.heap H locs → W p l e R s m args below meth c H locs 0 0 QF (F0 m 12 ls []) := by
    intro H locs ls  hl  hI hS
    refine lv_iconst (v := (-1)) hx hb dX11_suspects_12 (by decide) ?_
    have hpost : True := trivial
    rw [hQ]
    exact W.iret (v := (-1)) hx hb hr (fun t ht hW => ⟨⟨(-1), (), rfl, hpost, by rw [ht]; exact hI, hN.warm hW, va_K.moved hW.alike hK⟩, hS.F ht⟩) hS.2.2 dX11_suspects_13
  refine lv_iload_n hx hb dX11_suspects_0 rfl (lv_at hl 1 rfl) ?_
  refine th_cSs (As := [.int x1]) (rest := []) (n := 1) (d := 0) ⟨hx, hb, hml, hown, hts⟩ (c_X11_isColour l s.heap x1) wd_620 wd_621 wd_1 wd_622 (by decide +kernel) ⟨by rw [hR]; exact Nat.le_of_ble_eq_true rfl, by rw [hR]; exact Nat.le_of_ble_eq_true rfl⟩ hN hS rfl hl.1 rfl (Nat.le_of_ble_eq_true rfl) dX11_suspects_1 ⟨Nat.zero_le _, Nat.zero_le _⟩ (fun r585 locs hp hS => ?_)
  rcases hp with ⟨rfl, hp⟩ | ⟨rfl, hp⟩
  · skip
    try simp only [rg, not_and, Int.not_le] at hp
    have hp586 := hp
    refine lv_if_eq (tgt := 12) hx hb dX11_suspects_4 (by decide) (fun c => absurd c (by decide)) (fun _ => ?_)
    refine lv_iload_n hx hb dX11_suspects_7 rfl (lv_at hl 2 rfl) ?_
    refine lv_iconst (v := (-1)) hx hb dX11_suspects_8 (by decide) ?_
    have k587 := iv_lo x2
    have k588 := iv_hi x2
    refine lv_icmp_ge (tgt := 14) hx hb dX11_suspects_9 (by decide) (fun c589 => ?_) (fun c589 => ?_)
    · skip
      have k590 := iv_le (X := (-1)) (Y := x2.toInt) (by decide) rfl c589
      refine lv_iload_n hx hb dX11_suspects_14 rfl (lv_at hl 2 rfl) ?_
      refine lv_iconst (v := (-1)) hx hb dX11_suspects_15 (by decide) ?_
      refine lv_icmp_ne (tgt := 30) hx hb dX11_suspects_16 (by decide) (fun c591 => ?_) (fun c591 => ?_)
      · skip
        have k592 := iv_ne (X := x2.toInt) (Y := (-1)) rfl (by decide) c591
        refine lv_aload_n hx hb dX11_suspects_30 rfl (lv_at hl 0 rfl) ?_
        obtain ⟨a593, a596, a598, a600, a602, a604, a606, a608, a610, a612, a614, w616, w619, w620, w621, w622, hO, hq594, hq595, hq597, hq599, hq601, hq603, hq605, hq607, hq609, hq611, hq613, hq615, ⟨k617, k618⟩⟩ := op_15 hI hG0 List.not_mem_nil
        have hI := th_I.weak (a := h0) hI
        refine th_get hx hb hts inT11 hown hK hO rfl 9 (by decide) (hts _ (tb_c wd_354)) rfl rfl dX11_suspects_31 ?_
        refine lv_iload_n hx hb dX11_suspects_34 rfl (lv_at hl 1 rfl) ?_
        refine lv_iload_n hx hb dX11_suspects_35 rfl (lv_at hl 2 rfl) ?_
        have hI := th_I.close hI hG0 hO (ok_15 hq594 hq595 hq597 hq599 hq601 hq603 hq605 hq607 hq609 hq611 hq613 hq615 ⟨by omega, by omega⟩)
        refine th_cVi (As := [.int x1, .int x2]) (rest := []) (n := 2) (d := 7) ⟨hx, hb, hml, hown, hts⟩ (c_X5_findAlone l E D G a610 hq611 x1 x2) wd_1016 wd_1017 wd_1018 wd_10 wd_1019 (by decide +kernel) ⟨by rw [hR]; exact Nat.le_of_ble_eq_true rfl, by rw [hR]; exact Nat.le_of_ble_eq_true rfl⟩ hI hN hK hS (rc_12 hI hq611 List.not_mem_nil) rfl rfl hl.1 rfl (Nat.le_of_ble_eq_true rfl) dX11_suspects_36 ⟨Nat.zero_le _, Nat.zero_le _⟩ (fun r623 H locs hp hI hS => ?_)
        have hpost : True := trivial
        rw [hQ]
        exact W.iret (v := r623) hx hb hr (fun t ht hW => ⟨⟨r623, (), rfl, hpost, by rw [ht]; exact hI, hN.warm hW, va_K.moved hW.alike hK⟩, hS.F ht⟩) hS.2.2 dX11_suspects_39
      · skip
        have k624 := iv_eq (X := x2.toInt) (Y := (-1)) rfl (by decide) c591
        refine lv_aload_n hx hb dX11_suspects_19 rfl (lv_at hl 0 rfl) ?_
        obtain ⟨a625, a628, a630, a632, a634, a636, a638, a640, a642, a644, a646, w648, w651, w652, w653, w654, hO, hq626, hq627, hq629, hq631, hq633, hq635, hq637, hq639, hq641, hq643, hq645, hq647, ⟨k649, k650⟩⟩ := op_15 hI hG0 List.not_mem_nil
        have hI := th_I.weak (a := h0) hI
        refine th_get hx hb hts inT11 hown hK hO rfl 9 (by decide) (hts _ (tb_c wd_354)) rfl rfl dX11_suspects_20 ?_
        refine lv_iload_n hx hb dX11_suspects_23 rfl (lv_at hl 1 rfl) ?_
        have hI := th_I.close hI hG0 hO (ok_15 hq626 hq627 hq629 hq631 hq633 hq635 hq637 hq639 hq641 hq643 hq645 hq647 ⟨by omega, by omega⟩)
        refine th_cVi (As := [.int x1]) (rest := []) (n := 1) (d := 7) ⟨hx, hb, hml, hown, hts⟩ (c_X5_countAlone l E D G a642 hq643 x1) wd_995 wd_996 wd_997 wd_10 wd_998 (by decide +kernel) ⟨by rw [hR]; exact Nat.le_of_ble_eq_true rfl, by rw [hR]; exact Nat.le_of_ble_eq_true rfl⟩ hI hN hK hS (rc_12 hI hq643 List.not_mem_nil) rfl rfl hl.1 rfl (Nat.le_of_ble_eq_true rfl) dX11_suspects_24 ⟨Nat.zero_le _, Nat.zero_le _⟩ (fun r655 H locs hp hI hS => ?_)
        refine lv_goto (tgt := 39) hx hb dX11_suspects_27 (by decide) ?_
        have hpost : True := trivial
        rw [hQ]
        exact W.iret (v := r655) hx hb hr (fun t ht hW => ⟨⟨r655, (), rfl, hpost, by rw [ht]; exact hI, hN.warm hW, va_K.moved hW.alike hK⟩, hS.F ht⟩) hS.2.2 dX11_suspects_39
    · skip
      have k656 := iv_nle (X := (-1)) (Y := x2.toInt) (by decide) rfl c589
      exact J_12 s.heap locs ls  (lv_sub hl [0, 1, 2] rfl)  hI hS
  · skip
    try simp only [rg, not_and, Int.not_le] at hp
    have hp657 := hp
    refine lv_if_eq (tgt := 12) hx hb dX11_suspects_4 (by decide) (fun _ => ?_) (fun c => absurd c (by decide))
    exact J_12 s.heap locs ls  (lv_sub hl [0, 1, 2] rfl)  hI hS
theorem dX11_job_0 : decode cX11_job 0 = .ok (.iload_n 1, 1) := by decide +kernel
theorem dX11_job_1 : decode cX11_job 1 = .ok (.invokestatic 106, 3) := by decide +kernel
theorem dX11_job_4 : decode cX11_job 4 = .ok (.ifCond .eq 21, 3) := by decide +kernel
theorem dX11_job_7 : decode cX11_job 7 = .ok (.iload_n 2, 1) := by decide +kernel
theorem dX11_job_8 : decode cX11_job 8 = .ok (.iconst 1, 1) := by decide +kernel
theorem dX11_job_9 : decode cX11_job 9 = .ok (.if_icmp .lt 16, 3) := by decide +kernel
theorem dX11_job_12 : decode cX11_job 12 = .ok (.iload_n 2, 1) := by decide +kernel
theorem dX11_job_13 : decode cX11_job 13 = .ok (.bipush 6, 2) := by decide +kernel
theorem dX11_job_15 : decode cX11_job 15 = .ok (.if_icmp .gt 10, 3) := by decide +kernel
theorem dX11_job_18 : decode cX11_job 18 = .ok (.iload_n 3, 1) := by decide +kernel
theorem dX11_job_19 : decode cX11_job 19 = .ok (.invokestatic 211, 3) := by decide +kernel
theorem dX11_job_22 : decode cX11_job 22 = .ok (.ifCond .ne 9, 3) := by decide +kernel
theorem dX11_job_25 : decode cX11_job 25 = .ok (.aload_n 0, 1) := by decide +kernel
theorem dX11_job_26 : decode cX11_job 26 = .ok (.iconst (-1), 1) := by decide +kernel
theorem dX11_job_27 : decode cX11_job 27 = .ok (.invokevirtual 113, 3) := by decide +kernel
theorem dX11_job_30 : decode cX11_job 30 = .ok (.ireturn, 1) := by decide +kernel
theorem dX11_job_31 : decode cX11_job 31 = .ok (.aload_n 0, 1) := by decide +kernel
theorem dX11_job_32 : decode cX11_job 32 = .ok (.getfield 12, 3) := by decide +kernel
theorem dX11_job_35 : decode cX11_job 35 = .ok (.getfield 307, 3) := by decide +kernel
theorem dX11_job_38 : decode cX11_job 38 = .ok (.invokevirtual 149, 3) := by decide +kernel
theorem dX11_job_41 : decode cX11_job 41 = .ok (.ifCond .eq 10, 3) := by decide +kernel
theorem dX11_job_44 : decode cX11_job 44 = .ok (.aload_n 0, 1) := by decide +kernel
theorem dX11_job_45 : decode cX11_job 45 = .ok (.bipush (-5), 2) := by decide +kernel
theorem dX11_job_47 : decode cX11_job 47 = .ok (.invokevirtual 113, 3) := by decide +kernel
theorem dX11_job_50 : decode cX11_job 50 = .ok (.ireturn, 1) := by decide +kernel
theorem dX11_job_51 : decode cX11_job 51 = .ok (.aload_n 0, 1) := by decide +kernel
theorem dX11_job_52 : decode cX11_job 52 = .ok (.getfield 12, 3) := by decide +kernel
theorem dX11_job_55 : decode cX11_job 55 = .ok (.getfield 307, 3) := by decide +kernel
theorem dX11_job_58 : decode cX11_job 58 = .ok (.iload_n 1, 1) := by decide +kernel
theorem dX11_job_59 : decode cX11_job 59 = .ok (.iload_n 2, 1) := by decide +kernel
theorem dX11_job_60 : decode cX11_job 60 = .ok (.iload_n 3, 1) := by decide +kernel
theorem dX11_job_61 : decode cX11_job 61 = .ok (.iconst 0, 1) := by decide +kernel
theorem dX11_job_62 : decode cX11_job 62 = .ok (.invokevirtual 155, 3) := by decide +kernel
theorem dX11_job_65 : decode cX11_job 65 = .ok (.pop, 1) := by decide +kernel
theorem dX11_job_66 : decode cX11_job 66 = .ok (.aload_n 0, 1) := by decide +kernel
theorem dX11_job_67 : decode cX11_job 67 = .ok (.invokevirtual 191, 3) := by decide +kernel
theorem dX11_job_70 : decode cX11_job 70 = .ok (.aload_n 0, 1) := by decide +kernel
theorem dX11_job_71 : decode cX11_job 71 = .ok (.aload_n 0, 1) := by decide +kernel
theorem dX11_job_72 : decode cX11_job 72 = .ok (.getfield 12, 3) := by decide +kernel
theorem dX11_job_75 : decode cX11_job 75 = .ok (.getfield 307, 3) := by decide +kernel
theorem dX11_job_78 : decode cX11_job 78 = .ok (.invokevirtual 166, 3) := by decide +kernel
theorem dX11_job_81 : decode cX11_job 81 = .ok (.invokevirtual 127, 3) := by decide +kernel
theorem dX11_job_84 : decode cX11_job 84 = .ok (.ireturn, 1) := by decide +kernel
set_option maxHeartbeats 4000000 in
set_option maxRecDepth 100000 in
theorem c_X11_job (l : Launch) (E : Nat → ClassId) (D : va_G) (G : th_G) (h0 n : Nat) (hG0 : G h0 = some (15, n)) (x1 x2 x3 : Int32) : Met l yX11_job (tb (.code yX11_job cX11_job 4 (some .int))) (rm 2) (va_Pc [.ref h0, .int x1, .int x2, .int x3] (th_P E D G)) (QI E D G (fun r => True)) 0 0 (th_A G) := by
  refine Met.ofW (cc := cX11_job) (maxL := 4) (ret := (some .int)) (by decide) rfl ?_
  intro p e s m args below meth c s₁ B hml hv
  obtain ⟨hav, hI, hN, hK⟩ := hv
  have hx := B.exec
  have hb := B.bytes
  have hr := B.returns
  have hts := atoms_spec (ws := tb (.code yX11_job cX11_job 4 (some .int))) B.pre
  have hown : s.vm.findClass RX11 = some m.cls := findClass_of_methodNamed B.named
  have hlocks := B.notSynchronized
  have hS : va_S (th_A G) s.heap s.heap [] := va_S.rf
  have hl := lv_entry ([.ref h0, .int x1, .int x2, .int x3]) (n := 4) (Nat.le_of_ble_eq_true rfl)
  rw [show entryFrame m args 4 = entryFrame m ([.ref h0, .int x1, .int x2, .int x3] : List Value).toArray 4 from by rw [hav], lg_entry_eq]
  generalize (lg_sl ([.ref h0, .int x1, .int x2, .int x3]) ++ List.replicate (4 - (lg_sl ([.ref h0, .int x1, .int x2, .int x3])).length) Slot.unset).toArray = ls at hl ⊢
  have hl : lv_has ls 4 [(0, .ref h0), (1, .int x1), (2, .int x2), (3, .int x3)] := hl
  generalize hR : (headSpec (tb (.code yX11_job cX11_job 4 (some .int))) (rm 2)).room = R
  have hR := hR.symm
  generalize hQ : MQ below (QI E D G (fun r => True)) args s 0 0 (th_A G) = QF
  have hQ := hQ.symm
  have J_25 : ∀ (H : Heap) (locs : List Loc) (ls : Array Slot) , lv_has ls 4 [(0, .ref h0), (1, .int x1), (2, .int x2), (3, .int x3)] → th_I (okC E) D G [] H → va_S (th_A G) s.heap H locs → W p l e R s m args below meth c H locs 0 0 QF (F0 m 25 ls []) := by
    intro H locs ls  hl  hI hS
    refine lv_aload_n hx hb dX11_job_25 rfl (lv_at hl 0 rfl) ?_
    refine lv_iconst (v := (-1)) hx hb dX11_job_26 (by decide) ?_
    refine th_cVi (As := [.int (-1)]) (rest := []) (n := 1) (d := 0) ⟨hx, hb, hml, hown, hts⟩ (c_X11_refuse l E D G h0 (n) hG0 (-1)) wd_407 wd_409 wp_0 wd_1 wd_410 (by decide +kernel) ⟨by rw [hR]; exact Nat.le_of_ble_eq_true rfl, by rw [hR]; exact Nat.le_of_ble_eq_true rfl⟩ hI hN hK hS (rc_15 hI hG0 List.not_mem_nil) rfl rfl hl.1 rfl (Nat.le_of_ble_eq_true rfl) dX11_job_27 ⟨Nat.zero_le _, Nat.zero_le _⟩ (fun r1640 H locs hp hI hS => ?_)
    have hp := hp.symm
    subst hp
    have hpost : True := trivial
    rw [hQ]
    exact W.iret (v := (-1)) hx hb hr (fun t ht hW => ⟨⟨(-1), (), rfl, hpost, by rw [ht]; exact hI, hN.warm hW, va_K.moved hW.alike hK⟩, hS.F ht⟩) hS.2.2 dX11_job_30
  refine lv_iload_n hx hb dX11_job_0 rfl (lv_at hl 1 rfl) ?_
  refine th_cSs (As := [.int x1]) (rest := []) (n := 1) (d := 0) ⟨hx, hb, hml, hown, hts⟩ (c_X11_isCell l s.heap x1) wd_401 wd_402 wd_1 wd_403 (by decide +kernel) ⟨by rw [hR]; exact Nat.le_of_ble_eq_true rfl, by rw [hR]; exact Nat.le_of_ble_eq_true rfl⟩ hN hS rfl hl.1 rfl (Nat.le_of_ble_eq_true rfl) dX11_job_1 ⟨Nat.zero_le _, Nat.zero_le _⟩ (fun r1641 locs hp hS => ?_)
  rcases hp with ⟨rfl, hp⟩ | ⟨rfl, hp⟩
  · skip
    try simp only [rg, not_and, Int.not_le] at hp
    have hp1642 := hp
    refine lv_if_eq (tgt := 25) hx hb dX11_job_4 (by decide) (fun c => absurd c (by decide)) (fun _ => ?_)
    refine lv_iload_n hx hb dX11_job_7 rfl (lv_at hl 2 rfl) ?_
    refine lv_iconst (v := 1) hx hb dX11_job_8 (by decide) ?_
    have k1643 := iv_lo x2
    have k1644 := iv_hi x2
    refine lv_icmp_lt (tgt := 25) hx hb dX11_job_9 (by decide) (fun c1645 => ?_) (fun c1645 => ?_)
    · skip
      have k1646 := iv_lt (X := x2.toInt) (Y := (1)) rfl (by decide) c1645
      exact J_25 s.heap locs ls  (lv_sub hl [0, 1, 2, 3] rfl)  hI hS
    · skip
      have k1647 := iv_nlt (X := x2.toInt) (Y := (1)) rfl (by decide) c1645
      refine lv_iload_n hx hb dX11_job_12 rfl (lv_at hl 2 rfl) ?_
      refine lv_bipush (v := 6) hx hb dX11_job_13 (by decide) ?_
      refine lv_icmp_gt (tgt := 25) hx hb dX11_job_15 (by decide) (fun c1648 => ?_) (fun c1648 => ?_)
      · skip
        have k1649 := iv_lt (X := (6)) (Y := x2.toInt) (by decide) rfl c1648
        exact J_25 s.heap locs ls  (lv_sub hl [0, 1, 2, 3] rfl)  hI hS
      · skip
        have k1650 := iv_nlt (X := (6)) (Y := x2.toInt) (by decide) rfl c1648
        refine lv_iload_n hx hb dX11_job_18 rfl (lv_at hl 3 rfl) ?_
        refine th_cSs (As := [.int x3]) (rest := []) (n := 1) (d := 0) ⟨hx, hb, hml, hown, hts⟩ (c_X11_isHour l s.heap x3) wd_466 wd_467 wd_1 wd_468 (by decide +kernel) ⟨by rw [hR]; exact Nat.le_of_ble_eq_true rfl, by rw [hR]; exact Nat.le_of_ble_eq_true rfl⟩ hN hS rfl hl.1 rfl (Nat.le_of_ble_eq_true rfl) dX11_job_19 ⟨Nat.zero_le _, Nat.zero_le _⟩ (fun r1651 locs hp hS => ?_)
        rcases hp with ⟨rfl, hp⟩ | ⟨rfl, hp⟩
        · skip
          try simp only [rg, not_and, Int.not_le] at hp
          have hp1652 := hp
          refine lv_if_ne (tgt := 31) hx hb dX11_job_22 (by decide) (fun _ => ?_) (fun c => absurd c (by decide))
          refine lv_aload_n hx hb dX11_job_31 rfl (lv_at hl 0 rfl) ?_
          obtain ⟨a1653, a1656, a1658, a1660, a1662, a1664, a1666, a1668, a1670, a1672, a1674, w1676, w1679, w1680, w1681, w1682, hO, hq1654, hq1655, hq1657, hq1659, hq1661, hq1663, hq1665, hq1667, hq1669, hq1671, hq1673, hq1675, ⟨k1677, k1678⟩⟩ := op_15 hI hG0 List.not_mem_nil
          have hI := th_I.weak (a := h0) hI
          refine th_get hx hb hts inT11 hown hK hO rfl 0 (by decide) (hts _ (tb_c wd_345)) rfl rfl dX11_job_32 ?_
          have hI := th_I.close hI hG0 hO (ok_15 hq1654 hq1655 hq1657 hq1659 hq1661 hq1663 hq1665 hq1667 hq1669 hq1671 hq1673 hq1675 ⟨by omega, by omega⟩)
          obtain ⟨a1683, a1685, a1687, a1689, a1691, a1693, a1695, a1697, a1699, a1701, w1703, w1706, w1707, w1708, hO, hq1684, hq1686, hq1688, hq1690, hq1692, hq1694, hq1696, hq1698, hq1700, hq1702, ⟨k1704, k1705⟩⟩ := op_6 hI hq1654 List.not_mem_nil
          have hI := th_I.weak (a := a1653) hI
          refine th_getN hx hb hts inT6 hown hK hN hO rfl 7 (by decide) wn_77 rfl rfl dX11_job_35 ?_
          have hI := th_I.close hI hq1654 hO (ok_6 hq1684 hq1686 hq1688 hq1690 hq1692 hq1694 hq1696 hq1698 hq1700 hq1702 ⟨by omega, by omega⟩)
          obtain ⟨a1710, w1712, hO, hq1711, ⟨k1713, k1714⟩, k1715⟩ := op_4 hI hq1698 List.not_mem_nil
          have hI := th_I.weak (a := a1697) hI
          have k1716 : (nI 6).toInt = ((6 : Nat) : Int) := nI_toInt (by omega)
          refine th_cVs (As := []) (rest := []) (n := 0) (d := 0) ⟨hx, hb, hml, hown, hts⟩ (c_X4_isFull l E D s.heap a1697 6 a1710 w1712 hO (by omega) (by omega) (by omega)) wd_481 wd_482 wd_483 wd_3 wd_484 (by decide +kernel) ⟨by rw [hR]; exact Nat.le_of_ble_eq_true rfl, by rw [hR]; exact Nat.le_of_ble_eq_true rfl⟩ hN hK hS ⟨_, hO⟩ rfl rfl hl.1 rfl (Nat.le_of_ble_eq_true rfl) dX11_job_38 ⟨Nat.zero_le _, Nat.zero_le _⟩ (fun r1709 locs hp hS => ?_)
          rcases hp with ⟨rfl, hp⟩ | ⟨rfl, hp⟩
          · skip
            try simp only [rg, not_and, Int.not_le] at hp
            have hp1717 := hp
            refine lv_if_eq (tgt := 51) hx hb dX11_job_41 (by decide) (fun c => absurd c (by decide)) (fun _ => ?_)
            refine lv_aload_n hx hb dX11_job_44 rfl (lv_at hl 0 rfl) ?_
            refine lv_bipush (v := (-5)) hx hb dX11_job_45 (by decide) ?_
            have hI := th_I.close hI hq1698 hO (ok_4 hq1711 ⟨by omega, by omega⟩ (by omega))
            refine th_cVi (As := [.int (-5)]) (rest := []) (n := 1) (d := 0) ⟨hx, hb, hml, hown, hts⟩ (c_X11_refuse l E D G h0 (n) hG0 (-5)) wd_407 wd_409 wp_0 wd_1 wd_410 (by decide +kernel) ⟨by rw [hR]; exact Nat.le_of_ble_eq_true rfl, by rw [hR]; exact Nat.le_of_ble_eq_true rfl⟩ hI hN hK hS (rc_15 hI hG0 List.not_mem_nil) rfl rfl hl.1 rfl (Nat.le_of_ble_eq_true rfl) dX11_job_47 ⟨Nat.zero_le _, Nat.zero_le _⟩ (fun r1718 H locs hp hI hS => ?_)
            have hp := hp.symm
            subst hp
            have hpost : True := trivial
            rw [hQ]
            exact W.iret (v := (-5)) hx hb hr (fun t ht hW => ⟨⟨(-5), (), rfl, hpost, by rw [ht]; exact hI, hN.warm hW, va_K.moved hW.alike hK⟩, hS.F ht⟩) hS.2.2 dX11_job_50
          · skip
            have hp1719 := hp
            refine lv_if_eq (tgt := 51) hx hb dX11_job_41 (by decide) (fun _ => ?_) (fun c => absurd c (by decide))
            refine lv_aload_n hx hb dX11_job_51 rfl (lv_at hl 0 rfl) ?_
            have hI := th_I.close hI hq1698 hO (ok_4 hq1711 ⟨by omega, by omega⟩ (by omega))
            obtain ⟨a1720, a1723, a1725, a1727, a1729, a1731, a1733, a1735, a1737, a1739, a1741, w1743, w1746, w1747, w1748, w1749, hO, hq1721, hq1722, hq1724, hq1726, hq1728, hq1730, hq1732, hq1734, hq1736, hq1738, hq1740, hq1742, ⟨k1744, k1745⟩⟩ := op_15 hI hG0 List.not_mem_nil
            have hI := th_I.weak (a := h0) hI
            refine th_get hx hb hts inT11 hown hK hO rfl 0 (by decide) (hts _ (tb_c wd_345)) rfl rfl dX11_job_52 ?_
            have hI := th_I.close hI hG0 hO (ok_15 hq1721 hq1722 hq1724 hq1726 hq1728 hq1730 hq1732 hq1734 hq1736 hq1738 hq1740 hq1742 ⟨by omega, by omega⟩)
            obtain ⟨a1750, a1752, a1754, a1756, a1758, a1760, a1762, a1764, a1766, a1768, w1770, w1773, w1774, w1775, hO, hq1751, hq1753, hq1755, hq1757, hq1759, hq1761, hq1763, hq1765, hq1767, hq1769, ⟨k1771, k1772⟩⟩ := op_6 hI hq1721 List.not_mem_nil
            have hI := th_I.weak (a := a1720) hI
            refine th_getN hx hb hts inT6 hown hK hN hO rfl 7 (by decide) wn_77 rfl rfl dX11_job_55 ?_
            refine lv_iload_n hx hb dX11_job_58 rfl (lv_at hl 1 rfl) ?_
            refine lv_iload_n hx hb dX11_job_59 rfl (lv_at hl 2 rfl) ?_
            refine lv_iload_n hx hb dX11_job_60 rfl (lv_at hl 3 rfl) ?_
            refine lv_iconst (v := 0) hx hb dX11_job_61 (by decide) ?_
            have hI := th_I.close hI hq1721 hO (ok_6 hq1751 hq1753 hq1755 hq1757 hq1759 hq1761 hq1763 hq1765 hq1767 hq1769 ⟨by omega, by omega⟩)
            refine th_cVi (As := [.int x1, .int x2, .int x3, .int 0]) (rest := []) (n := 4) (d := 1) ⟨hx, hb, hml, hown, hts⟩ (c_X4_put l E D G a1764 (6) hq1765 x1 x2 x3 0) wd_485 wd_486 wd_487 wd_3 wd_488 (by decide +kernel) ⟨by rw [hR]; exact Nat.le_of_ble_eq_true rfl, by rw [hR]; exact Nat.le_of_ble_eq_true rfl⟩ hI hN hK hS (rc_4 hI hq1765 List.not_mem_nil) rfl rfl hl.1 rfl (Nat.le_of_ble_eq_true rfl) dX11_job_62 ⟨Nat.zero_le _, Nat.zero_le _⟩ (fun r1776 H locs hp hI hS => ?_)
            refine lv_pop hx hb dX11_job_65 rfl ?_
            refine lv_aload_n hx hb dX11_job_66 rfl (lv_at hl 0 rfl) ?_
            refine th_cVv (As := []) (rest := []) (n := 0) (d := 1) ⟨hx, hb, hml, hown, hts⟩ (c_X11_turnLists l E D G h0 (n) hG0 ) wd_431 wd_433 wp_2 wd_1 wd_434 (by decide +kernel) ⟨by rw [hR]; exact Nat.le_of_ble_eq_true rfl, by rw [hR]; exact Nat.le_of_ble_eq_true rfl⟩ hI hN hK hS (rc_15 hI hG0 List.not_mem_nil) rfl rfl hl.1 rfl (Nat.le_of_ble_eq_true rfl) dX11_job_67 ⟨Nat.zero_le _, Nat.zero_le _⟩ (fun H locs hI hS => ?_)
            refine lv_aload_n hx hb dX11_job_70 rfl (lv_at hl 0 rfl) ?_
            refine lv_aload_n hx hb dX11_job_71 rfl (lv_at hl 0 rfl) ?_
            obtain ⟨a1778, a1781, a1783, a1785, a1787, a1789, a1791, a1793, a1795, a1797, a1799, w1801, w1804, w1805, w1806, w1807, hO, hq1779, hq1780, hq1782, hq1784, hq1786, hq1788, hq1790, hq1792, hq1794, hq1796, hq1798, hq1800, ⟨k1802, k1803⟩⟩ := op_15 hI hG0 List.not_mem_nil
            have hI := th_I.weak (a := h0) hI
            refine th_get hx hb hts inT11 hown hK hO rfl 0 (by decide) (hts _ (tb_c wd_345)) rfl rfl dX11_job_72 ?_
            have hI := th_I.close hI hG0 hO (ok_15 hq1779 hq1780 hq1782 hq1784 hq1786 hq1788 hq1790 hq1792 hq1794 hq1796 hq1798 hq1800 ⟨by omega, by omega⟩)
            obtain ⟨a1808, a1810, a1812, a1814, a1816, a1818, a1820, a1822, a1824, a1826, w1828, w1831, w1832, w1833, hO, hq1809, hq1811, hq1813, hq1815, hq1817, hq1819, hq1821, hq1823, hq1825, hq1827, ⟨k1829, k1830⟩⟩ := op_6 hI hq1779 List.not_mem_nil
            have hI := th_I.weak (a := a1778) hI
            refine th_getN hx hb hts inT6 hown hK hN hO rfl 7 (by decide) wn_77 rfl rfl dX11_job_75 ?_
            have hI := th_I.close hI hq1779 hO (ok_6 hq1809 hq1811 hq1813 hq1815 hq1817 hq1819 hq1821 hq1823 hq1825 hq1827 ⟨by omega, by omega⟩)
            obtain ⟨a1835, w1837, hO, hq1836, ⟨k1838, k1839⟩, k1840⟩ := op_4 hI hq1823 List.not_mem_nil
            have hI := th_I.weak (a := a1822) hI
            have k1841 : (nI 6).toInt = ((6 : Nat) : Int) := nI_toInt (by omega)
            refine th_cVs (As := []) (rest := [.ref h0]) (n := 0) (d := 0) ⟨hx, hb, hml, hown, hts⟩ (c_X4_size l E D H a1822 6 a1835 w1837 hO (by omega) (by omega) (by omega)) wd_506 wd_507 wd_508 wd_3 wd_509 (by decide +kernel) ⟨by rw [hR]; exact Nat.le_of_ble_eq_true rfl, by rw [hR]; exact Nat.le_of_ble_eq_true rfl⟩ hN hK hS ⟨_, hO⟩ rfl rfl hl.1 rfl (Nat.le_of_ble_eq_true rfl) dX11_job_78 ⟨Nat.zero_le _, Nat.zero_le _⟩ (fun r1834 locs hp hS => ?_)
            have hp := hp.symm
            subst hp
            have hI := th_I.close hI hq1823 hO (ok_4 hq1836 ⟨by omega, by omega⟩ (by omega))
            refine th_cVi (As := [.int w1837]) (rest := []) (n := 1) (d := 0) ⟨hx, hb, hml, hown, hts⟩ (c_X11_accept l E D G h0 (n) hG0 w1837) wd_447 wd_449 wp_3 wd_1 wd_450 (by decide +kernel) ⟨by rw [hR]; exact Nat.le_of_ble_eq_true rfl, by rw [hR]; exact Nat.le_of_ble_eq_true rfl⟩ hI hN hK hS (rc_15 hI hG0 List.not_mem_nil) rfl rfl hl.1 rfl (Nat.le_of_ble_eq_true rfl) dX11_job_81 ⟨Nat.zero_le _, Nat.zero_le _⟩ (fun r1842 H locs hp hI hS => ?_)
            have hp := hp.symm
            subst hp
            have hpost : True := trivial
            rw [hQ]
            exact W.iret (v := w1837) hx hb hr (fun t ht hW => ⟨⟨w1837, (), rfl, hpost, by rw [ht]; exact hI, hN.warm hW, va_K.moved hW.alike hK⟩, hS.F ht⟩) hS.2.2 dX11_job_84
        · skip
          try simp only [rg, not_and, Int.not_le] at hp
          have hp1843 := hp
          refine lv_if_ne (tgt := 31) hx hb dX11_job_22 (by decide) (fun c => absurd c (by decide)) (fun _ => ?_)
          exact J_25 s.heap locs ls  (lv_sub hl [0, 1, 2, 3] rfl)  hI hS
  · skip
    try simp only [rg, not_and, Int.not_le] at hp
    have hp1844 := hp
    refine lv_if_eq (tgt := 25) hx hb dX11_job_4 (by decide) (fun _ => ?_) (fun c => absurd c (by decide))
    exact J_25 s.heap locs ls  (lv_sub hl [0, 1, 2, 3] rfl)  hI hS
theorem dX11_hang_0 : decode cX11_hang 0 = .ok (.aload_n 0, 1) := by decide +kernel
theorem dX11_hang_1 : decode cX11_hang 1 = .ok (.invokevirtual 191, 3) := by decide +kernel
theorem dX11_hang_4 : decode cX11_hang 4 = .ok (.aload_n 0, 1) := by decide +kernel
theorem dX11_hang_5 : decode cX11_hang 5 = .ok (.getfield 12, 3) := by decide +kernel
theorem dX11_hang_8 : decode cX11_hang 8 = .ok (.getfield 307, 3) := by decide +kernel
theorem dX11_hang_11 : decode cX11_hang 11 = .ok (.invokevirtual 295, 3) := by decide +kernel
theorem dX11_hang_14 : decode cX11_hang 14 = .ok (.ireturn, 1) := by decide +kernel
set_option maxHeartbeats 4000000 in
set_option maxRecDepth 100000 in
theorem c_X11_hang (l : Launch) (E : Nat → ClassId) (D : va_G) (G : th_G) (h0 n : Nat) (hG0 : G h0 = some (15, n)) : Met l yX11_hang (tb (.code yX11_hang cX11_hang 1 (some .int))) (rm 2) (va_Pc [.ref h0] (th_P E D G)) (QI E D G (fun r => True)) 0 0 (th_A G) := by
  refine Met.ofW (cc := cX11_hang) (maxL := 1) (ret := (some .int)) (by decide) rfl ?_
  intro p e s m args below meth c s₁ B hml hv
  obtain ⟨hav, hI, hN, hK⟩ := hv
  have hx := B.exec
  have hb := B.bytes
  have hr := B.returns
  have hts := atoms_spec (ws := tb (.code yX11_hang cX11_hang 1 (some .int))) B.pre
  have hown : s.vm.findClass RX11 = some m.cls := findClass_of_methodNamed B.named
  have hlocks := B.notSynchronized
  have hS : va_S (th_A G) s.heap s.heap [] := va_S.rf
  have hl := lv_entry ([.ref h0]) (n := 1) (Nat.le_of_ble_eq_true rfl)
  rw [show entryFrame m args 1 = entryFrame m ([.ref h0] : List Value).toArray 1 from by rw [hav], lg_entry_eq]
  generalize (lg_sl ([.ref h0]) ++ List.replicate (1 - (lg_sl ([.ref h0])).length) Slot.unset).toArray = ls at hl ⊢
  have hl : lv_has ls 1 [(0, .ref h0)] := hl
  generalize hR : (headSpec (tb (.code yX11_hang cX11_hang 1 (some .int))) (rm 2)).room = R
  have hR := hR.symm
  generalize hQ : MQ below (QI E D G (fun r => True)) args s 0 0 (th_A G) = QF
  have hQ := hQ.symm
  refine lv_aload_n hx hb dX11_hang_0 rfl (lv_at hl 0 rfl) ?_
  refine th_cVv (As := []) (rest := []) (n := 0) (d := 1) ⟨hx, hb, hml, hown, hts⟩ (c_X11_turnLists l E D G h0 (n) hG0 ) wd_431 wd_433 wp_2 wd_1 wd_434 (by decide +kernel) ⟨by rw [hR]; exact Nat.le_of_ble_eq_true rfl, by rw [hR]; exact Nat.le_of_ble_eq_true rfl⟩ hI hN hK hS (rc_15 hI hG0 List.not_mem_nil) rfl rfl hl.1 rfl (Nat.le_of_ble_eq_true rfl) dX11_hang_1 ⟨Nat.zero_le _, Nat.zero_le _⟩ (fun H locs hI hS => ?_)
  refine lv_aload_n hx hb dX11_hang_4 rfl (lv_at hl 0 rfl) ?_
  obtain ⟨a2, a5, a7, a9, a11, a13, a15, a17, a19, a21, a23, w25, w28, w29, w30, w31, hO, hq3, hq4, hq6, hq8, hq10, hq12, hq14, hq16, hq18, hq20, hq22, hq24, ⟨k26, k27⟩⟩ := op_15 hI hG0 List.not_mem_nil
  have hI := th_I.weak (a := h0) hI
  refine th_get hx hb hts inT11 hown hK hO rfl 0 (by decide) (hts _ (tb_c wd_345)) rfl rfl dX11_hang_5 ?_
  have hI := th_I.close hI hG0 hO (ok_15 hq3 hq4 hq6 hq8 hq10 hq12 hq14 hq16 hq18 hq20 hq22 hq24 ⟨by omega, by omega⟩)
  obtain ⟨a32, a34, a36, a38, a40, a42, a44, a46, a48, a50, w52, w55, w56, w57, hO, hq33, hq35, hq37, hq39, hq41, hq43, hq45, hq47, hq49, hq51, ⟨k53, k54⟩⟩ := op_6 hI hq3 List.not_mem_nil
  have hI := th_I.weak (a := a2) hI
  refine th_getN hx hb hts inT6 hown hK hN hO rfl 7 (by decide) wn_77 rfl rfl dX11_hang_8 ?_
  have hI := th_I.close hI hq3 hO (ok_6 hq33 hq35 hq37 hq39 hq41 hq43 hq45 hq47 hq49 hq51 ⟨by omega, by omega⟩)
  refine th_cVi (As := []) (rest := []) (n := 0) (d := 0) ⟨hx, hb, hml, hown, hts⟩ (c_X4_clear l E D G a46 (6) hq47 ) wd_983 wd_984 wd_985 wd_3 wd_986 (by decide +kernel) ⟨by rw [hR]; exact Nat.le_of_ble_eq_true rfl, by rw [hR]; exact Nat.le_of_ble_eq_true rfl⟩ hI hN hK hS (rc_4 hI hq47 List.not_mem_nil) rfl rfl hl.1 rfl (Nat.le_of_ble_eq_true rfl) dX11_hang_11 ⟨Nat.zero_le _, Nat.zero_le _⟩ (fun r58 H locs hp hI hS => ?_)
  have hpost : True := trivial
  rw [hQ]
  exact W.iret (v := r58) hx hb hr (fun t ht hW => ⟨⟨r58, (), rfl, hpost, by rw [ht]; exact hI, hN.warm hW, va_K.moved hW.alike hK⟩, hS.F ht⟩) hS.2.2 dX11_hang_14
theorem dX11_lovers_0 : decode cX11_lovers 0 = .ok (.iload_n 1, 1) := by decide +kernel
theorem dX11_lovers_1 : decode cX11_lovers 1 = .ok (.invokestatic 106, 3) := by decide +kernel
theorem dX11_lovers_4 : decode cX11_lovers 4 = .ok (.ifCond .eq 25, 3) := by decide +kernel
theorem dX11_lovers_7 : decode cX11_lovers 7 = .ok (.iload_n 2, 1) := by decide +kernel
theorem dX11_lovers_8 : decode cX11_lovers 8 = .ok (.invokestatic 106, 3) := by decide +kernel
theorem dX11_lovers_11 : decode cX11_lovers 11 = .ok (.ifCond .eq 18, 3) := by decide +kernel
theorem dX11_lovers_14 : decode cX11_lovers 14 = .ok (.iload_n 3, 1) := by decide +kernel
theorem dX11_lovers_15 : decode cX11_lovers 15 = .ok (.invokestatic 226, 3) := by decide +kernel
theorem dX11_lovers_18 : decode cX11_lovers 18 = .ok (.ifCond .eq 11, 3) := by decide +kernel
theorem dX11_lovers_21 : decode cX11_lovers 21 = .ok (.iload 4, 2) := by decide +kernel
theorem dX11_lovers_23 : decode cX11_lovers 23 = .ok (.invokestatic 138, 3) := by decide +kernel
theorem dX11_lovers_26 : decode cX11_lovers 26 = .ok (.ifCond .ne 5, 3) := by decide +kernel
theorem dX11_lovers_29 : decode cX11_lovers 29 = .ok (.iconst (-1), 1) := by decide +kernel
theorem dX11_lovers_30 : decode cX11_lovers 30 = .ok (.ireturn, 1) := by decide +kernel
theorem dX11_lovers_31 : decode cX11_lovers 31 = .ok (.iload_n 1, 1) := by decide +kernel
theorem dX11_lovers_32 : decode cX11_lovers 32 = .ok (.iload_n 2, 1) := by decide +kernel
theorem dX11_lovers_33 : decode cX11_lovers 33 = .ok (.if_icmp .ne 7, 3) := by decide +kernel
theorem dX11_lovers_36 : decode cX11_lovers 36 = .ok (.iload_n 3, 1) := by decide +kernel
theorem dX11_lovers_37 : decode cX11_lovers 37 = .ok (.goto 15, 3) := by decide +kernel
theorem dX11_lovers_40 : decode cX11_lovers 40 = .ok (.aload_n 0, 1) := by decide +kernel
theorem dX11_lovers_41 : decode cX11_lovers 41 = .ok (.getfield 78, 3) := by decide +kernel
theorem dX11_lovers_44 : decode cX11_lovers 44 = .ok (.iload_n 1, 1) := by decide +kernel
theorem dX11_lovers_45 : decode cX11_lovers 45 = .ok (.iload_n 2, 1) := by decide +kernel
theorem dX11_lovers_46 : decode cX11_lovers 46 = .ok (.iload_n 3, 1) := by decide +kernel
theorem dX11_lovers_47 : decode cX11_lovers 47 = .ok (.iload 4, 2) := by decide +kernel
theorem dX11_lovers_49 : decode cX11_lovers 49 = .ok (.invokevirtual 313, 3) := by decide +kernel
theorem dX11_lovers_52 : decode cX11_lovers 52 = .ok (.ireturn, 1) := by decide +kernel
set_option maxHeartbeats 4000000 in
set_option maxRecDepth 100000 in
theorem c_X11_lovers (l : Launch) (E : Nat → ClassId) (D : va_G) (G : th_G) (h0 n : Nat) (hG0 : G h0 = some (15, n)) (x1 x2 x3 x4 : Int32) : Met l yX11_lovers (tb (.code yX11_lovers cX11_lovers 5 (some .int))) (rm 8) (va_Pc [.ref h0, .int x1, .int x2, .int x3, .int x4] (th_P E D G)) (QI E D G (fun r => True)) 0 0 (th_A G) := by
  refine Met.ofW (cc := cX11_lovers) (maxL := 5) (ret := (some .int)) (by decide) rfl ?_
  intro p e s m args below meth c s₁ B hml hv
  obtain ⟨hav, hI, hN, hK⟩ := hv
  have hx := B.exec
  have hb := B.bytes
  have hr := B.returns
  have hts := atoms_spec (ws := tb (.code yX11_lovers cX11_lovers 5 (some .int))) B.pre
  have hown : s.vm.findClass RX11 = some m.cls := findClass_of_methodNamed B.named
  have hlocks := B.notSynchronized
  have hS : va_S (th_A G) s.heap s.heap [] := va_S.rf
  have hl := lv_entry ([.ref h0, .int x1, .int x2, .int x3, .int x4]) (n := 5) (Nat.le_of_ble_eq_true rfl)
  rw [show entryFrame m args 5 = entryFrame m ([.ref h0, .int x1, .int x2, .int x3, .int x4] : List Value).toArray 5 from by rw [hav], lg_entry_eq]
  generalize (lg_sl ([.ref h0, .int x1, .int x2, .int x3, .int x4]) ++ List.replicate (5 - (lg_sl ([.ref h0, .int x1, .int x2, .int x3, .int x4])).length) Slot.unset).toArray = ls at hl ⊢
  have hl : lv_has ls 5 [(0, .ref h0), (1, .int x1), (2, .int x2), (3, .int x3), (4, .int x4)] := hl
  generalize hR : (headSpec (tb (.code yX11_lovers cX11_lovers 5 (some .int))) (rm 8)).room = R
  have hR := hR.symm
  generalize hQ : MQ below (QI E D G (fun r => True)) args s 0 0 (th_A G) = QF
  have hQ := hQ.symm
  have J_29 : ∀ (H : Heap) (locs : List Loc) (ls : Array Slot) , lv_has ls 5 [(0, .ref h0), (1, .int x1), (2, .int x2), (3, .int x3), (4, .int x4)] → th_I (okC E) D G [] H → va_S (th_A G) s.heap H locs → W p l e R s m args below meth c H locs 0 0 QF (F0 m 29 ls []) := by
    intro H locs ls  hl  hI hS
    refine lv_iconst (v := (-1)) hx hb dX11_lovers_29 (by decide) ?_
    have hpost : True := trivial
    rw [hQ]
    exact W.iret (v := (-1)) hx hb hr (fun t ht hW => ⟨⟨(-1), (), rfl, hpost, by rw [ht]; exact hI, hN.warm hW, va_K.moved hW.alike hK⟩, hS.F ht⟩) hS.2.2 dX11_lovers_30
  refine lv_iload_n hx hb dX11_lovers_0 rfl (lv_at hl 1 rfl) ?_
  refine th_cSs (As := [.int x1]) (rest := []) (n := 1) (d := 0) ⟨hx, hb, hml, hown, hts⟩ (c_X11_isCell l s.heap x1) wd_401 wd_402 wd_1 wd_403 (by decide +kernel) ⟨by rw [hR]; exact Nat.le_of_ble_eq_true rfl, by rw [hR]; exact Nat.le_of_ble_eq_true rfl⟩ hN hS rfl hl.1 rfl (Nat.le_of_ble_eq_true rfl) dX11_lovers_1 ⟨Nat.zero_le _, Nat.zero_le _⟩ (fun r369 locs hp hS => ?_)
  rcases hp with ⟨rfl, hp⟩ | ⟨rfl, hp⟩
  · skip
    try simp only [rg, not_and, Int.not_le] at hp
    have hp370 := hp
    refine lv_if_eq (tgt := 29) hx hb dX11_lovers_4 (by decide) (fun c => absurd c (by decide)) (fun _ => ?_)
    refine lv_iload_n hx hb dX11_lovers_7 rfl (lv_at hl 2 rfl) ?_
    refine th_cSs (As := [.int x2]) (rest := []) (n := 1) (d := 0) ⟨hx, hb, hml, hown, hts⟩ (c_X11_isCell l s.heap x2) wd_401 wd_402 wd_1 wd_403 (by decide +kernel) ⟨by rw [hR]; exact Nat.le_of_ble_eq_true rfl, by rw [hR]; exact Nat.le_of_ble_eq_true rfl⟩ hN hS rfl hl.1 rfl (Nat.le_of_ble_eq_true rfl) dX11_lovers_8 ⟨Nat.zero_le _, Nat.zero_le _⟩ (fun r371 locs hp hS => ?_)
    rcases hp with ⟨rfl, hp⟩ | ⟨rfl, hp⟩
    · skip
      try simp only [rg, not_and, Int.not_le] at hp
      have hp372 := hp
      refine lv_if_eq (tgt := 29) hx hb dX11_lovers_11 (by decide) (fun c => absurd c (by decide)) (fun _ => ?_)
      refine lv_iload_n hx hb dX11_lovers_14 rfl (lv_at hl 3 rfl) ?_
      refine th_cSs (As := [.int x3]) (rest := []) (n := 1) (d := 0) ⟨hx, hb, hml, hown, hts⟩ (c_X11_isMoment l s.heap x3) wd_826 wd_827 wd_1 wd_828 (by decide +kernel) ⟨by rw [hR]; exact Nat.le_of_ble_eq_true rfl, by rw [hR]; exact Nat.le_of_ble_eq_true rfl⟩ hN hS rfl hl.1 rfl (Nat.le_of_ble_eq_true rfl) dX11_lovers_15 ⟨Nat.zero_le _, Nat.zero_le _⟩ (fun r373 locs hp hS => ?_)
      rcases hp with ⟨rfl, hp⟩ | ⟨rfl, hp⟩
      · skip
        try simp only [rg, not_and, Int.not_le] at hp
        have hp374 := hp
        refine lv_if_eq (tgt := 29) hx hb dX11_lovers_18 (by decide) (fun c => absurd c (by decide)) (fun _ => ?_)
        refine lv_iload hx hb dX11_lovers_21 (lv_at hl 4 rfl) ?_
        refine th_cSs (As := [.int x4]) (rest := []) (n := 1) (d := 0) ⟨hx, hb, hml, hown, hts⟩ (c_X11_isFlag l s.heap x4) wd_469 wd_470 wd_1 wd_471 (by decide +kernel) ⟨by rw [hR]; exact Nat.le_of_ble_eq_true rfl, by rw [hR]; exact Nat.le_of_ble_eq_true rfl⟩ hN hS rfl hl.1 rfl (Nat.le_of_ble_eq_true rfl) dX11_lovers_23 ⟨Nat.zero_le _, Nat.zero_le _⟩ (fun r375 locs hp hS => ?_)
        rcases hp with ⟨rfl, hp⟩ | ⟨rfl, hp⟩
        · skip
          try simp only [rg, not_and, Int.not_le] at hp
          have hp376 := hp
          refine lv_if_ne (tgt := 31) hx hb dX11_lovers_26 (by decide) (fun _ => ?_) (fun c => absurd c (by decide))
          refine lv_iload_n hx hb dX11_lovers_31 rfl (lv_at hl 1 rfl) ?_
          refine lv_iload_n hx hb dX11_lovers_32 rfl (lv_at hl 2 rfl) ?_
          refine lv_icmp_ne (tgt := 40) hx hb dX11_lovers_33 (by decide) (fun c377 => ?_) (fun c377 => ?_)
          · skip
            have k378 := iv_ne (X := x1.toInt) (Y := x2.toInt) rfl rfl c377
            refine lv_aload_n hx hb dX11_lovers_40 rfl (lv_at hl 0 rfl) ?_
            obtain ⟨a379, a382, a384, a386, a388, a390, a392, a394, a396, a398, a400, w402, w405, w406, w407, w408, hO, hq380, hq381, hq383, hq385, hq387, hq389, hq391, hq393, hq395, hq397, hq399, hq401, ⟨k403, k404⟩⟩ := op_15 hI hG0 List.not_mem_nil
            have hI := th_I.weak (a := h0) hI
            refine th_get hx hb hts inT11 hown hK hO rfl 10 (by decide) (hts _ (tb_c wd_355)) rfl rfl dX11_lovers_41 ?_
            refine lv_iload_n hx hb dX11_lovers_44 rfl (lv_at hl 1 rfl) ?_
            refine lv_iload_n hx hb dX11_lovers_45 rfl (lv_at hl 2 rfl) ?_
            refine lv_iload_n hx hb dX11_lovers_46 rfl (lv_at hl 3 rfl) ?_
            refine lv_iload hx hb dX11_lovers_47 (lv_at hl 4 rfl) ?_
            have hI := th_I.close hI hG0 hO (ok_15 hq380 hq381 hq383 hq385 hq387 hq389 hq391 hq393 hq395 hq397 hq399 hq401 ⟨by omega, by omega⟩)
            refine th_cVi (As := [.int x1, .int x2, .int x3, .int x4]) (rest := []) (n := 4) (d := 7) ⟨hx, hb, hml, hown, hts⟩ (c_X8_answer l E D G a398 hq399 x1 x2 x3 x4 ⟨by omega, by omega⟩ ⟨by omega, by omega⟩) wd_1084 wd_1085 wd_1086 wd_11 wd_1087 (by decide +kernel) ⟨by rw [hR]; exact Nat.le_of_ble_eq_true rfl, by rw [hR]; exact Nat.le_of_ble_eq_true rfl⟩ hI hN hK hS (rc_13 hI hq399 List.not_mem_nil) rfl rfl hl.1 rfl (Nat.le_of_ble_eq_true rfl) dX11_lovers_49 ⟨Nat.zero_le _, Nat.zero_le _⟩ (fun r409 H locs hp hI hS => ?_)
            have hpost : True := trivial
            rw [hQ]
            exact W.iret (v := r409) hx hb hr (fun t ht hW => ⟨⟨r409, (), rfl, hpost, by rw [ht]; exact hI, hN.warm hW, va_K.moved hW.alike hK⟩, hS.F ht⟩) hS.2.2 dX11_lovers_52
          · skip
            have k410 := iv_eq (X := x1.toInt) (Y := x2.toInt) rfl rfl c377
            refine lv_iload_n hx hb dX11_lovers_36 rfl (lv_at hl 3 rfl) ?_
            refine lv_goto (tgt := 52) hx hb dX11_lovers_37 (by decide) ?_
            have hpost : True := trivial
            rw [hQ]
            exact W.iret (v := x3) hx hb hr (fun t ht hW => ⟨⟨x3, (), rfl, hpost, by rw [ht]; exact hI, hN.warm hW, va_K.moved hW.alike hK⟩, hS.F ht⟩) hS.2.2 dX11_lovers_52
        · skip
          try simp only [rg, not_and, Int.not_le] at hp
          have hp411 := hp
          refine lv_if_ne (tgt := 31) hx hb dX11_lovers_26 (by decide) (fun c => absurd c (by decide)) (fun _ => ?_)
          exact J_29 s.heap locs ls  (lv_sub hl [0, 1, 2, 3, 4] rfl)  hI hS
      · skip
        try simp only [rg, not_and, Int.not_le] at hp
        have hp412 := hp
        refine lv_if_eq (tgt := 29) hx hb dX11_lovers_18 (by decide) (fun _ => ?_) (fun c => absurd c (by decide))
        exact J_29 s.heap locs ls  (lv_sub hl [0, 1, 2, 3, 4] rfl)  hI hS
    · skip
      try simp only [rg, not_and, Int.not_le] at hp
      have hp413 := hp
      refine lv_if_eq (tgt := 29) hx hb dX11_lovers_11 (by decide) (fun _ => ?_) (fun c => absurd c (by decide))
      exact J_29 s.heap locs ls  (lv_sub hl [0, 1, 2, 3, 4] rfl)  hI hS
  · skip
    try simp only [rg, not_and, Int.not_le] at hp
    have hp414 := hp
    refine lv_if_eq (tgt := 29) hx hb dX11_lovers_4 (by decide) (fun _ => ?_) (fun c => absurd c (by decide))
    exact J_29 s.heap locs ls  (lv_sub hl [0, 1, 2, 3, 4] rfl)  hI hS
theorem dX11_duck_0 : decode cX11_duck 0 = .ok (.iload_n 1, 1) := by decide +kernel
theorem dX11_duck_1 : decode cX11_duck 1 = .ok (.invokestatic 106, 3) := by decide +kernel
theorem dX11_duck_4 : decode cX11_duck 4 = .ok (.ifCond .eq 32, 3) := by decide +kernel
theorem dX11_duck_7 : decode cX11_duck 7 = .ok (.iload_n 2, 1) := by decide +kernel
theorem dX11_duck_8 : decode cX11_duck 8 = .ok (.ifCond .lt 28, 3) := by decide +kernel
theorem dX11_duck_11 : decode cX11_duck 11 = .ok (.iload_n 2, 1) := by decide +kernel
theorem dX11_duck_12 : decode cX11_duck 12 = .ok (.iconst 4, 1) := by decide +kernel
theorem dX11_duck_13 : decode cX11_duck 13 = .ok (.if_icmp .ge 23, 3) := by decide +kernel
theorem dX11_duck_16 : decode cX11_duck 16 = .ok (.iload_n 3, 1) := by decide +kernel
theorem dX11_duck_17 : decode cX11_duck 17 = .ok (.invokestatic 138, 3) := by decide +kernel
theorem dX11_duck_20 : decode cX11_duck 20 = .ok (.ifCond .eq 16, 3) := by decide +kernel
theorem dX11_duck_23 : decode cX11_duck 23 = .ok (.aload_n 0, 1) := by decide +kernel
theorem dX11_duck_24 : decode cX11_duck 24 = .ok (.getfield 51, 3) := by decide +kernel
theorem dX11_duck_27 : decode cX11_duck 27 = .ok (.iload_n 1, 1) := by decide +kernel
theorem dX11_duck_28 : decode cX11_duck 28 = .ok (.iload_n 2, 1) := by decide +kernel
theorem dX11_duck_29 : decode cX11_duck 29 = .ok (.iload_n 3, 1) := by decide +kernel
theorem dX11_duck_30 : decode cX11_duck 30 = .ok (.invokevirtual 316, 3) := by decide +kernel
theorem dX11_duck_33 : decode cX11_duck 33 = .ok (.goto 4, 3) := by decide +kernel
theorem dX11_duck_36 : decode cX11_duck 36 = .ok (.iconst (-1), 1) := by decide +kernel
theorem dX11_duck_37 : decode cX11_duck 37 = .ok (.ireturn, 1) := by decide +kernel
set_option maxHeartbeats 4000000 in
set_option maxRecDepth 100000 in
theorem c_X11_duck (l : Launch) (E : Nat → ClassId) (D : va_G) (G : th_G) (h0 n : Nat) (hG0 : G h0 = some (15, n)) (x1 x2 x3 : Int32) : Met l yX11_duck (tb (.code yX11_duck cX11_duck 4 (some .int))) (rm 7) (va_Pc [.ref h0, .int x1, .int x2, .int x3] (th_P E D G)) (QI E D G (fun r => True)) 0 0 (th_A G) := by
  refine Met.ofW (cc := cX11_duck) (maxL := 4) (ret := (some .int)) (by decide) rfl ?_
  intro p e s m args below meth c s₁ B hml hv
  obtain ⟨hav, hI, hN, hK⟩ := hv
  have hx := B.exec
  have hb := B.bytes
  have hr := B.returns
  have hts := atoms_spec (ws := tb (.code yX11_duck cX11_duck 4 (some .int))) B.pre
  have hown : s.vm.findClass RX11 = some m.cls := findClass_of_methodNamed B.named
  have hlocks := B.notSynchronized
  have hS : va_S (th_A G) s.heap s.heap [] := va_S.rf
  have hl := lv_entry ([.ref h0, .int x1, .int x2, .int x3]) (n := 4) (Nat.le_of_ble_eq_true rfl)
  rw [show entryFrame m args 4 = entryFrame m ([.ref h0, .int x1, .int x2, .int x3] : List Value).toArray 4 from by rw [hav], lg_entry_eq]
  generalize (lg_sl ([.ref h0, .int x1, .int x2, .int x3]) ++ List.replicate (4 - (lg_sl ([.ref h0, .int x1, .int x2, .int x3])).length) Slot.unset).toArray = ls at hl ⊢
  have hl : lv_has ls 4 [(0, .ref h0), (1, .int x1), (2, .int x2), (3, .int x3)] := hl
  generalize hR : (headSpec (tb (.code yX11_duck cX11_duck 4 (some .int))) (rm 7)).room = R
  have hR := hR.symm
  generalize hQ : MQ below (QI E D G (fun r => True)) args s 0 0 (th_A G) = QF
  have hQ := hQ.symm
  refine lv_iload_n hx hb dX11_duck_0 rfl (lv_at hl 1 rfl) ?_
  refine th_cSs (As := [.int x1]) (rest := []) (n := 1) (d := 0) ⟨hx, hb, hml, hown, hts⟩ (c_X11_isCell l s.heap x1) wd_401 wd_402 wd_1 wd_403 (by decide +kernel) ⟨by rw [hR]; exact Nat.le_of_ble_eq_true rfl, by rw [hR]; exact Nat.le_of_ble_eq_true rfl⟩ hN hS rfl hl.1 rfl (Nat.le_of_ble_eq_true rfl) dX11_duck_1 ⟨Nat.zero_le _, Nat.zero_le _⟩ (fun r1 locs hp hS => ?_)
  rcases hp with ⟨rfl, hp⟩ | ⟨rfl, hp⟩
  · skip
    try simp only [rg, not_and, Int.not_le] at hp
    have hp2 := hp
    refine lv_if_eq (tgt := 36) hx hb dX11_duck_4 (by decide) (fun c => absurd c (by decide)) (fun _ => ?_)
    refine lv_iload_n hx hb dX11_duck_7 rfl (lv_at hl 2 rfl) ?_
    have k3 := iv_lo x2
    have k4 := iv_hi x2
    refine lv_if_lt (tgt := 36) hx hb dX11_duck_8 (by decide) (fun c5 => ?_) (fun c5 => ?_)
    · skip
      have k6 := iv_lt (X := x2.toInt) (Y := (0)) rfl (by decide) c5
      refine lv_iconst (v := (-1)) hx hb dX11_duck_36 (by decide) ?_
      have hpost : True := trivial
      rw [hQ]
      exact W.iret (v := (-1)) hx hb hr (fun t ht hW => ⟨⟨(-1), (), rfl, hpost, by rw [ht]; exact hI, hN.warm hW, va_K.moved hW.alike hK⟩, hS.F ht⟩) hS.2.2 dX11_duck_37
    · skip
      have k7 := iv_nlt (X := x2.toInt) (Y := (0)) rfl (by decide) c5
      refine lv_iload_n hx hb dX11_duck_11 rfl (lv_at hl 2 rfl) ?_
      refine lv_iconst (v := 4) hx hb dX11_duck_12 (by decide) ?_
      refine lv_icmp_ge (tgt := 36) hx hb dX11_duck_13 (by decide) (fun c8 => ?_) (fun c8 => ?_)
      · skip
        have k9 := iv_le (X := (4)) (Y := x2.toInt) (by decide) rfl c8
        refine lv_iconst (v := (-1)) hx hb dX11_duck_36 (by decide) ?_
        have hpost : True := trivial
        rw [hQ]
        exact W.iret (v := (-1)) hx hb hr (fun t ht hW => ⟨⟨(-1), (), rfl, hpost, by rw [ht]; exact hI, hN.warm hW, va_K.moved hW.alike hK⟩, hS.F ht⟩) hS.2.2 dX11_duck_37
      · skip
        have k10 := iv_nle (X := (4)) (Y := x2.toInt) (by decide) rfl c8
        refine lv_iload_n hx hb dX11_duck_16 rfl (lv_at hl 3 rfl) ?_
        refine th_cSs (As := [.int x3]) (rest := []) (n := 1) (d := 0) ⟨hx, hb, hml, hown, hts⟩ (c_X11_isFlag l s.heap x3) wd_469 wd_470 wd_1 wd_471 (by decide +kernel) ⟨by rw [hR]; exact Nat.le_of_ble_eq_true rfl, by rw [hR]; exact Nat.le_of_ble_eq_true rfl⟩ hN hS rfl hl.1 rfl (Nat.le_of_ble_eq_true rfl) dX11_duck_17 ⟨Nat.zero_le _, Nat.zero_le _⟩ (fun r11 locs hp hS => ?_)
        rcases hp with ⟨rfl, hp⟩ | ⟨rfl, hp⟩
        · skip
          try simp only [rg, not_and, Int.not_le] at hp
          have hp12 := hp
          refine lv_if_eq (tgt := 36) hx hb dX11_duck_20 (by decide) (fun c => absurd c (by decide)) (fun _ => ?_)
          refine lv_aload_n hx hb dX11_duck_23 rfl (lv_at hl 0 rfl) ?_
          obtain ⟨a13, a16, a18, a20, a22, a24, a26, a28, a30, a32, a34, w36, w39, w40, w41, w42, hO, hq14, hq15, hq17, hq19, hq21, hq23, hq25, hq27, hq29, hq31, hq33, hq35, ⟨k37, k38⟩⟩ := op_15 hI hG0 List.not_mem_nil
          have hI := th_I.weak (a := h0) hI
          refine th_get hx hb hts inT11 hown hK hO rfl 7 (by decide) (hts _ (tb_c wd_352)) rfl rfl dX11_duck_24 ?_
          refine lv_iload_n hx hb dX11_duck_27 rfl (lv_at hl 1 rfl) ?_
          refine lv_iload_n hx hb dX11_duck_28 rfl (lv_at hl 2 rfl) ?_
          refine lv_iload_n hx hb dX11_duck_29 rfl (lv_at hl 3 rfl) ?_
          have hI := th_I.close hI hG0 hO (ok_15 hq14 hq15 hq17 hq19 hq21 hq23 hq25 hq27 hq29 hq31 hq33 hq35 ⟨by omega, by omega⟩)
          refine th_cVi (As := [.int x1, .int x2, .int x3]) (rest := []) (n := 3) (d := 6) ⟨hx, hb, hml, hown, hts⟩ (c_X9_paddle l E D G a26 hq27 x1 x2 x3) wd_1098 wd_1099 wd_1100 wd_8 wd_1101 (by decide +kernel) ⟨by rw [hR]; exact Nat.le_of_ble_eq_true rfl, by rw [hR]; exact Nat.le_of_ble_eq_true rfl⟩ hI hN hK hS (rc_10 hI hq27 List.not_mem_nil) rfl rfl hl.1 rfl (Nat.le_of_ble_eq_true rfl) dX11_duck_30 ⟨Nat.zero_le _, Nat.zero_le _⟩ (fun r43 H locs hp hI hS => ?_)
          refine lv_goto (tgt := 37) hx hb dX11_duck_33 (by decide) ?_
          have hpost : True := trivial
          rw [hQ]
          exact W.iret (v := r43) hx hb hr (fun t ht hW => ⟨⟨r43, (), rfl, hpost, by rw [ht]; exact hI, hN.warm hW, va_K.moved hW.alike hK⟩, hS.F ht⟩) hS.2.2 dX11_duck_37
        · skip
          try simp only [rg, not_and, Int.not_le] at hp
          have hp44 := hp
          refine lv_if_eq (tgt := 36) hx hb dX11_duck_20 (by decide) (fun _ => ?_) (fun c => absurd c (by decide))
          refine lv_iconst (v := (-1)) hx hb dX11_duck_36 (by decide) ?_
          have hpost : True := trivial
          rw [hQ]
          exact W.iret (v := (-1)) hx hb hr (fun t ht hW => ⟨⟨(-1), (), rfl, hpost, by rw [ht]; exact hI, hN.warm hW, va_K.moved hW.alike hK⟩, hS.F ht⟩) hS.2.2 dX11_duck_37
  · skip
    try simp only [rg, not_and, Int.not_le] at hp
    have hp45 := hp
    refine lv_if_eq (tgt := 36) hx hb dX11_duck_4 (by decide) (fun _ => ?_) (fun c => absurd c (by decide))
    refine lv_iconst (v := (-1)) hx hb dX11_duck_36 (by decide) ?_
    have hpost : True := trivial
    rw [hQ]
    exact W.iret (v := (-1)) hx hb hr (fun t ht hW => ⟨⟨(-1), (), rfl, hpost, by rw [ht]; exact hI, hN.warm hW, va_K.moved hW.alike hK⟩, hS.F ht⟩) hS.2.2 dX11_duck_37
theorem dX11_matters_0 : decode cX11_matters 0 = .ok (.iload_n 1, 1) := by decide +kernel
theorem dX11_matters_1 : decode cX11_matters 1 = .ok (.invokestatic 106, 3) := by decide +kernel
theorem dX11_matters_4 : decode cX11_matters 4 = .ok (.ifCond .eq 17, 3) := by decide +kernel
theorem dX11_matters_7 : decode cX11_matters 7 = .ok (.iload_n 2, 1) := by decide +kernel
theorem dX11_matters_8 : decode cX11_matters 8 = .ok (.iload_n 3, 1) := by decide +kernel
theorem dX11_matters_9 : decode cX11_matters 9 = .ok (.invokestatic 134, 3) := by decide +kernel
theorem dX11_matters_12 : decode cX11_matters 12 = .ok (.ifCond .eq 9, 3) := by decide +kernel
theorem dX11_matters_15 : decode cX11_matters 15 = .ok (.iload 4, 2) := by decide +kernel
theorem dX11_matters_17 : decode cX11_matters 17 = .ok (.iconst (-1), 1) := by decide +kernel
theorem dX11_matters_18 : decode cX11_matters 18 = .ok (.if_icmp .ge 5, 3) := by decide +kernel
theorem dX11_matters_21 : decode cX11_matters 21 = .ok (.iconst (-1), 1) := by decide +kernel
theorem dX11_matters_22 : decode cX11_matters 22 = .ok (.ireturn, 1) := by decide +kernel
theorem dX11_matters_23 : decode cX11_matters 23 = .ok (.aload_n 0, 1) := by decide +kernel
theorem dX11_matters_24 : decode cX11_matters 24 = .ok (.getfield 51, 3) := by decide +kernel
theorem dX11_matters_27 : decode cX11_matters 27 = .ok (.iload_n 1, 1) := by decide +kernel
theorem dX11_matters_28 : decode cX11_matters 28 = .ok (.iload_n 2, 1) := by decide +kernel
theorem dX11_matters_29 : decode cX11_matters 29 = .ok (.iload_n 3, 1) := by decide +kernel
theorem dX11_matters_30 : decode cX11_matters 30 = .ok (.iload 4, 2) := by decide +kernel
theorem dX11_matters_32 : decode cX11_matters 32 = .ok (.invokevirtual 319, 3) := by decide +kernel
theorem dX11_matters_35 : decode cX11_matters 35 = .ok (.ireturn, 1) := by decide +kernel
set_option maxHeartbeats 4000000 in
set_option maxRecDepth 100000 in
theorem c_X11_matters (l : Launch) (E : Nat → ClassId) (D : va_G) (G : th_G) (h0 n : Nat) (hG0 : G h0 = some (15, n)) (x1 x2 x3 x4 : Int32) : Met l yX11_matters (tb (.code yX11_matters cX11_matters 5 (some .int))) (rm 7) (va_Pc [.ref h0, .int x1, .int x2, .int x3, .int x4] (th_P E D G)) (QI E D G (fun r => True)) 0 0 (th_A G) := by
  refine Met.ofW (cc := cX11_matters) (maxL := 5) (ret := (some .int)) (by decide) rfl ?_
  intro p e s m args below meth c s₁ B hml hv
  obtain ⟨hav, hI, hN, hK⟩ := hv
  have hx := B.exec
  have hb := B.bytes
  have hr := B.returns
  have hts := atoms_spec (ws := tb (.code yX11_matters cX11_matters 5 (some .int))) B.pre
  have hown : s.vm.findClass RX11 = some m.cls := findClass_of_methodNamed B.named
  have hlocks := B.notSynchronized
  have hS : va_S (th_A G) s.heap s.heap [] := va_S.rf
  have hl := lv_entry ([.ref h0, .int x1, .int x2, .int x3, .int x4]) (n := 5) (Nat.le_of_ble_eq_true rfl)
  rw [show entryFrame m args 5 = entryFrame m ([.ref h0, .int x1, .int x2, .int x3, .int x4] : List Value).toArray 5 from by rw [hav], lg_entry_eq]
  generalize (lg_sl ([.ref h0, .int x1, .int x2, .int x3, .int x4]) ++ List.replicate (5 - (lg_sl ([.ref h0, .int x1, .int x2, .int x3, .int x4])).length) Slot.unset).toArray = ls at hl ⊢
  have hl : lv_has ls 5 [(0, .ref h0), (1, .int x1), (2, .int x2), (3, .int x3), (4, .int x4)] := hl
  generalize hR : (headSpec (tb (.code yX11_matters cX11_matters 5 (some .int))) (rm 7)).room = R
  have hR := hR.symm
  generalize hQ : MQ below (QI E D G (fun r => True)) args s 0 0 (th_A G) = QF
  have hQ := hQ.symm
  have J_21 : ∀ (H : Heap) (locs : List Loc) (ls : Array Slot) , lv_has ls 5 [(0, .ref h0), (1, .int x1), (2, .int x2), (3, .int x3), (4, .int x4)] → th_I (okC E) D G [] H → va_S (th_A G) s.heap H locs → W p l e R s m args below meth c H locs 0 0 QF (F0 m 21 ls []) := by
    intro H locs ls  hl  hI hS
    refine lv_iconst (v := (-1)) hx hb dX11_matters_21 (by decide) ?_
    have hpost : True := trivial
    rw [hQ]
    exact W.iret (v := (-1)) hx hb hr (fun t ht hW => ⟨⟨(-1), (), rfl, hpost, by rw [ht]; exact hI, hN.warm hW, va_K.moved hW.alike hK⟩, hS.F ht⟩) hS.2.2 dX11_matters_22
  refine lv_iload_n hx hb dX11_matters_0 rfl (lv_at hl 1 rfl) ?_
  refine th_cSs (As := [.int x1]) (rest := []) (n := 1) (d := 0) ⟨hx, hb, hml, hown, hts⟩ (c_X11_isCell l s.heap x1) wd_401 wd_402 wd_1 wd_403 (by decide +kernel) ⟨by rw [hR]; exact Nat.le_of_ble_eq_true rfl, by rw [hR]; exact Nat.le_of_ble_eq_true rfl⟩ hN hS rfl hl.1 rfl (Nat.le_of_ble_eq_true rfl) dX11_matters_1 ⟨Nat.zero_le _, Nat.zero_le _⟩ (fun r337 locs hp hS => ?_)
  rcases hp with ⟨rfl, hp⟩ | ⟨rfl, hp⟩
  · skip
    try simp only [rg, not_and, Int.not_le] at hp
    have hp338 := hp
    refine lv_if_eq (tgt := 21) hx hb dX11_matters_4 (by decide) (fun c => absurd c (by decide)) (fun _ => ?_)
    refine lv_iload_n hx hb dX11_matters_7 rfl (lv_at hl 2 rfl) ?_
    refine lv_iload_n hx hb dX11_matters_8 rfl (lv_at hl 3 rfl) ?_
    refine th_cSs (As := [.int x2, .int x3]) (rest := []) (n := 2) (d := 1) ⟨hx, hb, hml, hown, hts⟩ (c_X11_isSpan l s.heap x2 x3) wd_463 wd_464 wd_1 wd_465 (by decide +kernel) ⟨by rw [hR]; exact Nat.le_of_ble_eq_true rfl, by rw [hR]; exact Nat.le_of_ble_eq_true rfl⟩ hN hS rfl hl.1 rfl (Nat.le_of_ble_eq_true rfl) dX11_matters_9 ⟨Nat.zero_le _, Nat.zero_le _⟩ (fun r339 locs hp hS => ?_)
    rcases hp with ⟨rfl, hp⟩ | ⟨rfl, hp⟩
    · skip
      try simp only [rg, not_and, Int.not_le] at hp
      have hp340 := hp
      refine lv_if_eq (tgt := 21) hx hb dX11_matters_12 (by decide) (fun c => absurd c (by decide)) (fun _ => ?_)
      refine lv_iload hx hb dX11_matters_15 (lv_at hl 4 rfl) ?_
      refine lv_iconst (v := (-1)) hx hb dX11_matters_17 (by decide) ?_
      have k341 := iv_lo x4
      have k342 := iv_hi x4
      refine lv_icmp_ge (tgt := 23) hx hb dX11_matters_18 (by decide) (fun c343 => ?_) (fun c343 => ?_)
      · skip
        have k344 := iv_le (X := (-1)) (Y := x4.toInt) (by decide) rfl c343
        refine lv_aload_n hx hb dX11_matters_23 rfl (lv_at hl 0 rfl) ?_
        obtain ⟨a345, a348, a350, a352, a354, a356, a358, a360, a362, a364, a366, w368, w371, w372, w373, w374, hO, hq346, hq347, hq349, hq351, hq353, hq355, hq357, hq359, hq361, hq363, hq365, hq367, ⟨k369, k370⟩⟩ := op_15 hI hG0 List.not_mem_nil
        have hI := th_I.weak (a := h0) hI
        refine th_get hx hb hts inT11 hown hK hO rfl 7 (by decide) (hts _ (tb_c wd_352)) rfl rfl dX11_matters_24 ?_
        refine lv_iload_n hx hb dX11_matters_27 rfl (lv_at hl 1 rfl) ?_
        refine lv_iload_n hx hb dX11_matters_28 rfl (lv_at hl 2 rfl) ?_
        refine lv_iload_n hx hb dX11_matters_29 rfl (lv_at hl 3 rfl) ?_
        refine lv_iload hx hb dX11_matters_30 (lv_at hl 4 rfl) ?_
        have hI := th_I.close hI hG0 hO (ok_15 hq346 hq347 hq349 hq351 hq353 hq355 hq357 hq359 hq361 hq363 hq365 hq367 ⟨by omega, by omega⟩)
        refine th_cVi (As := [.int x1, .int x2, .int x3, .int x4]) (rest := []) (n := 4) (d := 6) ⟨hx, hb, hml, hown, hts⟩ (c_X9_turningHours l E D G a358 hq359 x1 x2 x3 x4) wd_1109 wd_1110 wd_1111 wd_8 wd_1112 (by decide +kernel) ⟨by rw [hR]; exact Nat.le_of_ble_eq_true rfl, by rw [hR]; exact Nat.le_of_ble_eq_true rfl⟩ hI hN hK hS (rc_10 hI hq359 List.not_mem_nil) rfl rfl hl.1 rfl (Nat.le_of_ble_eq_true rfl) dX11_matters_32 ⟨Nat.zero_le _, Nat.zero_le _⟩ (fun r375 H locs hp hI hS => ?_)
        have hpost : True := trivial
        rw [hQ]
        exact W.iret (v := r375) hx hb hr (fun t ht hW => ⟨⟨r375, (), rfl, hpost, by rw [ht]; exact hI, hN.warm hW, va_K.moved hW.alike hK⟩, hS.F ht⟩) hS.2.2 dX11_matters_35
      · skip
        have k376 := iv_nle (X := (-1)) (Y := x4.toInt) (by decide) rfl c343
        exact J_21 s.heap locs ls  (lv_sub hl [0, 1, 2, 3, 4] rfl)  hI hS
    · skip
      try simp only [rg, not_and, Int.not_le] at hp
      have hp377 := hp
      refine lv_if_eq (tgt := 21) hx hb dX11_matters_12 (by decide) (fun _ => ?_) (fun c => absurd c (by decide))
      exact J_21 s.heap locs ls  (lv_sub hl [0, 1, 2, 3, 4] rfl)  hI hS
  · skip
    try simp only [rg, not_and, Int.not_le] at hp
    have hp378 := hp
    refine lv_if_eq (tgt := 21) hx hb dX11_matters_4 (by decide) (fun _ => ?_) (fun c => absurd c (by decide))
    exact J_21 s.heap locs ls  (lv_sub hl [0, 1, 2, 3, 4] rfl)  hI hS
theorem dX11_wish_0 : decode cX11_wish 0 = .ok (.iload_n 1, 1) := by decide +kernel
theorem dX11_wish_1 : decode cX11_wish 1 = .ok (.invokestatic 106, 3) := by decide +kernel
theorem dX11_wish_4 : decode cX11_wish 4 = .ok (.ifCond .eq 19, 3) := by decide +kernel
theorem dX11_wish_7 : decode cX11_wish 7 = .ok (.iload_n 3, 1) := by decide +kernel
theorem dX11_wish_8 : decode cX11_wish 8 = .ok (.invokestatic 240, 3) := by decide +kernel
theorem dX11_wish_11 : decode cX11_wish 11 = .ok (.ifCond .eq 12, 3) := by decide +kernel
theorem dX11_wish_14 : decode cX11_wish 14 = .ok (.iload_n 2, 1) := by decide +kernel
theorem dX11_wish_15 : decode cX11_wish 15 = .ok (.iload 4, 2) := by decide +kernel
theorem dX11_wish_17 : decode cX11_wish 17 = .ok (.invokestatic 134, 3) := by decide +kernel
theorem dX11_wish_20 : decode cX11_wish 20 = .ok (.ifCond .ne 9, 3) := by decide +kernel
theorem dX11_wish_23 : decode cX11_wish 23 = .ok (.aload_n 0, 1) := by decide +kernel
theorem dX11_wish_24 : decode cX11_wish 24 = .ok (.iconst (-1), 1) := by decide +kernel
theorem dX11_wish_25 : decode cX11_wish 25 = .ok (.invokevirtual 113, 3) := by decide +kernel
theorem dX11_wish_28 : decode cX11_wish 28 = .ok (.ireturn, 1) := by decide +kernel
theorem dX11_wish_29 : decode cX11_wish 29 = .ok (.aload_n 0, 1) := by decide +kernel
theorem dX11_wish_30 : decode cX11_wish 30 = .ok (.getfield 12, 3) := by decide +kernel
theorem dX11_wish_33 : decode cX11_wish 33 = .ok (.getfield 322, 3) := by decide +kernel
theorem dX11_wish_36 : decode cX11_wish 36 = .ok (.invokevirtual 149, 3) := by decide +kernel
theorem dX11_wish_39 : decode cX11_wish 39 = .ok (.ifCond .eq 10, 3) := by decide +kernel
theorem dX11_wish_42 : decode cX11_wish 42 = .ok (.aload_n 0, 1) := by decide +kernel
theorem dX11_wish_43 : decode cX11_wish 43 = .ok (.bipush (-5), 2) := by decide +kernel
theorem dX11_wish_45 : decode cX11_wish 45 = .ok (.invokevirtual 113, 3) := by decide +kernel
theorem dX11_wish_48 : decode cX11_wish 48 = .ok (.ireturn, 1) := by decide +kernel
theorem dX11_wish_49 : decode cX11_wish 49 = .ok (.aload_n 0, 1) := by decide +kernel
theorem dX11_wish_50 : decode cX11_wish 50 = .ok (.getfield 12, 3) := by decide +kernel
theorem dX11_wish_53 : decode cX11_wish 53 = .ok (.getfield 322, 3) := by decide +kernel
theorem dX11_wish_56 : decode cX11_wish 56 = .ok (.iload_n 1, 1) := by decide +kernel
theorem dX11_wish_57 : decode cX11_wish 57 = .ok (.iload_n 2, 1) := by decide +kernel
theorem dX11_wish_58 : decode cX11_wish 58 = .ok (.iload_n 3, 1) := by decide +kernel
theorem dX11_wish_59 : decode cX11_wish 59 = .ok (.iload 4, 2) := by decide +kernel
theorem dX11_wish_61 : decode cX11_wish 61 = .ok (.invokevirtual 155, 3) := by decide +kernel
theorem dX11_wish_64 : decode cX11_wish 64 = .ok (.pop, 1) := by decide +kernel
theorem dX11_wish_65 : decode cX11_wish 65 = .ok (.aload_n 0, 1) := by decide +kernel
theorem dX11_wish_66 : decode cX11_wish 66 = .ok (.invokevirtual 191, 3) := by decide +kernel
theorem dX11_wish_69 : decode cX11_wish 69 = .ok (.aload_n 0, 1) := by decide +kernel
theorem dX11_wish_70 : decode cX11_wish 70 = .ok (.aload_n 0, 1) := by decide +kernel
theorem dX11_wish_71 : decode cX11_wish 71 = .ok (.getfield 12, 3) := by decide +kernel
theorem dX11_wish_74 : decode cX11_wish 74 = .ok (.getfield 322, 3) := by decide +kernel
theorem dX11_wish_77 : decode cX11_wish 77 = .ok (.invokevirtual 166, 3) := by decide +kernel
theorem dX11_wish_80 : decode cX11_wish 80 = .ok (.invokevirtual 127, 3) := by decide +kernel
theorem dX11_wish_83 : decode cX11_wish 83 = .ok (.ireturn, 1) := by decide +kernel
set_option maxHeartbeats 4000000 in
set_option maxRecDepth 100000 in
theorem c_X11_wish (l : Launch) (E : Nat → ClassId) (D : va_G) (G : th_G) (h0 n : Nat) (hG0 : G h0 = some (15, n)) (x1 x2 x3 x4 : Int32) : Met l yX11_wish (tb (.code yX11_wish cX11_wish 5 (some .int))) (rm 2) (va_Pc [.ref h0, .int x1, .int x2, .int x3, .int x4] (th_P E D G)) (QI E D G (fun r => True)) 0 0 (th_A G) := by
  refine Met.ofW (cc := cX11_wish) (maxL := 5) (ret := (some .int)) (by decide) rfl ?_
  intro p e s m args below meth c s₁ B hml hv
  obtain ⟨hav, hI, hN, hK⟩ := hv
  have hx := B.exec
  have hb := B.bytes
  have hr := B.returns
  have hts := atoms_spec (ws := tb (.code yX11_wish cX11_wish 5 (some .int))) B.pre
  have hown : s.vm.findClass RX11 = some m.cls := findClass_of_methodNamed B.named
  have hlocks := B.notSynchronized
  have hS : va_S (th_A G) s.heap s.heap [] := va_S.rf
  have hl := lv_entry ([.ref h0, .int x1, .int x2, .int x3, .int x4]) (n := 5) (Nat.le_of_ble_eq_true rfl)
  rw [show entryFrame m args 5 = entryFrame m ([.ref h0, .int x1, .int x2, .int x3, .int x4] : List Value).toArray 5 from by rw [hav], lg_entry_eq]
  generalize (lg_sl ([.ref h0, .int x1, .int x2, .int x3, .int x4]) ++ List.replicate (5 - (lg_sl ([.ref h0, .int x1, .int x2, .int x3, .int x4])).length) Slot.unset).toArray = ls at hl ⊢
  have hl : lv_has ls 5 [(0, .ref h0), (1, .int x1), (2, .int x2), (3, .int x3), (4, .int x4)] := hl
  generalize hR : (headSpec (tb (.code yX11_wish cX11_wish 5 (some .int))) (rm 2)).room = R
  have hR := hR.symm
  generalize hQ : MQ below (QI E D G (fun r => True)) args s 0 0 (th_A G) = QF
  have hQ := hQ.symm
  have J_23 : ∀ (H : Heap) (locs : List Loc) (ls : Array Slot) , lv_has ls 5 [(0, .ref h0), (1, .int x1), (2, .int x2), (3, .int x3), (4, .int x4)] → th_I (okC E) D G [] H → va_S (th_A G) s.heap H locs → W p l e R s m args below meth c H locs 0 0 QF (F0 m 23 ls []) := by
    intro H locs ls  hl  hI hS
    refine lv_aload_n hx hb dX11_wish_23 rfl (lv_at hl 0 rfl) ?_
    refine lv_iconst (v := (-1)) hx hb dX11_wish_24 (by decide) ?_
    refine th_cVi (As := [.int (-1)]) (rest := []) (n := 1) (d := 0) ⟨hx, hb, hml, hown, hts⟩ (c_X11_refuse l E D G h0 (n) hG0 (-1)) wd_407 wd_409 wp_0 wd_1 wd_410 (by decide +kernel) ⟨by rw [hR]; exact Nat.le_of_ble_eq_true rfl, by rw [hR]; exact Nat.le_of_ble_eq_true rfl⟩ hI hN hK hS (rc_15 hI hG0 List.not_mem_nil) rfl rfl hl.1 rfl (Nat.le_of_ble_eq_true rfl) dX11_wish_25 ⟨Nat.zero_le _, Nat.zero_le _⟩ (fun r1600 H locs hp hI hS => ?_)
    have hp := hp.symm
    subst hp
    have hpost : True := trivial
    rw [hQ]
    exact W.iret (v := (-1)) hx hb hr (fun t ht hW => ⟨⟨(-1), (), rfl, hpost, by rw [ht]; exact hI, hN.warm hW, va_K.moved hW.alike hK⟩, hS.F ht⟩) hS.2.2 dX11_wish_28
  refine lv_iload_n hx hb dX11_wish_0 rfl (lv_at hl 1 rfl) ?_
  refine th_cSs (As := [.int x1]) (rest := []) (n := 1) (d := 0) ⟨hx, hb, hml, hown, hts⟩ (c_X11_isCell l s.heap x1) wd_401 wd_402 wd_1 wd_403 (by decide +kernel) ⟨by rw [hR]; exact Nat.le_of_ble_eq_true rfl, by rw [hR]; exact Nat.le_of_ble_eq_true rfl⟩ hN hS rfl hl.1 rfl (Nat.le_of_ble_eq_true rfl) dX11_wish_1 ⟨Nat.zero_le _, Nat.zero_le _⟩ (fun r1601 locs hp hS => ?_)
  rcases hp with ⟨rfl, hp⟩ | ⟨rfl, hp⟩
  · skip
    try simp only [rg, not_and, Int.not_le] at hp
    have hp1602 := hp
    refine lv_if_eq (tgt := 23) hx hb dX11_wish_4 (by decide) (fun c => absurd c (by decide)) (fun _ => ?_)
    refine lv_iload_n hx hb dX11_wish_7 rfl (lv_at hl 3 rfl) ?_
    refine th_cSs (As := [.int x3]) (rest := []) (n := 1) (d := 0) ⟨hx, hb, hml, hown, hts⟩ (c_X11_isPlace l s.heap x3) wd_847 wd_848 wd_1 wd_849 (by decide +kernel) ⟨by rw [hR]; exact Nat.le_of_ble_eq_true rfl, by rw [hR]; exact Nat.le_of_ble_eq_true rfl⟩ hN hS rfl hl.1 rfl (Nat.le_of_ble_eq_true rfl) dX11_wish_8 ⟨Nat.zero_le _, Nat.zero_le _⟩ (fun r1603 locs hp hS => ?_)
    rcases hp with ⟨rfl, hp⟩ | ⟨rfl, hp⟩
    · skip
      try simp only [rg, not_and, Int.not_le] at hp
      have hp1604 := hp
      refine lv_if_eq (tgt := 23) hx hb dX11_wish_11 (by decide) (fun c => absurd c (by decide)) (fun _ => ?_)
      refine lv_iload_n hx hb dX11_wish_14 rfl (lv_at hl 2 rfl) ?_
      refine lv_iload hx hb dX11_wish_15 (lv_at hl 4 rfl) ?_
      refine th_cSs (As := [.int x2, .int x4]) (rest := []) (n := 2) (d := 1) ⟨hx, hb, hml, hown, hts⟩ (c_X11_isSpan l s.heap x2 x4) wd_463 wd_464 wd_1 wd_465 (by decide +kernel) ⟨by rw [hR]; exact Nat.le_of_ble_eq_true rfl, by rw [hR]; exact Nat.le_of_ble_eq_true rfl⟩ hN hS rfl hl.1 rfl (Nat.le_of_ble_eq_true rfl) dX11_wish_17 ⟨Nat.zero_le _, Nat.zero_le _⟩ (fun r1605 locs hp hS => ?_)
      rcases hp with ⟨rfl, hp⟩ | ⟨rfl, hp⟩
      · skip
        try simp only [rg, not_and, Int.not_le] at hp
        have hp1606 := hp
        refine lv_if_ne (tgt := 29) hx hb dX11_wish_20 (by decide) (fun _ => ?_) (fun c => absurd c (by decide))
        refine lv_aload_n hx hb dX11_wish_29 rfl (lv_at hl 0 rfl) ?_
        obtain ⟨a1607, a1610, a1612, a1614, a1616, a1618, a1620, a1622, a1624, a1626, a1628, w1630, w1633, w1634, w1635, w1636, hO, hq1608, hq1609, hq1611, hq1613, hq1615, hq1617, hq1619, hq1621, hq1623, hq1625, hq1627, hq1629, ⟨k1631, k1632⟩⟩ := op_15 hI hG0 List.not_mem_nil
        have hI := th_I.weak (a := h0) hI
        refine th_get hx hb hts inT11 hown hK hO rfl 0 (by decide) (hts _ (tb_c wd_345)) rfl rfl dX11_wish_30 ?_
        have hI := th_I.close hI hG0 hO (ok_15 hq1608 hq1609 hq1611 hq1613 hq1615 hq1617 hq1619 hq1621 hq1623 hq1625 hq1627 hq1629 ⟨by omega, by omega⟩)
        obtain ⟨a1637, a1639, a1641, a1643, a1645, a1647, a1649, a1651, a1653, a1655, w1657, w1660, w1661, w1662, hO, hq1638, hq1640, hq1642, hq1644, hq1646, hq1648, hq1650, hq1652, hq1654, hq1656, ⟨k1658, k1659⟩⟩ := op_6 hI hq1608 List.not_mem_nil
        have hI := th_I.weak (a := a1607) hI
        refine th_getN hx hb hts inT6 hown hK hN hO rfl 8 (by decide) wn_80 rfl rfl dX11_wish_33 ?_
        have hI := th_I.close hI hq1608 hO (ok_6 hq1638 hq1640 hq1642 hq1644 hq1646 hq1648 hq1650 hq1652 hq1654 hq1656 ⟨by omega, by omega⟩)
        obtain ⟨a1664, w1666, hO, hq1665, ⟨k1667, k1668⟩, k1669⟩ := op_4 hI hq1654 List.not_mem_nil
        have hI := th_I.weak (a := a1653) hI
        have k1670 : (nI 6).toInt = ((6 : Nat) : Int) := nI_toInt (by omega)
        refine th_cVs (As := []) (rest := []) (n := 0) (d := 0) ⟨hx, hb, hml, hown, hts⟩ (c_X4_isFull l E D s.heap a1653 6 a1664 w1666 hO (by omega) (by omega) (by omega)) wd_481 wd_482 wd_483 wd_3 wd_484 (by decide +kernel) ⟨by rw [hR]; exact Nat.le_of_ble_eq_true rfl, by rw [hR]; exact Nat.le_of_ble_eq_true rfl⟩ hN hK hS ⟨_, hO⟩ rfl rfl hl.1 rfl (Nat.le_of_ble_eq_true rfl) dX11_wish_36 ⟨Nat.zero_le _, Nat.zero_le _⟩ (fun r1663 locs hp hS => ?_)
        rcases hp with ⟨rfl, hp⟩ | ⟨rfl, hp⟩
        · skip
          try simp only [rg, not_and, Int.not_le] at hp
          have hp1671 := hp
          refine lv_if_eq (tgt := 49) hx hb dX11_wish_39 (by decide) (fun c => absurd c (by decide)) (fun _ => ?_)
          refine lv_aload_n hx hb dX11_wish_42 rfl (lv_at hl 0 rfl) ?_
          refine lv_bipush (v := (-5)) hx hb dX11_wish_43 (by decide) ?_
          have hI := th_I.close hI hq1654 hO (ok_4 hq1665 ⟨by omega, by omega⟩ (by omega))
          refine th_cVi (As := [.int (-5)]) (rest := []) (n := 1) (d := 0) ⟨hx, hb, hml, hown, hts⟩ (c_X11_refuse l E D G h0 (n) hG0 (-5)) wd_407 wd_409 wp_0 wd_1 wd_410 (by decide +kernel) ⟨by rw [hR]; exact Nat.le_of_ble_eq_true rfl, by rw [hR]; exact Nat.le_of_ble_eq_true rfl⟩ hI hN hK hS (rc_15 hI hG0 List.not_mem_nil) rfl rfl hl.1 rfl (Nat.le_of_ble_eq_true rfl) dX11_wish_45 ⟨Nat.zero_le _, Nat.zero_le _⟩ (fun r1672 H locs hp hI hS => ?_)
          have hp := hp.symm
          subst hp
          have hpost : True := trivial
          rw [hQ]
          exact W.iret (v := (-5)) hx hb hr (fun t ht hW => ⟨⟨(-5), (), rfl, hpost, by rw [ht]; exact hI, hN.warm hW, va_K.moved hW.alike hK⟩, hS.F ht⟩) hS.2.2 dX11_wish_48
        · skip
          have hp1673 := hp
          refine lv_if_eq (tgt := 49) hx hb dX11_wish_39 (by decide) (fun _ => ?_) (fun c => absurd c (by decide))
          refine lv_aload_n hx hb dX11_wish_49 rfl (lv_at hl 0 rfl) ?_
          have hI := th_I.close hI hq1654 hO (ok_4 hq1665 ⟨by omega, by omega⟩ (by omega))
          obtain ⟨a1674, a1677, a1679, a1681, a1683, a1685, a1687, a1689, a1691, a1693, a1695, w1697, w1700, w1701, w1702, w1703, hO, hq1675, hq1676, hq1678, hq1680, hq1682, hq1684, hq1686, hq1688, hq1690, hq1692, hq1694, hq1696, ⟨k1698, k1699⟩⟩ := op_15 hI hG0 List.not_mem_nil
          have hI := th_I.weak (a := h0) hI
          refine th_get hx hb hts inT11 hown hK hO rfl 0 (by decide) (hts _ (tb_c wd_345)) rfl rfl dX11_wish_50 ?_
          have hI := th_I.close hI hG0 hO (ok_15 hq1675 hq1676 hq1678 hq1680 hq1682 hq1684 hq1686 hq1688 hq1690 hq1692 hq1694 hq1696 ⟨by omega, by omega⟩)
          obtain ⟨a1704, a1706, a1708, a1710, a1712, a1714, a1716, a1718, a1720, a1722, w1724, w1727, w1728, w1729, hO, hq1705, hq1707, hq1709, hq1711, hq1713, hq1715, hq1717, hq1719, hq1721, hq1723, ⟨k1725, k1726⟩⟩ := op_6 hI hq1675 List.not_mem_nil
          have hI := th_I.weak (a := a1674) hI
          refine th_getN hx hb hts inT6 hown hK hN hO rfl 8 (by decide) wn_80 rfl rfl dX11_wish_53 ?_
          refine lv_iload_n hx hb dX11_wish_56 rfl (lv_at hl 1 rfl) ?_
          refine lv_iload_n hx hb dX11_wish_57 rfl (lv_at hl 2 rfl) ?_
          refine lv_iload_n hx hb dX11_wish_58 rfl (lv_at hl 3 rfl) ?_
          refine lv_iload hx hb dX11_wish_59 (lv_at hl 4 rfl) ?_
          have hI := th_I.close hI hq1675 hO (ok_6 hq1705 hq1707 hq1709 hq1711 hq1713 hq1715 hq1717 hq1719 hq1721 hq1723 ⟨by omega, by omega⟩)
          refine th_cVi (As := [.int x1, .int x2, .int x3, .int x4]) (rest := []) (n := 4) (d := 1) ⟨hx, hb, hml, hown, hts⟩ (c_X4_put l E D G a1720 (6) hq1721 x1 x2 x3 x4) wd_485 wd_486 wd_487 wd_3 wd_488 (by decide +kernel) ⟨by rw [hR]; exact Nat.le_of_ble_eq_true rfl, by rw [hR]; exact Nat.le_of_ble_eq_true rfl⟩ hI hN hK hS (rc_4 hI hq1721 List.not_mem_nil) rfl rfl hl.1 rfl (Nat.le_of_ble_eq_true rfl) dX11_wish_61 ⟨Nat.zero_le _, Nat.zero_le _⟩ (fun r1730 H locs hp hI hS => ?_)
          refine lv_pop hx hb dX11_wish_64 rfl ?_
          refine lv_aload_n hx hb dX11_wish_65 rfl (lv_at hl 0 rfl) ?_
          refine th_cVv (As := []) (rest := []) (n := 0) (d := 1) ⟨hx, hb, hml, hown, hts⟩ (c_X11_turnLists l E D G h0 (n) hG0 ) wd_431 wd_433 wp_2 wd_1 wd_434 (by decide +kernel) ⟨by rw [hR]; exact Nat.le_of_ble_eq_true rfl, by rw [hR]; exact Nat.le_of_ble_eq_true rfl⟩ hI hN hK hS (rc_15 hI hG0 List.not_mem_nil) rfl rfl hl.1 rfl (Nat.le_of_ble_eq_true rfl) dX11_wish_66 ⟨Nat.zero_le _, Nat.zero_le _⟩ (fun H locs hI hS => ?_)
          refine lv_aload_n hx hb dX11_wish_69 rfl (lv_at hl 0 rfl) ?_
          refine lv_aload_n hx hb dX11_wish_70 rfl (lv_at hl 0 rfl) ?_
          obtain ⟨a1732, a1735, a1737, a1739, a1741, a1743, a1745, a1747, a1749, a1751, a1753, w1755, w1758, w1759, w1760, w1761, hO, hq1733, hq1734, hq1736, hq1738, hq1740, hq1742, hq1744, hq1746, hq1748, hq1750, hq1752, hq1754, ⟨k1756, k1757⟩⟩ := op_15 hI hG0 List.not_mem_nil
          have hI := th_I.weak (a := h0) hI
          refine th_get hx hb hts inT11 hown hK hO rfl 0 (by decide) (hts _ (tb_c wd_345)) rfl rfl dX11_wish_71 ?_
          have hI := th_I.close hI hG0 hO (ok_15 hq1733 hq1734 hq1736 hq1738 hq1740 hq1742 hq1744 hq1746 hq1748 hq1750 hq1752 hq1754 ⟨by omega, by omega⟩)
          obtain ⟨a1762, a1764, a1766, a1768, a1770, a1772, a1774, a1776, a1778, a1780, w1782, w1785, w1786, w1787, hO, hq1763, hq1765, hq1767, hq1769, hq1771, hq1773, hq1775, hq1777, hq1779, hq1781, ⟨k1783, k1784⟩⟩ := op_6 hI hq1733 List.not_mem_nil
          have hI := th_I.weak (a := a1732) hI
          refine th_getN hx hb hts inT6 hown hK hN hO rfl 8 (by decide) wn_80 rfl rfl dX11_wish_74 ?_
          have hI := th_I.close hI hq1733 hO (ok_6 hq1763 hq1765 hq1767 hq1769 hq1771 hq1773 hq1775 hq1777 hq1779 hq1781 ⟨by omega, by omega⟩)
          obtain ⟨a1789, w1791, hO, hq1790, ⟨k1792, k1793⟩, k1794⟩ := op_4 hI hq1779 List.not_mem_nil
          have hI := th_I.weak (a := a1778) hI
          have k1795 : (nI 6).toInt = ((6 : Nat) : Int) := nI_toInt (by omega)
          refine th_cVs (As := []) (rest := [.ref h0]) (n := 0) (d := 0) ⟨hx, hb, hml, hown, hts⟩ (c_X4_size l E D H a1778 6 a1789 w1791 hO (by omega) (by omega) (by omega)) wd_506 wd_507 wd_508 wd_3 wd_509 (by decide +kernel) ⟨by rw [hR]; exact Nat.le_of_ble_eq_true rfl, by rw [hR]; exact Nat.le_of_ble_eq_true rfl⟩ hN hK hS ⟨_, hO⟩ rfl rfl hl.1 rfl (Nat.le_of_ble_eq_true rfl) dX11_wish_77 ⟨Nat.zero_le _, Nat.zero_le _⟩ (fun r1788 locs hp hS => ?_)
          have hp := hp.symm
          subst hp
          have hI := th_I.close hI hq1779 hO (ok_4 hq1790 ⟨by omega, by omega⟩ (by omega))
          refine th_cVi (As := [.int w1791]) (rest := []) (n := 1) (d := 0) ⟨hx, hb, hml, hown, hts⟩ (c_X11_accept l E D G h0 (n) hG0 w1791) wd_447 wd_449 wp_3 wd_1 wd_450 (by decide +kernel) ⟨by rw [hR]; exact Nat.le_of_ble_eq_true rfl, by rw [hR]; exact Nat.le_of_ble_eq_true rfl⟩ hI hN hK hS (rc_15 hI hG0 List.not_mem_nil) rfl rfl hl.1 rfl (Nat.le_of_ble_eq_true rfl) dX11_wish_80 ⟨Nat.zero_le _, Nat.zero_le _⟩ (fun r1796 H locs hp hI hS => ?_)
          have hp := hp.symm
          subst hp
          have hpost : True := trivial
          rw [hQ]
          exact W.iret (v := w1791) hx hb hr (fun t ht hW => ⟨⟨w1791, (), rfl, hpost, by rw [ht]; exact hI, hN.warm hW, va_K.moved hW.alike hK⟩, hS.F ht⟩) hS.2.2 dX11_wish_83
      · skip
        try simp only [rg, not_and, Int.not_le] at hp
        have hp1797 := hp
        refine lv_if_ne (tgt := 29) hx hb dX11_wish_20 (by decide) (fun c => absurd c (by decide)) (fun _ => ?_)
        exact J_23 s.heap locs ls  (lv_sub hl [0, 1, 2, 3, 4] rfl)  hI hS
    · skip
      try simp only [rg, not_and, Int.not_le] at hp
      have hp1798 := hp
      refine lv_if_eq (tgt := 23) hx hb dX11_wish_11 (by decide) (fun _ => ?_) (fun c => absurd c (by decide))
      exact J_23 s.heap locs ls  (lv_sub hl [0, 1, 2, 3, 4] rfl)  hI hS
  · skip
    try simp only [rg, not_and, Int.not_le] at hp
    have hp1799 := hp
    refine lv_if_eq (tgt := 23) hx hb dX11_wish_4 (by decide) (fun _ => ?_) (fun c => absurd c (by decide))
    exact J_23 s.heap locs ls  (lv_sub hl [0, 1, 2, 3, 4] rfl)  hI hS
theorem dX11_drop_0 : decode cX11_drop 0 = .ok (.aload_n 0, 1) := by decide +kernel
theorem dX11_drop_1 : decode cX11_drop 1 = .ok (.invokevirtual 191, 3) := by decide +kernel
theorem dX11_drop_4 : decode cX11_drop 4 = .ok (.aload_n 0, 1) := by decide +kernel
theorem dX11_drop_5 : decode cX11_drop 5 = .ok (.getfield 12, 3) := by decide +kernel
theorem dX11_drop_8 : decode cX11_drop 8 = .ok (.getfield 322, 3) := by decide +kernel
theorem dX11_drop_11 : decode cX11_drop 11 = .ok (.invokevirtual 295, 3) := by decide +kernel
theorem dX11_drop_14 : decode cX11_drop 14 = .ok (.ireturn, 1) := by decide +kernel
set_option maxHeartbeats 4000000 in
set_option maxRecDepth 100000 in
theorem c_X11_drop (l : Launch) (E : Nat → ClassId) (D : va_G) (G : th_G) (h0 n : Nat) (hG0 : G h0 = some (15, n)) : Met l yX11_drop (tb (.code yX11_drop cX11_drop 1 (some .int))) (rm 2) (va_Pc [.ref h0] (th_P E D G)) (QI E D G (fun r => True)) 0 0 (th_A G) := by
  refine Met.ofW (cc := cX11_drop) (maxL := 1) (ret := (some .int)) (by decide) rfl ?_
  intro p e s m args below meth c s₁ B hml hv
  obtain ⟨hav, hI, hN, hK⟩ := hv
  have hx := B.exec
  have hb := B.bytes
  have hr := B.returns
  have hts := atoms_spec (ws := tb (.code yX11_drop cX11_drop 1 (some .int))) B.pre
  have hown : s.vm.findClass RX11 = some m.cls := findClass_of_methodNamed B.named
  have hlocks := B.notSynchronized
  have hS : va_S (th_A G) s.heap s.heap [] := va_S.rf
  have hl := lv_entry ([.ref h0]) (n := 1) (Nat.le_of_ble_eq_true rfl)
  rw [show entryFrame m args 1 = entryFrame m ([.ref h0] : List Value).toArray 1 from by rw [hav], lg_entry_eq]
  generalize (lg_sl ([.ref h0]) ++ List.replicate (1 - (lg_sl ([.ref h0])).length) Slot.unset).toArray = ls at hl ⊢
  have hl : lv_has ls 1 [(0, .ref h0)] := hl
  generalize hR : (headSpec (tb (.code yX11_drop cX11_drop 1 (some .int))) (rm 2)).room = R
  have hR := hR.symm
  generalize hQ : MQ below (QI E D G (fun r => True)) args s 0 0 (th_A G) = QF
  have hQ := hQ.symm
  refine lv_aload_n hx hb dX11_drop_0 rfl (lv_at hl 0 rfl) ?_
  refine th_cVv (As := []) (rest := []) (n := 0) (d := 1) ⟨hx, hb, hml, hown, hts⟩ (c_X11_turnLists l E D G h0 (n) hG0 ) wd_431 wd_433 wp_2 wd_1 wd_434 (by decide +kernel) ⟨by rw [hR]; exact Nat.le_of_ble_eq_true rfl, by rw [hR]; exact Nat.le_of_ble_eq_true rfl⟩ hI hN hK hS (rc_15 hI hG0 List.not_mem_nil) rfl rfl hl.1 rfl (Nat.le_of_ble_eq_true rfl) dX11_drop_1 ⟨Nat.zero_le _, Nat.zero_le _⟩ (fun H locs hI hS => ?_)
  refine lv_aload_n hx hb dX11_drop_4 rfl (lv_at hl 0 rfl) ?_
  obtain ⟨a2, a5, a7, a9, a11, a13, a15, a17, a19, a21, a23, w25, w28, w29, w30, w31, hO, hq3, hq4, hq6, hq8, hq10, hq12, hq14, hq16, hq18, hq20, hq22, hq24, ⟨k26, k27⟩⟩ := op_15 hI hG0 List.not_mem_nil
  have hI := th_I.weak (a := h0) hI
  refine th_get hx hb hts inT11 hown hK hO rfl 0 (by decide) (hts _ (tb_c wd_345)) rfl rfl dX11_drop_5 ?_
  have hI := th_I.close hI hG0 hO (ok_15 hq3 hq4 hq6 hq8 hq10 hq12 hq14 hq16 hq18 hq20 hq22 hq24 ⟨by omega, by omega⟩)
  obtain ⟨a32, a34, a36, a38, a40, a42, a44, a46, a48, a50, w52, w55, w56, w57, hO, hq33, hq35, hq37, hq39, hq41, hq43, hq45, hq47, hq49, hq51, ⟨k53, k54⟩⟩ := op_6 hI hq3 List.not_mem_nil
  have hI := th_I.weak (a := a2) hI
  refine th_getN hx hb hts inT6 hown hK hN hO rfl 8 (by decide) wn_80 rfl rfl dX11_drop_8 ?_
  have hI := th_I.close hI hq3 hO (ok_6 hq33 hq35 hq37 hq39 hq41 hq43 hq45 hq47 hq49 hq51 ⟨by omega, by omega⟩)
  refine th_cVi (As := []) (rest := []) (n := 0) (d := 0) ⟨hx, hb, hml, hown, hts⟩ (c_X4_clear l E D G a48 (6) hq49 ) wd_983 wd_984 wd_985 wd_3 wd_986 (by decide +kernel) ⟨by rw [hR]; exact Nat.le_of_ble_eq_true rfl, by rw [hR]; exact Nat.le_of_ble_eq_true rfl⟩ hI hN hK hS (rc_4 hI hq49 List.not_mem_nil) rfl rfl hl.1 rfl (Nat.le_of_ble_eq_true rfl) dX11_drop_11 ⟨Nat.zero_le _, Nat.zero_le _⟩ (fun r58 H locs hp hI hS => ?_)
  have hpost : True := trivial
  rw [hQ]
  exact W.iret (v := r58) hx hb hr (fun t ht hW => ⟨⟨r58, (), rfl, hpost, by rw [ht]; exact hI, hN.warm hW, va_K.moved hW.alike hK⟩, hS.F ht⟩) hS.2.2 dX11_drop_14
theorem dX11_granted_0 : decode cX11_granted 0 = .ok (.aload_n 0, 1) := by decide +kernel
theorem dX11_granted_1 : decode cX11_granted 1 = .ok (.getfield 85, 3) := by decide +kernel
theorem dX11_granted_4 : decode cX11_granted 4 = .ok (.invokevirtual 325, 3) := by decide +kernel
theorem dX11_granted_7 : decode cX11_granted 7 = .ok (.ireturn, 1) := by decide +kernel
set_option maxHeartbeats 4000000 in
set_option maxRecDepth 100000 in
theorem c_X11_granted (l : Launch) (E : Nat → ClassId) (D : va_G) (G : th_G) (h0 n : Nat) (hG0 : G h0 = some (15, n)) : Met l yX11_granted (tb (.code yX11_granted cX11_granted 1 (some .int))) (rm 7) (va_Pc [.ref h0] (th_P E D G)) (QI E D G (fun r => True)) 0 0 (th_A G) := by
  refine Met.ofW (cc := cX11_granted) (maxL := 1) (ret := (some .int)) (by decide) rfl ?_
  intro p e s m args below meth c s₁ B hml hv
  obtain ⟨hav, hI, hN, hK⟩ := hv
  have hx := B.exec
  have hb := B.bytes
  have hr := B.returns
  have hts := atoms_spec (ws := tb (.code yX11_granted cX11_granted 1 (some .int))) B.pre
  have hown : s.vm.findClass RX11 = some m.cls := findClass_of_methodNamed B.named
  have hlocks := B.notSynchronized
  have hS : va_S (th_A G) s.heap s.heap [] := va_S.rf
  have hl := lv_entry ([.ref h0]) (n := 1) (Nat.le_of_ble_eq_true rfl)
  rw [show entryFrame m args 1 = entryFrame m ([.ref h0] : List Value).toArray 1 from by rw [hav], lg_entry_eq]
  generalize (lg_sl ([.ref h0]) ++ List.replicate (1 - (lg_sl ([.ref h0])).length) Slot.unset).toArray = ls at hl ⊢
  have hl : lv_has ls 1 [(0, .ref h0)] := hl
  generalize hR : (headSpec (tb (.code yX11_granted cX11_granted 1 (some .int))) (rm 7)).room = R
  have hR := hR.symm
  generalize hQ : MQ below (QI E D G (fun r => True)) args s 0 0 (th_A G) = QF
  have hQ := hQ.symm
  refine lv_aload_n hx hb dX11_granted_0 rfl (lv_at hl 0 rfl) ?_
  obtain ⟨a1, a4, a6, a8, a10, a12, a14, a16, a18, a20, a22, w24, w27, w28, w29, w30, hO, hq2, hq3, hq5, hq7, hq9, hq11, hq13, hq15, hq17, hq19, hq21, hq23, ⟨k25, k26⟩⟩ := op_15 hI hG0 List.not_mem_nil
  have hI := th_I.weak (a := h0) hI
  refine th_get hx hb hts inT11 hown hK hO rfl 11 (by decide) (hts _ (tb_c wd_356)) rfl rfl dX11_granted_1 ?_
  have hI := th_I.close hI hG0 hO (ok_15 hq2 hq3 hq5 hq7 hq9 hq11 hq13 hq15 hq17 hq19 hq21 hq23 ⟨by omega, by omega⟩)
  refine th_cVi (As := []) (rest := []) (n := 0) (d := 6) ⟨hx, hb, hml, hown, hts⟩ (c_X10_grantedNow l E D G a22 hq23 ) wd_1134 wd_1135 wd_1136 wd_12 wd_1137 (by decide +kernel) ⟨by rw [hR]; exact Nat.le_of_ble_eq_true rfl, by rw [hR]; exact Nat.le_of_ble_eq_true rfl⟩ hI hN hK hS (rc_14 hI hq23 List.not_mem_nil) rfl rfl hl.1 rfl (Nat.le_of_ble_eq_true rfl) dX11_granted_4 ⟨Nat.zero_le _, Nat.zero_le _⟩ (fun r31 H locs hp hI hS => ?_)
  have hpost : True := trivial
  rw [hQ]
  exact W.iret (v := r31) hx hb hr (fun t ht hW => ⟨⟨r31, (), rfl, hpost, by rw [ht]; exact hI, hN.warm hW, va_K.moved hW.alike hK⟩, hS.F ht⟩) hS.2.2 dX11_granted_7
theorem dX11_best_0 : decode cX11_best 0 = .ok (.iload_n 1, 1) := by decide +kernel
theorem dX11_best_1 : decode cX11_best 1 = .ok (.invokestatic 117, 3) := by decide +kernel
theorem dX11_best_4 : decode cX11_best 4 = .ok (.ifCond .ne 5, 3) := by decide +kernel
theorem dX11_best_7 : decode cX11_best 7 = .ok (.iconst (-1), 1) := by decide +kernel
theorem dX11_best_8 : decode cX11_best 8 = .ok (.ireturn, 1) := by decide +kernel
theorem dX11_best_9 : decode cX11_best 9 = .ok (.aload_n 0, 1) := by decide +kernel
theorem dX11_best_10 : decode cX11_best 10 = .ok (.getfield 85, 3) := by decide +kernel
theorem dX11_best_13 : decode cX11_best 13 = .ok (.iload_n 1, 1) := by decide +kernel
theorem dX11_best_14 : decode cX11_best 14 = .ok (.invokevirtual 328, 3) := by decide +kernel
theorem dX11_best_17 : decode cX11_best 17 = .ok (.aload_n 0, 1) := by decide +kernel
theorem dX11_best_18 : decode cX11_best 18 = .ok (.getfield 85, 3) := by decide +kernel
theorem dX11_best_21 : decode cX11_best 21 = .ok (.iload_n 2, 1) := by decide +kernel
theorem dX11_best_22 : decode cX11_best 22 = .ok (.invokevirtual 331, 3) := by decide +kernel
theorem dX11_best_25 : decode cX11_best 25 = .ok (.ireturn, 1) := by decide +kernel
set_option maxHeartbeats 4000000 in
set_option maxRecDepth 100000 in
theorem c_X11_best (l : Launch) (E : Nat → ClassId) (D : va_G) (G : th_G) (h0 n : Nat) (hG0 : G h0 = some (15, n)) (x1 x2 : Int32) : Met l yX11_best (tb (.code yX11_best cX11_best 3 (some .int))) (rm 8) (va_Pc [.ref h0, .int x1, .int x2] (th_P E D G)) (QI E D G (fun r => True)) 0 0 (th_A G) := by
  refine Met.ofW (cc := cX11_best) (maxL := 3) (ret := (some .int)) (by decide) rfl ?_
  intro p e s m args below meth c s₁ B hml hv
  obtain ⟨hav, hI, hN, hK⟩ := hv
  have hx := B.exec
  have hb := B.bytes
  have hr := B.returns
  have hts := atoms_spec (ws := tb (.code yX11_best cX11_best 3 (some .int))) B.pre
  have hown : s.vm.findClass RX11 = some m.cls := findClass_of_methodNamed B.named
  have hlocks := B.notSynchronized
  have hS : va_S (th_A G) s.heap s.heap [] := va_S.rf
  have hl := lv_entry ([.ref h0, .int x1, .int x2]) (n := 3) (Nat.le_of_ble_eq_true rfl)
  rw [show entryFrame m args 3 = entryFrame m ([.ref h0, .int x1, .int x2] : List Value).toArray 3 from by rw [hav], lg_entry_eq]
  generalize (lg_sl ([.ref h0, .int x1, .int x2]) ++ List.replicate (3 - (lg_sl ([.ref h0, .int x1, .int x2])).length) Slot.unset).toArray = ls at hl ⊢
  have hl : lv_has ls 3 [(0, .ref h0), (1, .int x1), (2, .int x2)] := hl
  generalize hR : (headSpec (tb (.code yX11_best cX11_best 3 (some .int))) (rm 8)).room = R
  have hR := hR.symm
  generalize hQ : MQ below (QI E D G (fun r => True)) args s 0 0 (th_A G) = QF
  have hQ := hQ.symm
  refine lv_iload_n hx hb dX11_best_0 rfl (lv_at hl 1 rfl) ?_
  refine th_cSs (As := [.int x1]) (rest := []) (n := 1) (d := 0) ⟨hx, hb, hml, hown, hts⟩ (c_X11_isPump l s.heap x1) wd_411 wd_412 wd_1 wd_413 (by decide +kernel) ⟨by rw [hR]; exact Nat.le_of_ble_eq_true rfl, by rw [hR]; exact Nat.le_of_ble_eq_true rfl⟩ hN hS rfl hl.1 rfl (Nat.le_of_ble_eq_true rfl) dX11_best_1 ⟨Nat.zero_le _, Nat.zero_le _⟩ (fun r1 locs hp hS => ?_)
  rcases hp with ⟨rfl, hp⟩ | ⟨rfl, hp⟩
  · skip
    try simp only [rg, not_and, Int.not_le] at hp
    have hp2 := hp
    refine lv_if_ne (tgt := 9) hx hb dX11_best_4 (by decide) (fun _ => ?_) (fun c => absurd c (by decide))
    refine lv_aload_n hx hb dX11_best_9 rfl (lv_at hl 0 rfl) ?_
    obtain ⟨a3, a6, a8, a10, a12, a14, a16, a18, a20, a22, a24, w26, w29, w30, w31, w32, hO, hq4, hq5, hq7, hq9, hq11, hq13, hq15, hq17, hq19, hq21, hq23, hq25, ⟨k27, k28⟩⟩ := op_15 hI hG0 List.not_mem_nil
    have hI := th_I.weak (a := h0) hI
    refine th_get hx hb hts inT11 hown hK hO rfl 11 (by decide) (hts _ (tb_c wd_356)) rfl rfl dX11_best_10 ?_
    refine lv_iload_n hx hb dX11_best_13 rfl (lv_at hl 1 rfl) ?_
    have hI := th_I.close hI hG0 hO (ok_15 hq4 hq5 hq7 hq9 hq11 hq13 hq15 hq17 hq19 hq21 hq23 hq25 ⟨by omega, by omega⟩)
    refine th_cVv (As := [.int x1]) (rest := []) (n := 1) (d := 7) ⟨hx, hb, hml, hown, hts⟩ (c_X10_tune l E D G a24 hq25 x1) wd_1145 wd_1146 wd_1147 wd_12 wd_1148 (by decide +kernel) ⟨by rw [hR]; exact Nat.le_of_ble_eq_true rfl, by rw [hR]; exact Nat.le_of_ble_eq_true rfl⟩ hI hN hK hS (rc_14 hI hq25 List.not_mem_nil) rfl rfl hl.1 rfl (Nat.le_of_ble_eq_true rfl) dX11_best_14 ⟨Nat.zero_le _, Nat.zero_le _⟩ (fun H locs hI hS => ?_)
    refine lv_aload_n hx hb dX11_best_17 rfl (lv_at hl 0 rfl) ?_
    obtain ⟨a34, a37, a39, a41, a43, a45, a47, a49, a51, a53, a55, w57, w60, w61, w62, w63, hO, hq35, hq36, hq38, hq40, hq42, hq44, hq46, hq48, hq50, hq52, hq54, hq56, ⟨k58, k59⟩⟩ := op_15 hI hG0 List.not_mem_nil
    have hI := th_I.weak (a := h0) hI
    refine th_get hx hb hts inT11 hown hK hO rfl 11 (by decide) (hts _ (tb_c wd_356)) rfl rfl dX11_best_18 ?_
    refine lv_iload_n hx hb dX11_best_21 rfl (lv_at hl 2 rfl) ?_
    have hI := th_I.close hI hG0 hO (ok_15 hq35 hq36 hq38 hq40 hq42 hq44 hq46 hq48 hq50 hq52 hq54 hq56 ⟨by omega, by omega⟩)
    refine th_cVi (As := [.int x2]) (rest := []) (n := 1) (d := 0) ⟨hx, hb, hml, hown, hts⟩ (c_X10_tuned l E D G a55 hq56 x2) wd_1168 wd_1169 wd_1170 wd_12 wd_1171 (by decide +kernel) ⟨by rw [hR]; exact Nat.le_of_ble_eq_true rfl, by rw [hR]; exact Nat.le_of_ble_eq_true rfl⟩ hI hN hK hS (rc_14 hI hq56 List.not_mem_nil) rfl rfl hl.1 rfl (Nat.le_of_ble_eq_true rfl) dX11_best_22 ⟨Nat.zero_le _, Nat.zero_le _⟩ (fun r64 H locs hp hI hS => ?_)
    have hpost : True := trivial
    rw [hQ]
    exact W.iret (v := r64) hx hb hr (fun t ht hW => ⟨⟨r64, (), rfl, hpost, by rw [ht]; exact hI, hN.warm hW, va_K.moved hW.alike hK⟩, hS.F ht⟩) hS.2.2 dX11_best_25
  · skip
    try simp only [rg, not_and, Int.not_le] at hp
    have hp65 := hp
    refine lv_if_ne (tgt := 9) hx hb dX11_best_4 (by decide) (fun c => absurd c (by decide)) (fun _ => ?_)
    refine lv_iconst (v := (-1)) hx hb dX11_best_7 (by decide) ?_
    have hpost : True := trivial
    rw [hQ]
    exact W.iret (v := (-1)) hx hb hr (fun t ht hW => ⟨⟨(-1), (), rfl, hpost, by rw [ht]; exact hI, hN.warm hW, va_K.moved hW.alike hK⟩, hS.F ht⟩) hS.2.2 dX11_best_8
theorem dX11_set_0 : decode cX11_set 0 = .ok (.iload_n 1, 1) := by decide +kernel
theorem dX11_set_1 : decode cX11_set 1 = .ok (.invokestatic 117, 3) := by decide +kernel
theorem dX11_set_4 : decode cX11_set 4 = .ok (.ifCond .ne 10, 3) := by decide +kernel
theorem dX11_set_7 : decode cX11_set 7 = .ok (.aload_n 0, 1) := by decide +kernel
theorem dX11_set_8 : decode cX11_set 8 = .ok (.bipush (-2), 2) := by decide +kernel
theorem dX11_set_10 : decode cX11_set 10 = .ok (.invokevirtual 113, 3) := by decide +kernel
theorem dX11_set_13 : decode cX11_set 13 = .ok (.ireturn, 1) := by decide +kernel
theorem dX11_set_14 : decode cX11_set 14 = .ok (.aload_n 0, 1) := by decide +kernel
theorem dX11_set_15 : decode cX11_set 15 = .ok (.getfield 85, 3) := by decide +kernel
theorem dX11_set_18 : decode cX11_set 18 = .ok (.iload_n 1, 1) := by decide +kernel
theorem dX11_set_19 : decode cX11_set 19 = .ok (.invokevirtual 328, 3) := by decide +kernel
theorem dX11_set_22 : decode cX11_set 22 = .ok (.aload_n 0, 1) := by decide +kernel
theorem dX11_set_23 : decode cX11_set 23 = .ok (.getfield 85, 3) := by decide +kernel
theorem dX11_set_26 : decode cX11_set 26 = .ok (.iconst 1, 1) := by decide +kernel
theorem dX11_set_27 : decode cX11_set 27 = .ok (.invokevirtual 331, 3) := by decide +kernel
theorem dX11_set_30 : decode cX11_set 30 = .ok (.istore_n 2, 1) := by decide +kernel
theorem dX11_set_31 : decode cX11_set 31 = .ok (.aload_n 0, 1) := by decide +kernel
theorem dX11_set_32 : decode cX11_set 32 = .ok (.getfield 12, 3) := by decide +kernel
theorem dX11_set_35 : decode cX11_set 35 = .ok (.iload_n 1, 1) := by decide +kernel
theorem dX11_set_36 : decode cX11_set 36 = .ok (.iload_n 2, 1) := by decide +kernel
theorem dX11_set_37 : decode cX11_set 37 = .ok (.iload_n 2, 1) := by decide +kernel
theorem dX11_set_38 : decode cX11_set 38 = .ok (.aload_n 0, 1) := by decide +kernel
theorem dX11_set_39 : decode cX11_set 39 = .ok (.getfield 85, 3) := by decide +kernel
theorem dX11_set_42 : decode cX11_set 42 = .ok (.iconst 2, 1) := by decide +kernel
theorem dX11_set_43 : decode cX11_set 43 = .ok (.invokevirtual 331, 3) := by decide +kernel
theorem dX11_set_46 : decode cX11_set 46 = .ok (.iadd, 1) := by decide +kernel
theorem dX11_set_47 : decode cX11_set 47 = .ok (.bipush 24, 2) := by decide +kernel
theorem dX11_set_49 : decode cX11_set 49 = .ok (.irem, 1) := by decide +kernel
theorem dX11_set_50 : decode cX11_set 50 = .ok (.invokevirtual 334, 3) := by decide +kernel
theorem dX11_set_53 : decode cX11_set 53 = .ok (.aload_n 0, 1) := by decide +kernel
theorem dX11_set_54 : decode cX11_set 54 = .ok (.invokevirtual 124, 3) := by decide +kernel
theorem dX11_set_57 : decode cX11_set 57 = .ok (.aload_n 0, 1) := by decide +kernel
theorem dX11_set_58 : decode cX11_set 58 = .ok (.aload_n 0, 1) := by decide +kernel
theorem dX11_set_59 : decode cX11_set 59 = .ok (.getfield 85, 3) := by decide +kernel
theorem dX11_set_62 : decode cX11_set 62 = .ok (.iconst 0, 1) := by decide +kernel
theorem dX11_set_63 : decode cX11_set 63 = .ok (.invokevirtual 331, 3) := by decide +kernel
theorem dX11_set_66 : decode cX11_set 66 = .ok (.invokevirtual 127, 3) := by decide +kernel
theorem dX11_set_69 : decode cX11_set 69 = .ok (.ireturn, 1) := by decide +kernel
set_option maxHeartbeats 4000000 in
set_option maxRecDepth 100000 in
theorem c_X11_set (l : Launch) (E : Nat → ClassId) (D : va_G) (G : th_G) (h0 n : Nat) (hG0 : G h0 = some (15, n)) (x1 : Int32) : Met l yX11_set (tb (.code yX11_set cX11_set 3 (some .int))) (rm 8) (va_Pc [.ref h0, .int x1] (th_P E D G)) (QI E D G (fun r => True)) 0 0 (th_A G) := by
  refine Met.ofW (cc := cX11_set) (maxL := 3) (ret := (some .int)) (by decide) rfl ?_
  intro p e s m args below meth c s₁ B hml hv
  obtain ⟨hav, hI, hN, hK⟩ := hv
  have hx := B.exec
  have hb := B.bytes
  have hr := B.returns
  have hts := atoms_spec (ws := tb (.code yX11_set cX11_set 3 (some .int))) B.pre
  have hown : s.vm.findClass RX11 = some m.cls := findClass_of_methodNamed B.named
  have hlocks := B.notSynchronized
  have hS : va_S (th_A G) s.heap s.heap [] := va_S.rf
  have hl := lv_entry ([.ref h0, .int x1]) (n := 3) (Nat.le_of_ble_eq_true rfl)
  rw [show entryFrame m args 3 = entryFrame m ([.ref h0, .int x1] : List Value).toArray 3 from by rw [hav], lg_entry_eq]
  generalize (lg_sl ([.ref h0, .int x1]) ++ List.replicate (3 - (lg_sl ([.ref h0, .int x1])).length) Slot.unset).toArray = ls at hl ⊢
  have hl : lv_has ls 3 [(0, .ref h0), (1, .int x1)] := hl
  generalize hR : (headSpec (tb (.code yX11_set cX11_set 3 (some .int))) (rm 8)).room = R
  have hR := hR.symm
  generalize hQ : MQ below (QI E D G (fun r => True)) args s 0 0 (th_A G) = QF
  have hQ := hQ.symm
  refine lv_iload_n hx hb dX11_set_0 rfl (lv_at hl 1 rfl) ?_
  refine th_cSs (As := [.int x1]) (rest := []) (n := 1) (d := 0) ⟨hx, hb, hml, hown, hts⟩ (c_X11_isPump l s.heap x1) wd_411 wd_412 wd_1 wd_413 (by decide +kernel) ⟨by rw [hR]; exact Nat.le_of_ble_eq_true rfl, by rw [hR]; exact Nat.le_of_ble_eq_true rfl⟩ hN hS rfl hl.1 rfl (Nat.le_of_ble_eq_true rfl) dX11_set_1 ⟨Nat.zero_le _, Nat.zero_le _⟩ (fun r1 locs hp hS => ?_)
  rcases hp with ⟨rfl, hp⟩ | ⟨rfl, hp⟩
  · skip
    try simp only [rg, not_and, Int.not_le] at hp
    have hp2 := hp
    refine lv_if_ne (tgt := 14) hx hb dX11_set_4 (by decide) (fun _ => ?_) (fun c => absurd c (by decide))
    refine lv_aload_n hx hb dX11_set_14 rfl (lv_at hl 0 rfl) ?_
    obtain ⟨a3, a6, a8, a10, a12, a14, a16, a18, a20, a22, a24, w26, w29, w30, w31, w32, hO, hq4, hq5, hq7, hq9, hq11, hq13, hq15, hq17, hq19, hq21, hq23, hq25, ⟨k27, k28⟩⟩ := op_15 hI hG0 List.not_mem_nil
    have hI := th_I.weak (a := h0) hI
    refine th_get hx hb hts inT11 hown hK hO rfl 11 (by decide) (hts _ (tb_c wd_356)) rfl rfl dX11_set_15 ?_
    refine lv_iload_n hx hb dX11_set_18 rfl (lv_at hl 1 rfl) ?_
    have hI := th_I.close hI hG0 hO (ok_15 hq4 hq5 hq7 hq9 hq11 hq13 hq15 hq17 hq19 hq21 hq23 hq25 ⟨by omega, by omega⟩)
    refine th_cVv (As := [.int x1]) (rest := []) (n := 1) (d := 7) ⟨hx, hb, hml, hown, hts⟩ (c_X10_tune l E D G a24 hq25 x1) wd_1145 wd_1146 wd_1147 wd_12 wd_1148 (by decide +kernel) ⟨by rw [hR]; exact Nat.le_of_ble_eq_true rfl, by rw [hR]; exact Nat.le_of_ble_eq_true rfl⟩ hI hN hK hS (rc_14 hI hq25 List.not_mem_nil) rfl rfl hl.1 rfl (Nat.le_of_ble_eq_true rfl) dX11_set_19 ⟨Nat.zero_le _, Nat.zero_le _⟩ (fun H locs hI hS => ?_)
    refine lv_aload_n hx hb dX11_set_22 rfl (lv_at hl 0 rfl) ?_
    obtain ⟨a34, a37, a39, a41, a43, a45, a47, a49, a51, a53, a55, w57, w60, w61, w62, w63, hO, hq35, hq36, hq38, hq40, hq42, hq44, hq46, hq48, hq50, hq52, hq54, hq56, ⟨k58, k59⟩⟩ := op_15 hI hG0 List.not_mem_nil
    have hI := th_I.weak (a := h0) hI
    refine th_get hx hb hts inT11 hown hK hO rfl 11 (by decide) (hts _ (tb_c wd_356)) rfl rfl dX11_set_23 ?_
    refine lv_iconst (v := 1) hx hb dX11_set_26 (by decide) ?_
    have hI := th_I.close hI hG0 hO (ok_15 hq35 hq36 hq38 hq40 hq42 hq44 hq46 hq48 hq50 hq52 hq54 hq56 ⟨by omega, by omega⟩)
    refine th_cVi (As := [.int 1]) (rest := []) (n := 1) (d := 0) ⟨hx, hb, hml, hown, hts⟩ (c_X10_tuned l E D G a55 hq56 1) wd_1168 wd_1169 wd_1170 wd_12 wd_1171 (by decide +kernel) ⟨by rw [hR]; exact Nat.le_of_ble_eq_true rfl, by rw [hR]; exact Nat.le_of_ble_eq_true rfl⟩ hI hN hK hS (rc_14 hI hq56 List.not_mem_nil) rfl rfl hl.1 rfl (Nat.le_of_ble_eq_true rfl) dX11_set_27 ⟨Nat.zero_le _, Nat.zero_le _⟩ (fun r64 H locs hp hI hS => ?_)
    refine lv_istore_n (lv' := [(2, .int r64), (0, .ref h0), (1, .int x1)]) hx hb dX11_set_30 rfl hl (by decide) rfl (fun ls hl => ?_)
    refine lv_aload_n hx hb dX11_set_31 rfl (lv_at hl 1 rfl) ?_
    obtain ⟨a65, a68, a70, a72, a74, a76, a78, a80, a82, a84, a86, w88, w91, w92, w93, w94, hO, hq66, hq67, hq69, hq71, hq73, hq75, hq77, hq79, hq81, hq83, hq85, hq87, ⟨k89, k90⟩⟩ := op_15 hI hG0 List.not_mem_nil
    have hI := th_I.weak (a := h0) hI
    refine th_get hx hb hts inT11 hown hK hO rfl 0 (by decide) (hts _ (tb_c wd_345)) rfl rfl dX11_set_32 ?_
    refine lv_iload_n hx hb dX11_set_35 rfl (lv_at hl 2 rfl) ?_
    refine lv_iload_n hx hb dX11_set_36 rfl (lv_at hl 0 rfl) ?_
    refine lv_iload_n hx hb dX11_set_37 rfl (lv_at hl 0 rfl) ?_
    refine lv_aload_n hx hb dX11_set_38 rfl (lv_at hl 1 rfl) ?_
    refine th_get hx hb hts inT11 hown hK hO rfl 11 (by decide) (hts _ (tb_c wd_356)) rfl rfl dX11_set_39 ?_
    refine lv_iconst (v := 2) hx hb dX11_set_42 (by decide) ?_
    have hI := th_I.close hI hG0 hO (ok_15 hq66 hq67 hq69 hq71 hq73 hq75 hq77 hq79 hq81 hq83 hq85 hq87 ⟨by omega, by omega⟩)
    refine th_cVi (As := [.int 2]) (rest := [.int r64, .int r64, .int x1, .ref a65]) (n := 1) (d := 0) ⟨hx, hb, hml, hown, hts⟩ (c_X10_tuned l E D G a86 hq87 2) wd_1168 wd_1169 wd_1170 wd_12 wd_1171 (by decide +kernel) ⟨by rw [hR]; exact Nat.le_of_ble_eq_true rfl, by rw [hR]; exact Nat.le_of_ble_eq_true rfl⟩ hI hN hK hS (rc_14 hI hq87 List.not_mem_nil) rfl rfl hl.1 rfl (Nat.le_of_ble_eq_true rfl) dX11_set_43 ⟨Nat.zero_le _, Nat.zero_le _⟩ (fun r95 H locs hp hI hS => ?_)
    refine lv_iadd hx hb dX11_set_46 ?_
    refine lv_topi (fun v96 e97 => ?_)
    try have tv96 : v96.toInt = r64.toInt + r95.toInt := iv_add rfl rfl e97 (by omega) (by omega)
    refine lv_bipush (v := 24) hx hb dX11_set_47 (by decide) ?_
    refine lv_irem hx hb dX11_set_49 (by decide) ?_
    refine lv_topi (fun v98 e99 => ?_)
    refine th_cVv (As := [.int x1, .int r64, .int v98]) (rest := []) (n := 3) (d := 1) ⟨hx, hb, hml, hown, hts⟩ (c_X6_tellClocks l E D G a65 hq66 x1 r64 v98) wd_1176 wd_420 wd_421 wd_2 wd_422 (by decide +kernel) ⟨by rw [hR]; exact Nat.le_of_ble_eq_true rfl, by rw [hR]; exact Nat.le_of_ble_eq_true rfl⟩ hI hN hK hS (rc_6 hI hq66 List.not_mem_nil) rfl rfl hl.1 rfl (Nat.le_of_ble_eq_true rfl) dX11_set_50 ⟨Nat.zero_le _, Nat.zero_le _⟩ (fun H locs hI hS => ?_)
    refine lv_aload_n hx hb dX11_set_53 rfl (lv_at hl 1 rfl) ?_
    refine th_cVv (As := []) (rest := []) (n := 0) (d := 2) ⟨hx, hb, hml, hown, hts⟩ (c_X11_turnRiver l E D G h0 (n) hG0 ) wd_423 wd_425 wp_1 wd_1 wd_426 (by decide +kernel) ⟨by rw [hR]; exact Nat.le_of_ble_eq_true rfl, by rw [hR]; exact Nat.le_of_ble_eq_true rfl⟩ hI hN hK hS (rc_15 hI hG0 List.not_mem_nil) rfl rfl hl.1 rfl (Nat.le_of_ble_eq_true rfl) dX11_set_54 ⟨Nat.zero_le _, Nat.zero_le _⟩ (fun H locs hI hS => ?_)
    refine lv_aload_n hx hb dX11_set_57 rfl (lv_at hl 1 rfl) ?_
    refine lv_aload_n hx hb dX11_set_58 rfl (lv_at hl 1 rfl) ?_
    obtain ⟨a102, a105, a107, a109, a111, a113, a115, a117, a119, a121, a123, w125, w128, w129, w130, w131, hO, hq103, hq104, hq106, hq108, hq110, hq112, hq114, hq116, hq118, hq120, hq122, hq124, ⟨k126, k127⟩⟩ := op_15 hI hG0 List.not_mem_nil
    have hI := th_I.weak (a := h0) hI
    refine th_get hx hb hts inT11 hown hK hO rfl 11 (by decide) (hts _ (tb_c wd_356)) rfl rfl dX11_set_59 ?_
    refine lv_iconst (v := 0) hx hb dX11_set_62 (by decide) ?_
    have hI := th_I.close hI hG0 hO (ok_15 hq103 hq104 hq106 hq108 hq110 hq112 hq114 hq116 hq118 hq120 hq122 hq124 ⟨by omega, by omega⟩)
    refine th_cVi (As := [.int 0]) (rest := [.ref h0]) (n := 1) (d := 0) ⟨hx, hb, hml, hown, hts⟩ (c_X10_tuned l E D G a123 hq124 0) wd_1168 wd_1169 wd_1170 wd_12 wd_1171 (by decide +kernel) ⟨by rw [hR]; exact Nat.le_of_ble_eq_true rfl, by rw [hR]; exact Nat.le_of_ble_eq_true rfl⟩ hI hN hK hS (rc_14 hI hq124 List.not_mem_nil) rfl rfl hl.1 rfl (Nat.le_of_ble_eq_true rfl) dX11_set_63 ⟨Nat.zero_le _, Nat.zero_le _⟩ (fun r132 H locs hp hI hS => ?_)
    refine th_cVi (As := [.int r132]) (rest := []) (n := 1) (d := 0) ⟨hx, hb, hml, hown, hts⟩ (c_X11_accept l E D G h0 (n) hG0 r132) wd_447 wd_449 wp_3 wd_1 wd_450 (by decide +kernel) ⟨by rw [hR]; exact Nat.le_of_ble_eq_true rfl, by rw [hR]; exact Nat.le_of_ble_eq_true rfl⟩ hI hN hK hS (rc_15 hI hG0 List.not_mem_nil) rfl rfl hl.1 rfl (Nat.le_of_ble_eq_true rfl) dX11_set_66 ⟨Nat.zero_le _, Nat.zero_le _⟩ (fun r133 H locs hp hI hS => ?_)
    have hp := hp.symm
    subst hp
    have hpost : True := trivial
    rw [hQ]
    exact W.iret (v := r132) hx hb hr (fun t ht hW => ⟨⟨r132, (), rfl, hpost, by rw [ht]; exact hI, hN.warm hW, va_K.moved hW.alike hK⟩, hS.F ht⟩) hS.2.2 dX11_set_69
  · skip
    try simp only [rg, not_and, Int.not_le] at hp
    have hp134 := hp
    refine lv_if_ne (tgt := 14) hx hb dX11_set_4 (by decide) (fun c => absurd c (by decide)) (fun _ => ?_)
    refine lv_aload_n hx hb dX11_set_7 rfl (lv_at hl 0 rfl) ?_
    refine lv_bipush (v := (-2)) hx hb dX11_set_8 (by decide) ?_
    refine th_cVi (As := [.int (-2)]) (rest := []) (n := 1) (d := 0) ⟨hx, hb, hml, hown, hts⟩ (c_X11_refuse l E D G h0 (n) hG0 (-2)) wd_407 wd_409 wp_0 wd_1 wd_410 (by decide +kernel) ⟨by rw [hR]; exact Nat.le_of_ble_eq_true rfl, by rw [hR]; exact Nat.le_of_ble_eq_true rfl⟩ hI hN hK hS (rc_15 hI hG0 List.not_mem_nil) rfl rfl hl.1 rfl (Nat.le_of_ble_eq_true rfl) dX11_set_10 ⟨Nat.zero_le _, Nat.zero_le _⟩ (fun r135 H locs hp hI hS => ?_)
    have hp := hp.symm
    subst hp
    have hpost : True := trivial
    rw [hQ]
    exact W.iret (v := (-2)) hx hb hr (fun t ht hW => ⟨⟨(-2), (), rfl, hpost, by rw [ht]; exact hI, hN.warm hW, va_K.moved hW.alike hK⟩, hS.F ht⟩) hS.2.2 dX11_set_13
theorem dX11_week_0 : decode cX11_week 0 = .ok (.iload_n 1, 1) := by decide +kernel
theorem dX11_week_1 : decode cX11_week 1 = .ok (.ifCond .lt 20, 3) := by decide +kernel
theorem dX11_week_4 : decode cX11_week 4 = .ok (.iload_n 1, 1) := by decide +kernel
theorem dX11_week_5 : decode cX11_week 5 = .ok (.ldc_w 337, 3) := by decide +kernel
theorem dX11_week_8 : decode cX11_week 8 = .ok (.if_icmp .gt 13, 3) := by decide +kernel
theorem dX11_week_11 : decode cX11_week 11 = .ok (.iload_n 2, 1) := by decide +kernel
theorem dX11_week_12 : decode cX11_week 12 = .ok (.ifCond .lt 9, 3) := by decide +kernel
theorem dX11_week_15 : decode cX11_week 15 = .ok (.iload_n 2, 1) := by decide +kernel
theorem dX11_week_16 : decode cX11_week 16 = .ok (.bipush 100, 2) := by decide +kernel
theorem dX11_week_18 : decode cX11_week 18 = .ok (.if_icmp .le 9, 3) := by decide +kernel
theorem dX11_week_21 : decode cX11_week 21 = .ok (.aload_n 0, 1) := by decide +kernel
theorem dX11_week_22 : decode cX11_week 22 = .ok (.iconst (-1), 1) := by decide +kernel
theorem dX11_week_23 : decode cX11_week 23 = .ok (.invokevirtual 113, 3) := by decide +kernel
theorem dX11_week_26 : decode cX11_week 26 = .ok (.ireturn, 1) := by decide +kernel
theorem dX11_week_27 : decode cX11_week 27 = .ok (.aload_n 0, 1) := by decide +kernel
theorem dX11_week_28 : decode cX11_week 28 = .ok (.iconst 1, 1) := by decide +kernel
theorem dX11_week_29 : decode cX11_week 29 = .ok (.putfield 102, 3) := by decide +kernel
theorem dX11_week_32 : decode cX11_week 32 = .ok (.aload_n 0, 1) := by decide +kernel
theorem dX11_week_33 : decode cX11_week 33 = .ok (.aload_n 0, 1) := by decide +kernel
theorem dX11_week_34 : decode cX11_week 34 = .ok (.getfield 51, 3) := by decide +kernel
theorem dX11_week_37 : decode cX11_week 37 = .ok (.iload_n 1, 1) := by decide +kernel
theorem dX11_week_38 : decode cX11_week 38 = .ok (.iload_n 2, 1) := by decide +kernel
theorem dX11_week_39 : decode cX11_week 39 = .ok (.aload_n 0, 1) := by decide +kernel
theorem dX11_week_40 : decode cX11_week 40 = .ok (.getfield 27, 3) := by decide +kernel
theorem dX11_week_43 : decode cX11_week 43 = .ok (.invokevirtual 338, 3) := by decide +kernel
theorem dX11_week_46 : decode cX11_week 46 = .ok (.invokevirtual 127, 3) := by decide +kernel
theorem dX11_week_49 : decode cX11_week 49 = .ok (.ireturn, 1) := by decide +kernel
set_option maxHeartbeats 4000000 in
set_option maxRecDepth 100000 in
theorem c_X11_week (l : Launch) (E : Nat → ClassId) (D : va_G) (G : th_G) (h0 n : Nat) (hG0 : G h0 = some (15, n)) (x1 x2 : Int32) : Met l yX11_week (tb (.code yX11_week cX11_week 3 (some .int))) (rm 8) (va_Pc [.ref h0, .int x1, .int x2] (th_P E D G)) (QI E D G (fun r => True)) 0 0 (th_A G) := by
  refine Met.ofW (cc := cX11_week) (maxL := 3) (ret := (some .int)) (by decide) rfl ?_
  intro p e s m args below meth c s₁ B hml hv
  obtain ⟨hav, hI, hN, hK⟩ := hv
  have hx := B.exec
  have hb := B.bytes
  have hr := B.returns
  have hts := atoms_spec (ws := tb (.code yX11_week cX11_week 3 (some .int))) B.pre
  have hown : s.vm.findClass RX11 = some m.cls := findClass_of_methodNamed B.named
  have hlocks := B.notSynchronized
  have hS : va_S (th_A G) s.heap s.heap [] := va_S.rf
  have hl := lv_entry ([.ref h0, .int x1, .int x2]) (n := 3) (Nat.le_of_ble_eq_true rfl)
  rw [show entryFrame m args 3 = entryFrame m ([.ref h0, .int x1, .int x2] : List Value).toArray 3 from by rw [hav], lg_entry_eq]
  generalize (lg_sl ([.ref h0, .int x1, .int x2]) ++ List.replicate (3 - (lg_sl ([.ref h0, .int x1, .int x2])).length) Slot.unset).toArray = ls at hl ⊢
  have hl : lv_has ls 3 [(0, .ref h0), (1, .int x1), (2, .int x2)] := hl
  generalize hR : (headSpec (tb (.code yX11_week cX11_week 3 (some .int))) (rm 8)).room = R
  have hR := hR.symm
  generalize hQ : MQ below (QI E D G (fun r => True)) args s 0 0 (th_A G) = QF
  have hQ := hQ.symm
  have J_21 : ∀ (H : Heap) (locs : List Loc) (ls : Array Slot) , lv_has ls 3 [(0, .ref h0), (1, .int x1), (2, .int x2)] → th_I (okC E) D G [] H → va_S (th_A G) s.heap H locs → W p l e R s m args below meth c H locs 0 0 QF (F0 m 21 ls []) := by
    intro H locs ls  hl  hI hS
    refine lv_aload_n hx hb dX11_week_21 rfl (lv_at hl 0 rfl) ?_
    refine lv_iconst (v := (-1)) hx hb dX11_week_22 (by decide) ?_
    refine th_cVi (As := [.int (-1)]) (rest := []) (n := 1) (d := 0) ⟨hx, hb, hml, hown, hts⟩ (c_X11_refuse l E D G h0 (n) hG0 (-1)) wd_407 wd_409 wp_0 wd_1 wd_410 (by decide +kernel) ⟨by rw [hR]; exact Nat.le_of_ble_eq_true rfl, by rw [hR]; exact Nat.le_of_ble_eq_true rfl⟩ hI hN hK hS (rc_15 hI hG0 List.not_mem_nil) rfl rfl hl.1 rfl (Nat.le_of_ble_eq_true rfl) dX11_week_23 ⟨Nat.zero_le _, Nat.zero_le _⟩ (fun r392 H locs hp hI hS => ?_)
    have hp := hp.symm
    subst hp
    have hpost : True := trivial
    rw [hQ]
    exact W.iret (v := (-1)) hx hb hr (fun t ht hW => ⟨⟨(-1), (), rfl, hpost, by rw [ht]; exact hI, hN.warm hW, va_K.moved hW.alike hK⟩, hS.F ht⟩) hS.2.2 dX11_week_26
  refine lv_iload_n hx hb dX11_week_0 rfl (lv_at hl 1 rfl) ?_
  have k393 := iv_lo x1
  have k394 := iv_hi x1
  refine lv_if_lt (tgt := 21) hx hb dX11_week_1 (by decide) (fun c395 => ?_) (fun c395 => ?_)
  · skip
    have k396 := iv_lt (X := x1.toInt) (Y := (0)) rfl (by decide) c395
    exact J_21 s.heap [] ls  (lv_sub hl [0, 1, 2] rfl)  hI hS
  · skip
    have k397 := iv_nlt (X := x1.toInt) (Y := (0)) rfl (by decide) c395
    refine lv_iload_n hx hb dX11_week_4 rfl (lv_at hl 1 rfl) ?_
    refine lv_ldcw hx hb hown (hts _ (tb_c wd_1181)) dX11_week_5 ?_
    refine lv_icmp_gt (tgt := 21) hx hb dX11_week_8 (by decide) (fun c398 => ?_) (fun c398 => ?_)
    · skip
      have k399 := iv_lt (X := (1000000)) (Y := x1.toInt) (by decide) rfl c398
      exact J_21 s.heap [] ls  (lv_sub hl [0, 1, 2] rfl)  hI hS
    · skip
      have k400 := iv_nlt (X := (1000000)) (Y := x1.toInt) (by decide) rfl c398
      refine lv_iload_n hx hb dX11_week_11 rfl (lv_at hl 2 rfl) ?_
      have k401 := iv_lo x2
      have k402 := iv_hi x2
      refine lv_if_lt (tgt := 21) hx hb dX11_week_12 (by decide) (fun c403 => ?_) (fun c403 => ?_)
      · skip
        have k404 := iv_lt (X := x2.toInt) (Y := (0)) rfl (by decide) c403
        exact J_21 s.heap [] ls  (lv_sub hl [0, 1, 2] rfl)  hI hS
      · skip
        have k405 := iv_nlt (X := x2.toInt) (Y := (0)) rfl (by decide) c403
        refine lv_iload_n hx hb dX11_week_15 rfl (lv_at hl 2 rfl) ?_
        refine lv_bipush (v := 100) hx hb dX11_week_16 (by decide) ?_
        refine lv_icmp_le (tgt := 27) hx hb dX11_week_18 (by decide) (fun c406 => ?_) (fun c406 => ?_)
        · skip
          have k407 := iv_le (X := x2.toInt) (Y := (100)) rfl (by decide) c406
          refine lv_aload_n hx hb dX11_week_27 rfl (lv_at hl 0 rfl) ?_
          refine lv_iconst (v := 1) hx hb dX11_week_28 (by decide) ?_
          obtain ⟨a408, a411, a413, a415, a417, a419, a421, a423, a425, a427, a429, w431, w434, w435, w436, w437, hO, hq409, hq410, hq412, hq414, hq416, hq418, hq420, hq422, hq424, hq426, hq428, hq430, ⟨k432, k433⟩⟩ := op_15 hI hG0 List.not_mem_nil
          have hI := th_I.weak (a := h0) hI
          refine th_put (ty := .boolean) hx hb hts inT11 tyX11 tyX11_ok nmX11 hown hK hO hS ⟨_, hG0⟩ rfl 16 (by decide) (hts _ (tb_c wd_361)) rfl rfl (by decide +kernel) (by decide) rfl (Nat.le_of_ble_eq_true rfl) dX11_week_29 (fun H locs hO oq hS => ?_)
          have hI := th_I.moved hI oq
          have hO : va_at D vwCl (h0, .inr (11, [.ref a408, .ref n, .ref a411, .ref a413, .ref a415, .ref a417, .ref a419, .ref a421, .ref a423, .ref a425, .ref a427, .ref a429, .int w431, .int w434, .int w435, .int w436, .int 1])) H := hO
          refine lv_aload_n hx hb dX11_week_32 rfl (lv_at hl 0 rfl) ?_
          refine lv_aload_n hx hb dX11_week_33 rfl (lv_at hl 0 rfl) ?_
          refine th_get hx hb hts inT11 hown hK hO rfl 7 (by decide) (hts _ (tb_c wd_352)) rfl rfl dX11_week_34 ?_
          refine lv_iload_n hx hb dX11_week_37 rfl (lv_at hl 1 rfl) ?_
          refine lv_iload_n hx hb dX11_week_38 rfl (lv_at hl 2 rfl) ?_
          refine lv_aload_n hx hb dX11_week_39 rfl (lv_at hl 0 rfl) ?_
          refine th_get hx hb hts inT11 hown hK hO rfl 4 (by decide) (hts _ (tb_c wd_349)) rfl rfl dX11_week_40 ?_
          have hI := th_I.close hI hG0 hO (ok_15 hq409 hq410 hq412 hq414 hq416 hq418 hq420 hq422 hq424 hq426 hq428 hq430 ⟨by omega, by omega⟩)
          refine th_cVi (As := [.int x1, .int x2, .ref a415]) (rest := [.ref h0]) (n := 3) (d := 7) ⟨hx, hb, hml, hown, hts⟩ (c_X9_drawWeek l E D G a421 hq422 x1 x2 a415 hq416) wd_1182 wd_1183 wd_1184 wd_8 wd_1185 (by decide +kernel) ⟨by rw [hR]; exact Nat.le_of_ble_eq_true rfl, by rw [hR]; exact Nat.le_of_ble_eq_true rfl⟩ hI hN hK hS (rc_10 hI hq422 List.not_mem_nil) rfl rfl hl.1 rfl (Nat.le_of_ble_eq_true rfl) dX11_week_43 ⟨Nat.zero_le _, Nat.zero_le _⟩ (fun r438 H locs hp hI hS => ?_)
          refine th_cVi (As := [.int r438]) (rest := []) (n := 1) (d := 0) ⟨hx, hb, hml, hown, hts⟩ (c_X11_accept l E D G h0 (n) hG0 r438) wd_447 wd_449 wp_3 wd_1 wd_450 (by decide +kernel) ⟨by rw [hR]; exact Nat.le_of_ble_eq_true rfl, by rw [hR]; exact Nat.le_of_ble_eq_true rfl⟩ hI hN hK hS (rc_15 hI hG0 List.not_mem_nil) rfl rfl hl.1 rfl (Nat.le_of_ble_eq_true rfl) dX11_week_46 ⟨Nat.zero_le _, Nat.zero_le _⟩ (fun r439 H locs hp hI hS => ?_)
          have hp := hp.symm
          subst hp
          have hpost : True := trivial
          rw [hQ]
          exact W.iret (v := r438) hx hb hr (fun t ht hW => ⟨⟨r438, (), rfl, hpost, by rw [ht]; exact hI, hN.warm hW, va_K.moved hW.alike hK⟩, hS.F ht⟩) hS.2.2 dX11_week_49
        · skip
          have k440 := iv_nle (X := x2.toInt) (Y := (100)) rfl (by decide) c406
          exact J_21 s.heap [] ls  (lv_sub hl [0, 1, 2] rfl)  hI hS
theorem dX11_drawn_0 : decode cX11_drawn 0 = .ok (.aload_n 0, 1) := by decide +kernel
theorem dX11_drawn_1 : decode cX11_drawn 1 = .ok (.getfield 102, 3) := by decide +kernel
theorem dX11_drawn_4 : decode cX11_drawn 4 = .ok (.ifCond .eq 19, 3) := by decide +kernel
theorem dX11_drawn_7 : decode cX11_drawn 7 = .ok (.iload_n 1, 1) := by decide +kernel
theorem dX11_drawn_8 : decode cX11_drawn 8 = .ok (.invokestatic 106, 3) := by decide +kernel
theorem dX11_drawn_11 : decode cX11_drawn 11 = .ok (.ifCond .eq 12, 3) := by decide +kernel
theorem dX11_drawn_14 : decode cX11_drawn 14 = .ok (.aload_n 0, 1) := by decide +kernel
theorem dX11_drawn_15 : decode cX11_drawn 15 = .ok (.getfield 27, 3) := by decide +kernel
theorem dX11_drawn_18 : decode cX11_drawn 18 = .ok (.iload_n 1, 1) := by decide +kernel
theorem dX11_drawn_19 : decode cX11_drawn 19 = .ok (.iaload, 1) := by decide +kernel
theorem dX11_drawn_20 : decode cX11_drawn 20 = .ok (.goto 4, 3) := by decide +kernel
theorem dX11_drawn_23 : decode cX11_drawn 23 = .ok (.iconst (-1), 1) := by decide +kernel
theorem dX11_drawn_24 : decode cX11_drawn 24 = .ok (.ireturn, 1) := by decide +kernel
set_option maxHeartbeats 4000000 in
set_option maxRecDepth 100000 in
theorem c_X11_drawn (l : Launch) (E : Nat → ClassId) (D : va_G) (G : th_G) (h0 n : Nat) (hG0 : G h0 = some (15, n)) (x1 : Int32) : Met l yX11_drawn (tb (.code yX11_drawn cX11_drawn 2 (some .int))) (rm 1) (va_Pc [.ref h0, .int x1] (th_P E D G)) (QI E D G (fun r => True)) 0 0 (th_A G) := by
  refine Met.ofW (cc := cX11_drawn) (maxL := 2) (ret := (some .int)) (by decide) rfl ?_
  intro p e s m args below meth c s₁ B hml hv
  obtain ⟨hav, hI, hN, hK⟩ := hv
  have hx := B.exec
  have hb := B.bytes
  have hr := B.returns
  have hts := atoms_spec (ws := tb (.code yX11_drawn cX11_drawn 2 (some .int))) B.pre
  have hown : s.vm.findClass RX11 = some m.cls := findClass_of_methodNamed B.named
  have hlocks := B.notSynchronized
  have hS : va_S (th_A G) s.heap s.heap [] := va_S.rf
  have hl := lv_entry ([.ref h0, .int x1]) (n := 2) (Nat.le_of_ble_eq_true rfl)
  rw [show entryFrame m args 2 = entryFrame m ([.ref h0, .int x1] : List Value).toArray 2 from by rw [hav], lg_entry_eq]
  generalize (lg_sl ([.ref h0, .int x1]) ++ List.replicate (2 - (lg_sl ([.ref h0, .int x1])).length) Slot.unset).toArray = ls at hl ⊢
  have hl : lv_has ls 2 [(0, .ref h0), (1, .int x1)] := hl
  generalize hR : (headSpec (tb (.code yX11_drawn cX11_drawn 2 (some .int))) (rm 1)).room = R
  have hR := hR.symm
  generalize hQ : MQ below (QI E D G (fun r => True)) args s 0 0 (th_A G) = QF
  have hQ := hQ.symm
  refine lv_aload_n hx hb dX11_drawn_0 rfl (lv_at hl 0 rfl) ?_
  obtain ⟨a1, a4, a6, a8, a10, a12, a14, a16, a18, a20, a22, w24, w27, w28, w29, w30, hO, hq2, hq3, hq5, hq7, hq9, hq11, hq13, hq15, hq17, hq19, hq21, hq23, ⟨k25, k26⟩⟩ := op_15 hI hG0 List.not_mem_nil
  have hI := th_I.weak (a := h0) hI
  refine th_get hx hb hts inT11 hown hK hO rfl 16 (by decide) (hts _ (tb_c wd_361)) rfl rfl dX11_drawn_1 ?_
  have k31 := iv_lo w30
  have k32 := iv_hi w30
  refine lv_if_eq (tgt := 23) hx hb dX11_drawn_4 (by decide) (fun c33 => ?_) (fun c33 => ?_)
  · skip
    have k34 := iv_eq (X := w30.toInt) (Y := (0)) rfl (by decide) c33
    refine lv_iconst (v := (-1)) hx hb dX11_drawn_23 (by decide) ?_
    have hI := th_I.close hI hG0 hO (ok_15 hq2 hq3 hq5 hq7 hq9 hq11 hq13 hq15 hq17 hq19 hq21 hq23 ⟨by omega, by omega⟩)
    have hpost : True := trivial
    rw [hQ]
    exact W.iret (v := (-1)) hx hb hr (fun t ht hW => ⟨⟨(-1), (), rfl, hpost, by rw [ht]; exact hI, hN.warm hW, va_K.moved hW.alike hK⟩, hS.F ht⟩) hS.2.2 dX11_drawn_24
  · skip
    have k35 := iv_ne (X := w30.toInt) (Y := (0)) rfl (by decide) c33
    refine lv_iload_n hx hb dX11_drawn_7 rfl (lv_at hl 1 rfl) ?_
    refine th_cSs (As := [.int x1]) (rest := []) (n := 1) (d := 0) ⟨hx, hb, hml, hown, hts⟩ (c_X11_isCell l s.heap x1) wd_401 wd_402 wd_1 wd_403 (by decide +kernel) ⟨by rw [hR]; exact Nat.le_of_ble_eq_true rfl, by rw [hR]; exact Nat.le_of_ble_eq_true rfl⟩ hN hS rfl hl.1 rfl (Nat.le_of_ble_eq_true rfl) dX11_drawn_8 ⟨Nat.zero_le _, Nat.zero_le _⟩ (fun r36 locs hp hS => ?_)
    rcases hp with ⟨rfl, hp⟩ | ⟨rfl, hp⟩
    · skip
      try simp only [rg, not_and, Int.not_le] at hp
      have hp37 := hp
      refine lv_if_eq (tgt := 23) hx hb dX11_drawn_11 (by decide) (fun c => absurd c (by decide)) (fun _ => ?_)
      refine lv_aload_n hx hb dX11_drawn_14 rfl (lv_at hl 0 rfl) ?_
      refine th_get hx hb hts inT11 hown hK hO rfl 4 (by decide) (hts _ (tb_c wd_349)) rfl rfl dX11_drawn_15 ?_
      refine lv_iload_n hx hb dX11_drawn_18 rfl (lv_at hl 1 rfl) ?_
      obtain ⟨_, hA38⟩ := op_0 hI hq9 (th_ne hG0 hq9 (show (15 : Nat) ≠ 0 by decide))
      refine th_iald hx hb hK hA38 0 rfl (iv_in (X := x1.toInt) rfl (by omega) (by omega)) dX11_drawn_19 (fun v39 _ => ?_)
      refine lv_goto (tgt := 24) hx hb dX11_drawn_20 (by decide) ?_
      have hI := th_I.close hI hG0 hO (ok_15 hq2 hq3 hq5 hq7 hq9 hq11 hq13 hq15 hq17 hq19 hq21 hq23 ⟨by omega, by omega⟩)
      have hpost : True := trivial
      rw [hQ]
      exact W.iret (v := v39) hx hb hr (fun t ht hW => ⟨⟨v39, (), rfl, hpost, by rw [ht]; exact hI, hN.warm hW, va_K.moved hW.alike hK⟩, hS.F ht⟩) hS.2.2 dX11_drawn_24
    · skip
      try simp only [rg, not_and, Int.not_le] at hp
      have hp40 := hp
      refine lv_if_eq (tgt := 23) hx hb dX11_drawn_11 (by decide) (fun _ => ?_) (fun c => absurd c (by decide))
      refine lv_iconst (v := (-1)) hx hb dX11_drawn_23 (by decide) ?_
      have hI := th_I.close hI hG0 hO (ok_15 hq2 hq3 hq5 hq7 hq9 hq11 hq13 hq15 hq17 hq19 hq21 hq23 ⟨by omega, by omega⟩)
      have hpost : True := trivial
      rw [hQ]
      exact W.iret (v := (-1)) hx hb hr (fun t ht hW => ⟨⟨(-1), (), rfl, hpost, by rw [ht]; exact hI, hN.warm hW, va_K.moved hW.alike hK⟩, hS.F ht⟩) hS.2.2 dX11_drawn_24
theorem dX11_count_0 : decode cX11_count 0 = .ok (.iload_n 1, 1) := by decide +kernel
theorem dX11_count_1 : decode cX11_count 1 = .ok (.bipush 10, 2) := by decide +kernel
theorem dX11_count_3 : decode cX11_count 3 = .ok (.if_icmp .lt 19, 3) := by decide +kernel
theorem dX11_count_6 : decode cX11_count 6 = .ok (.iload_n 1, 1) := by decide +kernel
theorem dX11_count_7 : decode cX11_count 7 = .ok (.bipush 14, 2) := by decide +kernel
theorem dX11_count_9 : decode cX11_count 9 = .ok (.if_icmp .gt 13, 3) := by decide +kernel
theorem dX11_count_12 : decode cX11_count 12 = .ok (.aload_n 0, 1) := by decide +kernel
theorem dX11_count_13 : decode cX11_count 13 = .ok (.getfield 24, 3) := by decide +kernel
theorem dX11_count_16 : decode cX11_count 16 = .ok (.iload_n 1, 1) := by decide +kernel
theorem dX11_count_17 : decode cX11_count 17 = .ok (.bipush 10, 2) := by decide +kernel
theorem dX11_count_19 : decode cX11_count 19 = .ok (.isub, 1) := by decide +kernel
theorem dX11_count_20 : decode cX11_count 20 = .ok (.iaload, 1) := by decide +kernel
theorem dX11_count_21 : decode cX11_count 21 = .ok (.ireturn, 1) := by decide +kernel
theorem dX11_count_22 : decode cX11_count 22 = .ok (.iload_n 1, 1) := by decide +kernel
theorem dX11_count_23 : decode cX11_count 23 = .ok (.tableswitch 183 0 15 #[77, 85, 93, 104, 115, 126, 137, 148, 159, 170, 183, 183, 183, 183, 183, 175], 77) := by decide +kernel
theorem dX11_count_100 : decode cX11_count 100 = .ok (.aload_n 0, 1) := by decide +kernel
theorem dX11_count_101 : decode cX11_count 101 = .ok (.getfield 12, 3) := by decide +kernel
theorem dX11_count_104 : decode cX11_count 104 = .ok (.getfield 194, 3) := by decide +kernel
theorem dX11_count_107 : decode cX11_count 107 = .ok (.ireturn, 1) := by decide +kernel
theorem dX11_count_108 : decode cX11_count 108 = .ok (.aload_n 0, 1) := by decide +kernel
theorem dX11_count_109 : decode cX11_count 109 = .ok (.getfield 12, 3) := by decide +kernel
theorem dX11_count_112 : decode cX11_count 112 = .ok (.invokevirtual 345, 3) := by decide +kernel
theorem dX11_count_115 : decode cX11_count 115 = .ok (.ireturn, 1) := by decide +kernel
theorem dX11_count_116 : decode cX11_count 116 = .ok (.aload_n 0, 1) := by decide +kernel
theorem dX11_count_117 : decode cX11_count 117 = .ok (.getfield 12, 3) := by decide +kernel
theorem dX11_count_120 : decode cX11_count 120 = .ok (.getfield 145, 3) := by decide +kernel
theorem dX11_count_123 : decode cX11_count 123 = .ok (.invokevirtual 166, 3) := by decide +kernel
theorem dX11_count_126 : decode cX11_count 126 = .ok (.ireturn, 1) := by decide +kernel
theorem dX11_count_127 : decode cX11_count 127 = .ok (.aload_n 0, 1) := by decide +kernel
theorem dX11_count_128 : decode cX11_count 128 = .ok (.getfield 12, 3) := by decide +kernel
theorem dX11_count_131 : decode cX11_count 131 = .ok (.getfield 170, 3) := by decide +kernel
theorem dX11_count_134 : decode cX11_count 134 = .ok (.invokevirtual 166, 3) := by decide +kernel
theorem dX11_count_137 : decode cX11_count 137 = .ok (.ireturn, 1) := by decide +kernel
theorem dX11_count_138 : decode cX11_count 138 = .ok (.aload_n 0, 1) := by decide +kernel
theorem dX11_count_139 : decode cX11_count 139 = .ok (.getfield 12, 3) := by decide +kernel
theorem dX11_count_142 : decode cX11_count 142 = .ok (.getfield 246, 3) := by decide +kernel
theorem dX11_count_145 : decode cX11_count 145 = .ok (.invokevirtual 166, 3) := by decide +kernel
theorem dX11_count_148 : decode cX11_count 148 = .ok (.ireturn, 1) := by decide +kernel
theorem dX11_count_149 : decode cX11_count 149 = .ok (.aload_n 0, 1) := by decide +kernel
theorem dX11_count_150 : decode cX11_count 150 = .ok (.getfield 12, 3) := by decide +kernel
theorem dX11_count_153 : decode cX11_count 153 = .ok (.getfield 266, 3) := by decide +kernel
theorem dX11_count_156 : decode cX11_count 156 = .ok (.invokevirtual 166, 3) := by decide +kernel
theorem dX11_count_159 : decode cX11_count 159 = .ok (.ireturn, 1) := by decide +kernel
theorem dX11_count_160 : decode cX11_count 160 = .ok (.aload_n 0, 1) := by decide +kernel
theorem dX11_count_161 : decode cX11_count 161 = .ok (.getfield 12, 3) := by decide +kernel
theorem dX11_count_164 : decode cX11_count 164 = .ok (.getfield 292, 3) := by decide +kernel
theorem dX11_count_167 : decode cX11_count 167 = .ok (.invokevirtual 166, 3) := by decide +kernel
theorem dX11_count_170 : decode cX11_count 170 = .ok (.ireturn, 1) := by decide +kernel
theorem dX11_count_171 : decode cX11_count 171 = .ok (.aload_n 0, 1) := by decide +kernel
theorem dX11_count_172 : decode cX11_count 172 = .ok (.getfield 12, 3) := by decide +kernel
theorem dX11_count_175 : decode cX11_count 175 = .ok (.getfield 307, 3) := by decide +kernel
theorem dX11_count_178 : decode cX11_count 178 = .ok (.invokevirtual 166, 3) := by decide +kernel
theorem dX11_count_181 : decode cX11_count 181 = .ok (.ireturn, 1) := by decide +kernel
theorem dX11_count_182 : decode cX11_count 182 = .ok (.aload_n 0, 1) := by decide +kernel
theorem dX11_count_183 : decode cX11_count 183 = .ok (.getfield 12, 3) := by decide +kernel
theorem dX11_count_186 : decode cX11_count 186 = .ok (.getfield 322, 3) := by decide +kernel
theorem dX11_count_189 : decode cX11_count 189 = .ok (.invokevirtual 166, 3) := by decide +kernel
theorem dX11_count_192 : decode cX11_count 192 = .ok (.ireturn, 1) := by decide +kernel
theorem dX11_count_193 : decode cX11_count 193 = .ok (.aload_n 0, 1) := by decide +kernel
theorem dX11_count_194 : decode cX11_count 194 = .ok (.getfield 89, 3) := by decide +kernel
theorem dX11_count_197 : decode cX11_count 197 = .ok (.ireturn, 1) := by decide +kernel
theorem dX11_count_198 : decode cX11_count 198 = .ok (.aload_n 0, 1) := by decide +kernel
theorem dX11_count_199 : decode cX11_count 199 = .ok (.getfield 12, 3) := by decide +kernel
theorem dX11_count_202 : decode cX11_count 202 = .ok (.getfield 208, 3) := by decide +kernel
theorem dX11_count_205 : decode cX11_count 205 = .ok (.ireturn, 1) := by decide +kernel
theorem dX11_count_206 : decode cX11_count 206 = .ok (.iconst (-1), 1) := by decide +kernel
theorem dX11_count_207 : decode cX11_count 207 = .ok (.ireturn, 1) := by decide +kernel
set_option maxHeartbeats 4000000 in
set_option maxRecDepth 100000 in
theorem c_X11_count (l : Launch) (E : Nat → ClassId) (D : va_G) (G : th_G) (h0 n : Nat) (hG0 : G h0 = some (15, n)) (x1 : Int32) : Met l yX11_count (tb (.code yX11_count cX11_count 2 (some .int))) (rm 1) (va_Pc [.ref h0, .int x1] (th_P E D G)) (QI E D G (fun r => True)) 0 0 (th_A G) := by
  refine Met.ofW (cc := cX11_count) (maxL := 2) (ret := (some .int)) (by decide) rfl ?_
  intro p e s m args below meth c s₁ B hml hv
  obtain ⟨hav, hI, hN, hK⟩ := hv
  have hx := B.exec
  have hb := B.bytes
  have hr := B.returns
  have hts := atoms_spec (ws := tb (.code yX11_count cX11_count 2 (some .int))) B.pre
  have hown : s.vm.findClass RX11 = some m.cls := findClass_of_methodNamed B.named
  have hlocks := B.notSynchronized
  have hS : va_S (th_A G) s.heap s.heap [] := va_S.rf
  have hl := lv_entry ([.ref h0, .int x1]) (n := 2) (Nat.le_of_ble_eq_true rfl)
  rw [show entryFrame m args 2 = entryFrame m ([.ref h0, .int x1] : List Value).toArray 2 from by rw [hav], lg_entry_eq]
  generalize (lg_sl ([.ref h0, .int x1]) ++ List.replicate (2 - (lg_sl ([.ref h0, .int x1])).length) Slot.unset).toArray = ls at hl ⊢
  have hl : lv_has ls 2 [(0, .ref h0), (1, .int x1)] := hl
  generalize hR : (headSpec (tb (.code yX11_count cX11_count 2 (some .int))) (rm 1)).room = R
  have hR := hR.symm
  generalize hQ : MQ below (QI E D G (fun r => True)) args s 0 0 (th_A G) = QF
  have hQ := hQ.symm
  have J_22 : ∀ (H : Heap) (locs : List Loc) (ls : Array Slot) , lv_has ls 2 [(0, .ref h0), (1, .int x1)] → th_I (okC E) D G [] H → va_S (th_A G) s.heap H locs → W p l e R s m args below meth c H locs 0 0 QF (F0 m 22 ls []) := by
    intro H locs ls  hl  hI hS
    refine lv_iload_n hx hb dX11_count_22 rfl (lv_at hl 1 rfl) ?_
    have k5034 := iv_lo x1
    have k5035 := iv_hi x1
    by_cases c5036 : x1 = 0
    · skip
      have k5037 := iv_eq (X := x1.toInt) (Y := 0) rfl (by decide) c5036
      refine lv_tableIn (tgt := 100) (off := 77) hx hb dX11_count_23 (by omega) (by omega) (by rw [k5037]; rfl) (by decide) ?_
      refine lv_aload_n hx hb dX11_count_100 rfl (lv_at hl 0 rfl) ?_
      obtain ⟨a5038, a5041, a5043, a5045, a5047, a5049, a5051, a5053, a5055, a5057, a5059, w5061, w5064, w5065, w5066, w5067, hO, hq5039, hq5040, hq5042, hq5044, hq5046, hq5048, hq5050, hq5052, hq5054, hq5056, hq5058, hq5060, ⟨k5062, k5063⟩⟩ := op_15 hI hG0 List.not_mem_nil
      have hI := th_I.weak (a := h0) hI
      refine th_get hx hb hts inT11 hown hK hO rfl 0 (by decide) (hts _ (tb_c wd_345)) rfl rfl dX11_count_101 ?_
      have hI := th_I.close hI hG0 hO (ok_15 hq5039 hq5040 hq5042 hq5044 hq5046 hq5048 hq5050 hq5052 hq5054 hq5056 hq5058 hq5060 ⟨by omega, by omega⟩)
      obtain ⟨a5068, a5070, a5072, a5074, a5076, a5078, a5080, a5082, a5084, a5086, w5088, w5091, w5092, w5093, hO, hq5069, hq5071, hq5073, hq5075, hq5077, hq5079, hq5081, hq5083, hq5085, hq5087, ⟨k5089, k5090⟩⟩ := op_6 hI hq5039 List.not_mem_nil
      have hI := th_I.weak (a := a5038) hI
      refine th_getN hx hb hts inT6 hown hK hN hO rfl 10 (by decide) wn_83 rfl rfl dX11_count_104 ?_
      have hI := th_I.close hI hq5039 hO (ok_6 hq5069 hq5071 hq5073 hq5075 hq5077 hq5079 hq5081 hq5083 hq5085 hq5087 ⟨by omega, by omega⟩)
      have hpost : True := trivial
      rw [hQ]
      exact W.iret (v := w5088) hx hb hr (fun t ht hW => ⟨⟨w5088, (), rfl, hpost, by rw [ht]; exact hI, hN.warm hW, va_K.moved hW.alike hK⟩, hS.F ht⟩) hS.2.2 dX11_count_107
    have k5094 := iv_ne (X := x1.toInt) (Y := 0) rfl (by decide) c5036
    by_cases c5095 : x1 = 1
    · skip
      have k5096 := iv_eq (X := x1.toInt) (Y := 1) rfl (by decide) c5095
      refine lv_tableIn (tgt := 108) (off := 85) hx hb dX11_count_23 (by omega) (by omega) (by rw [k5096]; rfl) (by decide) ?_
      refine lv_aload_n hx hb dX11_count_108 rfl (lv_at hl 0 rfl) ?_
      obtain ⟨a5097, a5100, a5102, a5104, a5106, a5108, a5110, a5112, a5114, a5116, a5118, w5120, w5123, w5124, w5125, w5126, hO, hq5098, hq5099, hq5101, hq5103, hq5105, hq5107, hq5109, hq5111, hq5113, hq5115, hq5117, hq5119, ⟨k5121, k5122⟩⟩ := op_15 hI hG0 List.not_mem_nil
      have hI := th_I.weak (a := h0) hI
      refine th_get hx hb hts inT11 hown hK hO rfl 0 (by decide) (hts _ (tb_c wd_345)) rfl rfl dX11_count_109 ?_
      have hI := th_I.close hI hG0 hO (ok_15 hq5098 hq5099 hq5101 hq5103 hq5105 hq5107 hq5109 hq5111 hq5113 hq5115 hq5117 hq5119 ⟨by omega, by omega⟩)
      refine th_cVi (As := []) (rest := []) (n := 0) (d := 0) ⟨hx, hb, hml, hown, hts⟩ (c_X6_countStrikes l E D G a5097 hq5098 ) wd_1219 wd_1220 wd_1221 wd_2 wd_1222 (by decide +kernel) ⟨by rw [hR]; exact Nat.le_of_ble_eq_true rfl, by rw [hR]; exact Nat.le_of_ble_eq_true rfl⟩ hI hN hK hS (rc_6 hI hq5098 List.not_mem_nil) rfl rfl hl.1 rfl (Nat.le_of_ble_eq_true rfl) dX11_count_112 ⟨Nat.zero_le _, Nat.zero_le _⟩ (fun r5127 H locs hp hI hS => ?_)
      have hpost : True := trivial
      rw [hQ]
      exact W.iret (v := r5127) hx hb hr (fun t ht hW => ⟨⟨r5127, (), rfl, hpost, by rw [ht]; exact hI, hN.warm hW, va_K.moved hW.alike hK⟩, hS.F ht⟩) hS.2.2 dX11_count_115
    have k5128 := iv_ne (X := x1.toInt) (Y := 1) rfl (by decide) c5095
    by_cases c5129 : x1 = 2
    · skip
      have k5130 := iv_eq (X := x1.toInt) (Y := 2) rfl (by decide) c5129
      refine lv_tableIn (tgt := 116) (off := 93) hx hb dX11_count_23 (by omega) (by omega) (by rw [k5130]; rfl) (by decide) ?_
      refine lv_aload_n hx hb dX11_count_116 rfl (lv_at hl 0 rfl) ?_
      obtain ⟨a5131, a5134, a5136, a5138, a5140, a5142, a5144, a5146, a5148, a5150, a5152, w5154, w5157, w5158, w5159, w5160, hO, hq5132, hq5133, hq5135, hq5137, hq5139, hq5141, hq5143, hq5145, hq5147, hq5149, hq5151, hq5153, ⟨k5155, k5156⟩⟩ := op_15 hI hG0 List.not_mem_nil
      have hI := th_I.weak (a := h0) hI
      refine th_get hx hb hts inT11 hown hK hO rfl 0 (by decide) (hts _ (tb_c wd_345)) rfl rfl dX11_count_117 ?_
      have hI := th_I.close hI hG0 hO (ok_15 hq5132 hq5133 hq5135 hq5137 hq5139 hq5141 hq5143 hq5145 hq5147 hq5149 hq5151 hq5153 ⟨by omega, by omega⟩)
      obtain ⟨a5161, a5163, a5165, a5167, a5169, a5171, a5173, a5175, a5177, a5179, w5181, w5184, w5185, w5186, hO, hq5162, hq5164, hq5166, hq5168, hq5170, hq5172, hq5174, hq5176, hq5178, hq5180, ⟨k5182, k5183⟩⟩ := op_6 hI hq5132 List.not_mem_nil
      have hI := th_I.weak (a := a5131) hI
      refine th_getN hx hb hts inT6 hown hK hN hO rfl 2 (by decide) wn_61 rfl rfl dX11_count_120 ?_
      have hI := th_I.close hI hq5132 hO (ok_6 hq5162 hq5164 hq5166 hq5168 hq5170 hq5172 hq5174 hq5176 hq5178 hq5180 ⟨by omega, by omega⟩)
      obtain ⟨a5188, w5190, hO, hq5189, ⟨k5191, k5192⟩, k5193⟩ := op_4 hI hq5166 List.not_mem_nil
      have hI := th_I.weak (a := a5165) hI
      have k5194 : (nI 8).toInt = ((8 : Nat) : Int) := nI_toInt (by omega)
      refine th_cVs (As := []) (rest := []) (n := 0) (d := 0) ⟨hx, hb, hml, hown, hts⟩ (c_X4_size l E D H a5165 8 a5188 w5190 hO (by omega) (by omega) (by omega)) wd_506 wd_507 wd_508 wd_3 wd_509 (by decide +kernel) ⟨by rw [hR]; exact Nat.le_of_ble_eq_true rfl, by rw [hR]; exact Nat.le_of_ble_eq_true rfl⟩ hN hK hS ⟨_, hO⟩ rfl rfl hl.1 rfl (Nat.le_of_ble_eq_true rfl) dX11_count_123 ⟨Nat.zero_le _, Nat.zero_le _⟩ (fun r5187 locs hp hS => ?_)
      have hp := hp.symm
      subst hp
      have hI := th_I.close hI hq5166 hO (ok_4 hq5189 ⟨by omega, by omega⟩ (by omega))
      have hpost : True := trivial
      rw [hQ]
      exact W.iret (v := w5190) hx hb hr (fun t ht hW => ⟨⟨w5190, (), rfl, hpost, by rw [ht]; exact hI, hN.warm hW, va_K.moved hW.alike hK⟩, hS.F ht⟩) hS.2.2 dX11_count_126
    have k5195 := iv_ne (X := x1.toInt) (Y := 2) rfl (by decide) c5129
    by_cases c5196 : x1 = 3
    · skip
      have k5197 := iv_eq (X := x1.toInt) (Y := 3) rfl (by decide) c5196
      refine lv_tableIn (tgt := 127) (off := 104) hx hb dX11_count_23 (by omega) (by omega) (by rw [k5197]; rfl) (by decide) ?_
      refine lv_aload_n hx hb dX11_count_127 rfl (lv_at hl 0 rfl) ?_
      obtain ⟨a5198, a5201, a5203, a5205, a5207, a5209, a5211, a5213, a5215, a5217, a5219, w5221, w5224, w5225, w5226, w5227, hO, hq5199, hq5200, hq5202, hq5204, hq5206, hq5208, hq5210, hq5212, hq5214, hq5216, hq5218, hq5220, ⟨k5222, k5223⟩⟩ := op_15 hI hG0 List.not_mem_nil
      have hI := th_I.weak (a := h0) hI
      refine th_get hx hb hts inT11 hown hK hO rfl 0 (by decide) (hts _ (tb_c wd_345)) rfl rfl dX11_count_128 ?_
      have hI := th_I.close hI hG0 hO (ok_15 hq5199 hq5200 hq5202 hq5204 hq5206 hq5208 hq5210 hq5212 hq5214 hq5216 hq5218 hq5220 ⟨by omega, by omega⟩)
      obtain ⟨a5228, a5230, a5232, a5234, a5236, a5238, a5240, a5242, a5244, a5246, w5248, w5251, w5252, w5253, hO, hq5229, hq5231, hq5233, hq5235, hq5237, hq5239, hq5241, hq5243, hq5245, hq5247, ⟨k5249, k5250⟩⟩ := op_6 hI hq5199 List.not_mem_nil
      have hI := th_I.weak (a := a5198) hI
      refine th_getN hx hb hts inT6 hown hK hN hO rfl 3 (by decide) wn_64 rfl rfl dX11_count_131 ?_
      have hI := th_I.close hI hq5199 hO (ok_6 hq5229 hq5231 hq5233 hq5235 hq5237 hq5239 hq5241 hq5243 hq5245 hq5247 ⟨by omega, by omega⟩)
      obtain ⟨a5255, w5257, hO, hq5256, ⟨k5258, k5259⟩, k5260⟩ := op_4 hI hq5235 List.not_mem_nil
      have hI := th_I.weak (a := a5234) hI
      have k5261 : (nI 6).toInt = ((6 : Nat) : Int) := nI_toInt (by omega)
      refine th_cVs (As := []) (rest := []) (n := 0) (d := 0) ⟨hx, hb, hml, hown, hts⟩ (c_X4_size l E D H a5234 6 a5255 w5257 hO (by omega) (by omega) (by omega)) wd_506 wd_507 wd_508 wd_3 wd_509 (by decide +kernel) ⟨by rw [hR]; exact Nat.le_of_ble_eq_true rfl, by rw [hR]; exact Nat.le_of_ble_eq_true rfl⟩ hN hK hS ⟨_, hO⟩ rfl rfl hl.1 rfl (Nat.le_of_ble_eq_true rfl) dX11_count_134 ⟨Nat.zero_le _, Nat.zero_le _⟩ (fun r5254 locs hp hS => ?_)
      have hp := hp.symm
      subst hp
      have hI := th_I.close hI hq5235 hO (ok_4 hq5256 ⟨by omega, by omega⟩ (by omega))
      have hpost : True := trivial
      rw [hQ]
      exact W.iret (v := w5257) hx hb hr (fun t ht hW => ⟨⟨w5257, (), rfl, hpost, by rw [ht]; exact hI, hN.warm hW, va_K.moved hW.alike hK⟩, hS.F ht⟩) hS.2.2 dX11_count_137
    have k5262 := iv_ne (X := x1.toInt) (Y := 3) rfl (by decide) c5196
    by_cases c5263 : x1 = 4
    · skip
      have k5264 := iv_eq (X := x1.toInt) (Y := 4) rfl (by decide) c5263
      refine lv_tableIn (tgt := 138) (off := 115) hx hb dX11_count_23 (by omega) (by omega) (by rw [k5264]; rfl) (by decide) ?_
      refine lv_aload_n hx hb dX11_count_138 rfl (lv_at hl 0 rfl) ?_
      obtain ⟨a5265, a5268, a5270, a5272, a5274, a5276, a5278, a5280, a5282, a5284, a5286, w5288, w5291, w5292, w5293, w5294, hO, hq5266, hq5267, hq5269, hq5271, hq5273, hq5275, hq5277, hq5279, hq5281, hq5283, hq5285, hq5287, ⟨k5289, k5290⟩⟩ := op_15 hI hG0 List.not_mem_nil
      have hI := th_I.weak (a := h0) hI
      refine th_get hx hb hts inT11 hown hK hO rfl 0 (by decide) (hts _ (tb_c wd_345)) rfl rfl dX11_count_139 ?_
      have hI := th_I.close hI hG0 hO (ok_15 hq5266 hq5267 hq5269 hq5271 hq5273 hq5275 hq5277 hq5279 hq5281 hq5283 hq5285 hq5287 ⟨by omega, by omega⟩)
      obtain ⟨a5295, a5297, a5299, a5301, a5303, a5305, a5307, a5309, a5311, a5313, w5315, w5318, w5319, w5320, hO, hq5296, hq5298, hq5300, hq5302, hq5304, hq5306, hq5308, hq5310, hq5312, hq5314, ⟨k5316, k5317⟩⟩ := op_6 hI hq5266 List.not_mem_nil
      have hI := th_I.weak (a := a5265) hI
      refine th_getN hx hb hts inT6 hown hK hN hO rfl 4 (by decide) wn_68 rfl rfl dX11_count_142 ?_
      have hI := th_I.close hI hq5266 hO (ok_6 hq5296 hq5298 hq5300 hq5302 hq5304 hq5306 hq5308 hq5310 hq5312 hq5314 ⟨by omega, by omega⟩)
      obtain ⟨a5322, w5324, hO, hq5323, ⟨k5325, k5326⟩, k5327⟩ := op_4 hI hq5304 List.not_mem_nil
      have hI := th_I.weak (a := a5303) hI
      have k5328 : (nI 6).toInt = ((6 : Nat) : Int) := nI_toInt (by omega)
      refine th_cVs (As := []) (rest := []) (n := 0) (d := 0) ⟨hx, hb, hml, hown, hts⟩ (c_X4_size l E D H a5303 6 a5322 w5324 hO (by omega) (by omega) (by omega)) wd_506 wd_507 wd_508 wd_3 wd_509 (by decide +kernel) ⟨by rw [hR]; exact Nat.le_of_ble_eq_true rfl, by rw [hR]; exact Nat.le_of_ble_eq_true rfl⟩ hN hK hS ⟨_, hO⟩ rfl rfl hl.1 rfl (Nat.le_of_ble_eq_true rfl) dX11_count_145 ⟨Nat.zero_le _, Nat.zero_le _⟩ (fun r5321 locs hp hS => ?_)
      have hp := hp.symm
      subst hp
      have hI := th_I.close hI hq5304 hO (ok_4 hq5323 ⟨by omega, by omega⟩ (by omega))
      have hpost : True := trivial
      rw [hQ]
      exact W.iret (v := w5324) hx hb hr (fun t ht hW => ⟨⟨w5324, (), rfl, hpost, by rw [ht]; exact hI, hN.warm hW, va_K.moved hW.alike hK⟩, hS.F ht⟩) hS.2.2 dX11_count_148
    have k5329 := iv_ne (X := x1.toInt) (Y := 4) rfl (by decide) c5263
    by_cases c5330 : x1 = 5
    · skip
      have k5331 := iv_eq (X := x1.toInt) (Y := 5) rfl (by decide) c5330
      refine lv_tableIn (tgt := 149) (off := 126) hx hb dX11_count_23 (by omega) (by omega) (by rw [k5331]; rfl) (by decide) ?_
      refine lv_aload_n hx hb dX11_count_149 rfl (lv_at hl 0 rfl) ?_
      obtain ⟨a5332, a5335, a5337, a5339, a5341, a5343, a5345, a5347, a5349, a5351, a5353, w5355, w5358, w5359, w5360, w5361, hO, hq5333, hq5334, hq5336, hq5338, hq5340, hq5342, hq5344, hq5346, hq5348, hq5350, hq5352, hq5354, ⟨k5356, k5357⟩⟩ := op_15 hI hG0 List.not_mem_nil
      have hI := th_I.weak (a := h0) hI
      refine th_get hx hb hts inT11 hown hK hO rfl 0 (by decide) (hts _ (tb_c wd_345)) rfl rfl dX11_count_150 ?_
      have hI := th_I.close hI hG0 hO (ok_15 hq5333 hq5334 hq5336 hq5338 hq5340 hq5342 hq5344 hq5346 hq5348 hq5350 hq5352 hq5354 ⟨by omega, by omega⟩)
      obtain ⟨a5362, a5364, a5366, a5368, a5370, a5372, a5374, a5376, a5378, a5380, w5382, w5385, w5386, w5387, hO, hq5363, hq5365, hq5367, hq5369, hq5371, hq5373, hq5375, hq5377, hq5379, hq5381, ⟨k5383, k5384⟩⟩ := op_6 hI hq5333 List.not_mem_nil
      have hI := th_I.weak (a := a5332) hI
      refine th_getN hx hb hts inT6 hown hK hN hO rfl 5 (by decide) wn_71 rfl rfl dX11_count_153 ?_
      have hI := th_I.close hI hq5333 hO (ok_6 hq5363 hq5365 hq5367 hq5369 hq5371 hq5373 hq5375 hq5377 hq5379 hq5381 ⟨by omega, by omega⟩)
      obtain ⟨a5389, w5391, hO, hq5390, ⟨k5392, k5393⟩, k5394⟩ := op_4 hI hq5373 List.not_mem_nil
      have hI := th_I.weak (a := a5372) hI
      have k5395 : (nI 16).toInt = ((16 : Nat) : Int) := nI_toInt (by omega)
      refine th_cVs (As := []) (rest := []) (n := 0) (d := 0) ⟨hx, hb, hml, hown, hts⟩ (c_X4_size l E D H a5372 16 a5389 w5391 hO (by omega) (by omega) (by omega)) wd_506 wd_507 wd_508 wd_3 wd_509 (by decide +kernel) ⟨by rw [hR]; exact Nat.le_of_ble_eq_true rfl, by rw [hR]; exact Nat.le_of_ble_eq_true rfl⟩ hN hK hS ⟨_, hO⟩ rfl rfl hl.1 rfl (Nat.le_of_ble_eq_true rfl) dX11_count_156 ⟨Nat.zero_le _, Nat.zero_le _⟩ (fun r5388 locs hp hS => ?_)
      have hp := hp.symm
      subst hp
      have hI := th_I.close hI hq5373 hO (ok_4 hq5390 ⟨by omega, by omega⟩ (by omega))
      have hpost : True := trivial
      rw [hQ]
      exact W.iret (v := w5391) hx hb hr (fun t ht hW => ⟨⟨w5391, (), rfl, hpost, by rw [ht]; exact hI, hN.warm hW, va_K.moved hW.alike hK⟩, hS.F ht⟩) hS.2.2 dX11_count_159
    have k5396 := iv_ne (X := x1.toInt) (Y := 5) rfl (by decide) c5330
    by_cases c5397 : x1 = 6
    · skip
      have k5398 := iv_eq (X := x1.toInt) (Y := 6) rfl (by decide) c5397
      refine lv_tableIn (tgt := 160) (off := 137) hx hb dX11_count_23 (by omega) (by omega) (by rw [k5398]; rfl) (by decide) ?_
      refine lv_aload_n hx hb dX11_count_160 rfl (lv_at hl 0 rfl) ?_
      obtain ⟨a5399, a5402, a5404, a5406, a5408, a5410, a5412, a5414, a5416, a5418, a5420, w5422, w5425, w5426, w5427, w5428, hO, hq5400, hq5401, hq5403, hq5405, hq5407, hq5409, hq5411, hq5413, hq5415, hq5417, hq5419, hq5421, ⟨k5423, k5424⟩⟩ := op_15 hI hG0 List.not_mem_nil
      have hI := th_I.weak (a := h0) hI
      refine th_get hx hb hts inT11 hown hK hO rfl 0 (by decide) (hts _ (tb_c wd_345)) rfl rfl dX11_count_161 ?_
      have hI := th_I.close hI hG0 hO (ok_15 hq5400 hq5401 hq5403 hq5405 hq5407 hq5409 hq5411 hq5413 hq5415 hq5417 hq5419 hq5421 ⟨by omega, by omega⟩)
      obtain ⟨a5429, a5431, a5433, a5435, a5437, a5439, a5441, a5443, a5445, a5447, w5449, w5452, w5453, w5454, hO, hq5430, hq5432, hq5434, hq5436, hq5438, hq5440, hq5442, hq5444, hq5446, hq5448, ⟨k5450, k5451⟩⟩ := op_6 hI hq5400 List.not_mem_nil
      have hI := th_I.weak (a := a5399) hI
      refine th_getN hx hb hts inT6 hown hK hN hO rfl 6 (by decide) wn_74 rfl rfl dX11_count_164 ?_
      have hI := th_I.close hI hq5400 hO (ok_6 hq5430 hq5432 hq5434 hq5436 hq5438 hq5440 hq5442 hq5444 hq5446 hq5448 ⟨by omega, by omega⟩)
      obtain ⟨a5456, w5458, hO, hq5457, ⟨k5459, k5460⟩, k5461⟩ := op_4 hI hq5442 List.not_mem_nil
      have hI := th_I.weak (a := a5441) hI
      have k5462 : (nI 10).toInt = ((10 : Nat) : Int) := nI_toInt (by omega)
      refine th_cVs (As := []) (rest := []) (n := 0) (d := 0) ⟨hx, hb, hml, hown, hts⟩ (c_X4_size l E D H a5441 10 a5456 w5458 hO (by omega) (by omega) (by omega)) wd_506 wd_507 wd_508 wd_3 wd_509 (by decide +kernel) ⟨by rw [hR]; exact Nat.le_of_ble_eq_true rfl, by rw [hR]; exact Nat.le_of_ble_eq_true rfl⟩ hN hK hS ⟨_, hO⟩ rfl rfl hl.1 rfl (Nat.le_of_ble_eq_true rfl) dX11_count_167 ⟨Nat.zero_le _, Nat.zero_le _⟩ (fun r5455 locs hp hS => ?_)
      have hp := hp.symm
      subst hp
      have hI := th_I.close hI hq5442 hO (ok_4 hq5457 ⟨by omega, by omega⟩ (by omega))
      have hpost : True := trivial
      rw [hQ]
      exact W.iret (v := w5458) hx hb hr (fun t ht hW => ⟨⟨w5458, (), rfl, hpost, by rw [ht]; exact hI, hN.warm hW, va_K.moved hW.alike hK⟩, hS.F ht⟩) hS.2.2 dX11_count_170
    have k5463 := iv_ne (X := x1.toInt) (Y := 6) rfl (by decide) c5397
    by_cases c5464 : x1 = 7
    · skip
      have k5465 := iv_eq (X := x1.toInt) (Y := 7) rfl (by decide) c5464
      refine lv_tableIn (tgt := 171) (off := 148) hx hb dX11_count_23 (by omega) (by omega) (by rw [k5465]; rfl) (by decide) ?_
      refine lv_aload_n hx hb dX11_count_171 rfl (lv_at hl 0 rfl) ?_
      obtain ⟨a5466, a5469, a5471, a5473, a5475, a5477, a5479, a5481, a5483, a5485, a5487, w5489, w5492, w5493, w5494, w5495, hO, hq5467, hq5468, hq5470, hq5472, hq5474, hq5476, hq5478, hq5480, hq5482, hq5484, hq5486, hq5488, ⟨k5490, k5491⟩⟩ := op_15 hI hG0 List.not_mem_nil
      have hI := th_I.weak (a := h0) hI
      refine th_get hx hb hts inT11 hown hK hO rfl 0 (by decide) (hts _ (tb_c wd_345)) rfl rfl dX11_count_172 ?_
      have hI := th_I.close hI hG0 hO (ok_15 hq5467 hq5468 hq5470 hq5472 hq5474 hq5476 hq5478 hq5480 hq5482 hq5484 hq5486 hq5488 ⟨by omega, by omega⟩)
      obtain ⟨a5496, a5498, a5500, a5502, a5504, a5506, a5508, a5510, a5512, a5514, w5516, w5519, w5520, w5521, hO, hq5497, hq5499, hq5501, hq5503, hq5505, hq5507, hq5509, hq5511, hq5513, hq5515, ⟨k5517, k5518⟩⟩ := op_6 hI hq5467 List.not_mem_nil
      have hI := th_I.weak (a := a5466) hI
      refine th_getN hx hb hts inT6 hown hK hN hO rfl 7 (by decide) wn_77 rfl rfl dX11_count_175 ?_
      have hI := th_I.close hI hq5467 hO (ok_6 hq5497 hq5499 hq5501 hq5503 hq5505 hq5507 hq5509 hq5511 hq5513 hq5515 ⟨by omega, by omega⟩)
      obtain ⟨a5523, w5525, hO, hq5524, ⟨k5526, k5527⟩, k5528⟩ := op_4 hI hq5511 List.not_mem_nil
      have hI := th_I.weak (a := a5510) hI
      have k5529 : (nI 6).toInt = ((6 : Nat) : Int) := nI_toInt (by omega)
      refine th_cVs (As := []) (rest := []) (n := 0) (d := 0) ⟨hx, hb, hml, hown, hts⟩ (c_X4_size l E D H a5510 6 a5523 w5525 hO (by omega) (by omega) (by omega)) wd_506 wd_507 wd_508 wd_3 wd_509 (by decide +kernel) ⟨by rw [hR]; exact Nat.le_of_ble_eq_true rfl, by rw [hR]; exact Nat.le_of_ble_eq_true rfl⟩ hN hK hS ⟨_, hO⟩ rfl rfl hl.1 rfl (Nat.le_of_ble_eq_true rfl) dX11_count_178 ⟨Nat.zero_le _, Nat.zero_le _⟩ (fun r5522 locs hp hS => ?_)
      have hp := hp.symm
      subst hp
      have hI := th_I.close hI hq5511 hO (ok_4 hq5524 ⟨by omega, by omega⟩ (by omega))
      have hpost : True := trivial
      rw [hQ]
      exact W.iret (v := w5525) hx hb hr (fun t ht hW => ⟨⟨w5525, (), rfl, hpost, by rw [ht]; exact hI, hN.warm hW, va_K.moved hW.alike hK⟩, hS.F ht⟩) hS.2.2 dX11_count_181
    have k5530 := iv_ne (X := x1.toInt) (Y := 7) rfl (by decide) c5464
    by_cases c5531 : x1 = 8
    · skip
      have k5532 := iv_eq (X := x1.toInt) (Y := 8) rfl (by decide) c5531
      refine lv_tableIn (tgt := 182) (off := 159) hx hb dX11_count_23 (by omega) (by omega) (by rw [k5532]; rfl) (by decide) ?_
      refine lv_aload_n hx hb dX11_count_182 rfl (lv_at hl 0 rfl) ?_
      obtain ⟨a5533, a5536, a5538, a5540, a5542, a5544, a5546, a5548, a5550, a5552, a5554, w5556, w5559, w5560, w5561, w5562, hO, hq5534, hq5535, hq5537, hq5539, hq5541, hq5543, hq5545, hq5547, hq5549, hq5551, hq5553, hq5555, ⟨k5557, k5558⟩⟩ := op_15 hI hG0 List.not_mem_nil
      have hI := th_I.weak (a := h0) hI
      refine th_get hx hb hts inT11 hown hK hO rfl 0 (by decide) (hts _ (tb_c wd_345)) rfl rfl dX11_count_183 ?_
      have hI := th_I.close hI hG0 hO (ok_15 hq5534 hq5535 hq5537 hq5539 hq5541 hq5543 hq5545 hq5547 hq5549 hq5551 hq5553 hq5555 ⟨by omega, by omega⟩)
      obtain ⟨a5563, a5565, a5567, a5569, a5571, a5573, a5575, a5577, a5579, a5581, w5583, w5586, w5587, w5588, hO, hq5564, hq5566, hq5568, hq5570, hq5572, hq5574, hq5576, hq5578, hq5580, hq5582, ⟨k5584, k5585⟩⟩ := op_6 hI hq5534 List.not_mem_nil
      have hI := th_I.weak (a := a5533) hI
      refine th_getN hx hb hts inT6 hown hK hN hO rfl 8 (by decide) wn_80 rfl rfl dX11_count_186 ?_
      have hI := th_I.close hI hq5534 hO (ok_6 hq5564 hq5566 hq5568 hq5570 hq5572 hq5574 hq5576 hq5578 hq5580 hq5582 ⟨by omega, by omega⟩)
      obtain ⟨a5590, w5592, hO, hq5591, ⟨k5593, k5594⟩, k5595⟩ := op_4 hI hq5580 List.not_mem_nil
      have hI := th_I.weak (a := a5579) hI
      have k5596 : (nI 6).toInt = ((6 : Nat) : Int) := nI_toInt (by omega)
      refine th_cVs (As := []) (rest := []) (n := 0) (d := 0) ⟨hx, hb, hml, hown, hts⟩ (c_X4_size l E D H a5579 6 a5590 w5592 hO (by omega) (by omega) (by omega)) wd_506 wd_507 wd_508 wd_3 wd_509 (by decide +kernel) ⟨by rw [hR]; exact Nat.le_of_ble_eq_true rfl, by rw [hR]; exact Nat.le_of_ble_eq_true rfl⟩ hN hK hS ⟨_, hO⟩ rfl rfl hl.1 rfl (Nat.le_of_ble_eq_true rfl) dX11_count_189 ⟨Nat.zero_le _, Nat.zero_le _⟩ (fun r5589 locs hp hS => ?_)
      have hp := hp.symm
      subst hp
      have hI := th_I.close hI hq5580 hO (ok_4 hq5591 ⟨by omega, by omega⟩ (by omega))
      have hpost : True := trivial
      rw [hQ]
      exact W.iret (v := w5592) hx hb hr (fun t ht hW => ⟨⟨w5592, (), rfl, hpost, by rw [ht]; exact hI, hN.warm hW, va_K.moved hW.alike hK⟩, hS.F ht⟩) hS.2.2 dX11_count_192
    have k5597 := iv_ne (X := x1.toInt) (Y := 8) rfl (by decide) c5531
    by_cases c5598 : x1 = 9
    · skip
      have k5599 := iv_eq (X := x1.toInt) (Y := 9) rfl (by decide) c5598
      refine lv_tableIn (tgt := 193) (off := 170) hx hb dX11_count_23 (by omega) (by omega) (by rw [k5599]; rfl) (by decide) ?_
      refine lv_aload_n hx hb dX11_count_193 rfl (lv_at hl 0 rfl) ?_
      obtain ⟨a5600, a5603, a5605, a5607, a5609, a5611, a5613, a5615, a5617, a5619, a5621, w5623, w5626, w5627, w5628, w5629, hO, hq5601, hq5602, hq5604, hq5606, hq5608, hq5610, hq5612, hq5614, hq5616, hq5618, hq5620, hq5622, ⟨k5624, k5625⟩⟩ := op_15 hI hG0 List.not_mem_nil
      have hI := th_I.weak (a := h0) hI
      refine th_get hx hb hts inT11 hown hK hO rfl 12 (by decide) (hts _ (tb_c wd_357)) rfl rfl dX11_count_194 ?_
      have hI := th_I.close hI hG0 hO (ok_15 hq5601 hq5602 hq5604 hq5606 hq5608 hq5610 hq5612 hq5614 hq5616 hq5618 hq5620 hq5622 ⟨by omega, by omega⟩)
      have hpost : True := trivial
      rw [hQ]
      exact W.iret (v := w5623) hx hb hr (fun t ht hW => ⟨⟨w5623, (), rfl, hpost, by rw [ht]; exact hI, hN.warm hW, va_K.moved hW.alike hK⟩, hS.F ht⟩) hS.2.2 dX11_count_197
    have k5630 := iv_ne (X := x1.toInt) (Y := 9) rfl (by decide) c5598
    by_cases c5631 : x1 = 10
    · skip
      have k5632 := iv_eq (X := x1.toInt) (Y := 10) rfl (by decide) c5631
      refine lv_tableIn (tgt := 206) (off := 183) hx hb dX11_count_23 (by omega) (by omega) (by rw [k5632]; rfl) (by decide) ?_
      refine lv_iconst (v := (-1)) hx hb dX11_count_206 (by decide) ?_
      have hpost : True := trivial
      rw [hQ]
      exact W.iret (v := (-1)) hx hb hr (fun t ht hW => ⟨⟨(-1), (), rfl, hpost, by rw [ht]; exact hI, hN.warm hW, va_K.moved hW.alike hK⟩, hS.F ht⟩) hS.2.2 dX11_count_207
    have k5633 := iv_ne (X := x1.toInt) (Y := 10) rfl (by decide) c5631
    by_cases c5634 : x1 = 11
    · skip
      have k5635 := iv_eq (X := x1.toInt) (Y := 11) rfl (by decide) c5634
      refine lv_tableIn (tgt := 206) (off := 183) hx hb dX11_count_23 (by omega) (by omega) (by rw [k5635]; rfl) (by decide) ?_
      refine lv_iconst (v := (-1)) hx hb dX11_count_206 (by decide) ?_
      have hpost : True := trivial
      rw [hQ]
      exact W.iret (v := (-1)) hx hb hr (fun t ht hW => ⟨⟨(-1), (), rfl, hpost, by rw [ht]; exact hI, hN.warm hW, va_K.moved hW.alike hK⟩, hS.F ht⟩) hS.2.2 dX11_count_207
    have k5636 := iv_ne (X := x1.toInt) (Y := 11) rfl (by decide) c5634
    by_cases c5637 : x1 = 12
    · skip
      have k5638 := iv_eq (X := x1.toInt) (Y := 12) rfl (by decide) c5637
      refine lv_tableIn (tgt := 206) (off := 183) hx hb dX11_count_23 (by omega) (by omega) (by rw [k5638]; rfl) (by decide) ?_
      refine lv_iconst (v := (-1)) hx hb dX11_count_206 (by decide) ?_
      have hpost : True := trivial
      rw [hQ]
      exact W.iret (v := (-1)) hx hb hr (fun t ht hW => ⟨⟨(-1), (), rfl, hpost, by rw [ht]; exact hI, hN.warm hW, va_K.moved hW.alike hK⟩, hS.F ht⟩) hS.2.2 dX11_count_207
    have k5639 := iv_ne (X := x1.toInt) (Y := 12) rfl (by decide) c5637
    by_cases c5640 : x1 = 13
    · skip
      have k5641 := iv_eq (X := x1.toInt) (Y := 13) rfl (by decide) c5640
      refine lv_tableIn (tgt := 206) (off := 183) hx hb dX11_count_23 (by omega) (by omega) (by rw [k5641]; rfl) (by decide) ?_
      refine lv_iconst (v := (-1)) hx hb dX11_count_206 (by decide) ?_
      have hpost : True := trivial
      rw [hQ]
      exact W.iret (v := (-1)) hx hb hr (fun t ht hW => ⟨⟨(-1), (), rfl, hpost, by rw [ht]; exact hI, hN.warm hW, va_K.moved hW.alike hK⟩, hS.F ht⟩) hS.2.2 dX11_count_207
    have k5642 := iv_ne (X := x1.toInt) (Y := 13) rfl (by decide) c5640
    by_cases c5643 : x1 = 14
    · skip
      have k5644 := iv_eq (X := x1.toInt) (Y := 14) rfl (by decide) c5643
      refine lv_tableIn (tgt := 206) (off := 183) hx hb dX11_count_23 (by omega) (by omega) (by rw [k5644]; rfl) (by decide) ?_
      refine lv_iconst (v := (-1)) hx hb dX11_count_206 (by decide) ?_
      have hpost : True := trivial
      rw [hQ]
      exact W.iret (v := (-1)) hx hb hr (fun t ht hW => ⟨⟨(-1), (), rfl, hpost, by rw [ht]; exact hI, hN.warm hW, va_K.moved hW.alike hK⟩, hS.F ht⟩) hS.2.2 dX11_count_207
    have k5645 := iv_ne (X := x1.toInt) (Y := 14) rfl (by decide) c5643
    by_cases c5646 : x1 = 15
    · skip
      have k5647 := iv_eq (X := x1.toInt) (Y := 15) rfl (by decide) c5646
      refine lv_tableIn (tgt := 198) (off := 175) hx hb dX11_count_23 (by omega) (by omega) (by rw [k5647]; rfl) (by decide) ?_
      refine lv_aload_n hx hb dX11_count_198 rfl (lv_at hl 0 rfl) ?_
      obtain ⟨a5648, a5651, a5653, a5655, a5657, a5659, a5661, a5663, a5665, a5667, a5669, w5671, w5674, w5675, w5676, w5677, hO, hq5649, hq5650, hq5652, hq5654, hq5656, hq5658, hq5660, hq5662, hq5664, hq5666, hq5668, hq5670, ⟨k5672, k5673⟩⟩ := op_15 hI hG0 List.not_mem_nil
      have hI := th_I.weak (a := h0) hI
      refine th_get hx hb hts inT11 hown hK hO rfl 0 (by decide) (hts _ (tb_c wd_345)) rfl rfl dX11_count_199 ?_
      have hI := th_I.close hI hG0 hO (ok_15 hq5649 hq5650 hq5652 hq5654 hq5656 hq5658 hq5660 hq5662 hq5664 hq5666 hq5668 hq5670 ⟨by omega, by omega⟩)
      obtain ⟨a5678, a5680, a5682, a5684, a5686, a5688, a5690, a5692, a5694, a5696, w5698, w5701, w5702, w5703, hO, hq5679, hq5681, hq5683, hq5685, hq5687, hq5689, hq5691, hq5693, hq5695, hq5697, ⟨k5699, k5700⟩⟩ := op_6 hI hq5649 List.not_mem_nil
      have hI := th_I.weak (a := a5648) hI
      refine th_getN hx hb hts inT6 hown hK hN hO rfl 11 (by decide) wn_85 rfl rfl dX11_count_202 ?_
      have hI := th_I.close hI hq5649 hO (ok_6 hq5679 hq5681 hq5683 hq5685 hq5687 hq5689 hq5691 hq5693 hq5695 hq5697 ⟨by omega, by omega⟩)
      have hpost : True := trivial
      rw [hQ]
      exact W.iret (v := w5701) hx hb hr (fun t ht hW => ⟨⟨w5701, (), rfl, hpost, by rw [ht]; exact hI, hN.warm hW, va_K.moved hW.alike hK⟩, hS.F ht⟩) hS.2.2 dX11_count_205
    have k5704 := iv_ne (X := x1.toInt) (Y := 15) rfl (by decide) c5646
    refine lv_tableOut (tgt := 206) hx hb dX11_count_23 (by omega) (by decide) ?_
    refine lv_iconst (v := (-1)) hx hb dX11_count_206 (by decide) ?_
    have hpost : True := trivial
    rw [hQ]
    exact W.iret (v := (-1)) hx hb hr (fun t ht hW => ⟨⟨(-1), (), rfl, hpost, by rw [ht]; exact hI, hN.warm hW, va_K.moved hW.alike hK⟩, hS.F ht⟩) hS.2.2 dX11_count_207
  refine lv_iload_n hx hb dX11_count_0 rfl (lv_at hl 1 rfl) ?_
  refine lv_bipush (v := 10) hx hb dX11_count_1 (by decide) ?_
  have k5705 := iv_lo x1
  have k5706 := iv_hi x1
  refine lv_icmp_lt (tgt := 22) hx hb dX11_count_3 (by decide) (fun c5707 => ?_) (fun c5707 => ?_)
  · skip
    have k5708 := iv_lt (X := x1.toInt) (Y := (10)) rfl (by decide) c5707
    exact J_22 s.heap [] ls  (lv_sub hl [0, 1] rfl)  hI hS
  · skip
    have k5709 := iv_nlt (X := x1.toInt) (Y := (10)) rfl (by decide) c5707
    refine lv_iload_n hx hb dX11_count_6 rfl (lv_at hl 1 rfl) ?_
    refine lv_bipush (v := 14) hx hb dX11_count_7 (by decide) ?_
    refine lv_icmp_gt (tgt := 22) hx hb dX11_count_9 (by decide) (fun c5710 => ?_) (fun c5710 => ?_)
    · skip
      have k5711 := iv_lt (X := (14)) (Y := x1.toInt) (by decide) rfl c5710
      exact J_22 s.heap [] ls  (lv_sub hl [0, 1] rfl)  hI hS
    · skip
      have k5712 := iv_nlt (X := (14)) (Y := x1.toInt) (by decide) rfl c5710
      refine lv_aload_n hx hb dX11_count_12 rfl (lv_at hl 0 rfl) ?_
      obtain ⟨a5713, a5716, a5718, a5720, a5722, a5724, a5726, a5728, a5730, a5732, a5734, w5736, w5739, w5740, w5741, w5742, hO, hq5714, hq5715, hq5717, hq5719, hq5721, hq5723, hq5725, hq5727, hq5729, hq5731, hq5733, hq5735, ⟨k5737, k5738⟩⟩ := op_15 hI hG0 List.not_mem_nil
      have hI := th_I.weak (a := h0) hI
      refine th_get hx hb hts inT11 hown hK hO rfl 3 (by decide) (hts _ (tb_c wd_348)) rfl rfl dX11_count_13 ?_
      refine lv_iload_n hx hb dX11_count_16 rfl (lv_at hl 1 rfl) ?_
      refine lv_bipush (v := 10) hx hb dX11_count_17 (by decide) ?_
      refine lv_isub hx hb dX11_count_19 ?_
      refine lv_topi (fun v5743 e5744 => ?_)
      have tv5743 : v5743.toInt = x1.toInt - (10) := iv_sub rfl (by decide) e5744 (by omega) (by omega)
      obtain ⟨_, hA5745⟩ := op_0 hI hq5719 (th_ne hG0 hq5719 (show (15 : Nat) ≠ 0 by decide))
      refine th_iald hx hb hK hA5745 0 rfl (iv_in (X := v5743.toInt) rfl (by omega) (by omega)) dX11_count_20 (fun v5746 _ => ?_)
      have hI := th_I.close hI hG0 hO (ok_15 hq5714 hq5715 hq5717 hq5719 hq5721 hq5723 hq5725 hq5727 hq5729 hq5731 hq5733 hq5735 ⟨by omega, by omega⟩)
      have hpost : True := trivial
      rw [hQ]
      exact W.iret (v := v5746) hx hb hr (fun t ht hW => ⟨⟨v5746, (), rfl, hpost, by rw [ht]; exact hI, hN.warm hW, va_K.moved hW.alike hK⟩, hS.F ht⟩) hS.2.2 dX11_count_21
