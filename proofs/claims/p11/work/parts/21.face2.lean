theorem wn_77 : (Cond.fieldLinkNest RX11 (307 : Nat) "NineRiver$State" "jobs" "LNineRiver$Rows;" "NineRiver") ∈ lw_tbl := List.mem_append_right _ (List.mem_of_getElem? (i := 77) (by decide +kernel))
theorem wn_80 : (Cond.fieldLinkNest RX11 (322 : Nat) "NineRiver$State" "wishes" "LNineRiver$Rows;" "NineRiver") ∈ lw_tbl := List.mem_append_right _ (List.mem_of_getElem? (i := 80) (by decide +kernel))
theorem wp_9 : Cond.selects RX11 yX11_pourFromTape yX11_pourFromTape ∈ TB := tv 9 (by decide +kernel) (by decide +kernel)
theorem wd_1016 : (Cond.methodLink RX11 (301 : Nat) yX5_findAlone) ∈ TB := tw 1016 (by decide +kernel) (by decide +kernel)
theorem wd_1017 : (Jvm.Cond.instanceMethod yX5_findAlone) ∈ TB := tw 1017 (by decide +kernel) (by decide +kernel)
theorem wd_1018 : (Cond.selects RX5 yX5_findAlone yX5_findAlone) ∈ TB := tw 1018 (by decide +kernel) (by decide +kernel)
theorem wd_1019 : (Cond.code yX5_findAlone cX5_findAlone 5 (Option.some Jvm.ClassFile.FieldType.int)) ∈ TB := tw 1019 (by decide +kernel) (by decide +kernel)
theorem wd_1084 : (Cond.methodLink RX11 (313 : Nat) yX8_answer) ∈ TB := tw 1084 (by decide +kernel) (by decide +kernel)
theorem wd_1085 : (Jvm.Cond.instanceMethod yX8_answer) ∈ TB := tw 1085 (by decide +kernel) (by decide +kernel)
theorem wd_1086 : (Cond.selects RX8 yX8_answer yX8_answer) ∈ TB := tw 1086 (by decide +kernel) (by decide +kernel)
theorem wd_1087 : (Cond.code yX8_answer cX8_answer 10 (Option.some Jvm.ClassFile.FieldType.int)) ∈ TB := tw 1087 (by decide +kernel) (by decide +kernel)
theorem wd_1098 : (Cond.methodLink RX11 (316 : Nat) yX9_paddle) ∈ TB := tw 1098 (by decide +kernel) (by decide +kernel)
theorem wd_1099 : (Jvm.Cond.instanceMethod yX9_paddle) ∈ TB := tw 1099 (by decide +kernel) (by decide +kernel)
theorem wd_1100 : (Cond.selects RX9 yX9_paddle yX9_paddle) ∈ TB := tw 1100 (by decide +kernel) (by decide +kernel)
theorem wd_1101 : (Cond.code yX9_paddle cX9_paddle 6 (Option.some Jvm.ClassFile.FieldType.int)) ∈ TB := tw 1101 (by decide +kernel) (by decide +kernel)
theorem wd_1109 : (Cond.methodLink RX11 (319 : Nat) yX9_turningHours) ∈ TB := tw 1109 (by decide +kernel) (by decide +kernel)
theorem wd_1110 : (Jvm.Cond.instanceMethod yX9_turningHours) ∈ TB := tw 1110 (by decide +kernel) (by decide +kernel)
theorem wd_1111 : (Cond.selects RX9 yX9_turningHours yX9_turningHours) ∈ TB := tw 1111 (by decide +kernel) (by decide +kernel)
theorem wd_1112 : (Cond.code yX9_turningHours cX9_turningHours 11 (Option.some Jvm.ClassFile.FieldType.int)) ∈ TB := tw 1112 (by decide +kernel) (by decide +kernel)
theorem wd_1134 : (Cond.methodLink RX11 (325 : Nat) yX10_grantedNow) ∈ TB := tw 1134 (by decide +kernel) (by decide +kernel)
theorem wd_1135 : (Jvm.Cond.instanceMethod yX10_grantedNow) ∈ TB := tw 1135 (by decide +kernel) (by decide +kernel)
theorem wd_1136 : (Cond.selects RX10 yX10_grantedNow yX10_grantedNow) ∈ TB := tw 1136 (by decide +kernel) (by decide +kernel)
theorem wd_1137 : (Cond.code yX10_grantedNow cX10_grantedNow 4 (Option.some Jvm.ClassFile.FieldType.int)) ∈ TB := tw 1137 (by decide +kernel) (by decide +kernel)
theorem wd_1145 : (Cond.methodLink RX11 (328 : Nat) yX10_tune) ∈ TB := tw 1145 (by decide +kernel) (by decide +kernel)
theorem wd_1146 : (Jvm.Cond.instanceMethod yX10_tune) ∈ TB := tw 1146 (by decide +kernel) (by decide +kernel)
theorem wd_1147 : (Cond.selects RX10 yX10_tune yX10_tune) ∈ TB := tw 1147 (by decide +kernel) (by decide +kernel)
theorem wd_1148 : (Cond.code yX10_tune cX10_tune 5 (Option.none : Option Jvm.ClassFile.FieldType)) ∈ TB := tw 1148 (by decide +kernel) (by decide +kernel)
theorem wd_1168 : (Cond.methodLink RX11 (331 : Nat) yX10_tuned) ∈ TB := tw 1168 (by decide +kernel) (by decide +kernel)
theorem wd_1169 : (Jvm.Cond.instanceMethod yX10_tuned) ∈ TB := tw 1169 (by decide +kernel) (by decide +kernel)
theorem wd_1170 : (Cond.selects RX10 yX10_tuned yX10_tuned) ∈ TB := tw 1170 (by decide +kernel) (by decide +kernel)
theorem wd_1171 : (Cond.code yX10_tuned cX10_tuned 2 (Option.some Jvm.ClassFile.FieldType.int)) ∈ TB := tw 1171 (by decide +kernel) (by decide +kernel)
theorem wd_1176 : (Cond.methodLink RX11 (334 : Nat) yX6_tellClocks) ∈ TB := tw 1176 (by decide +kernel) (by decide +kernel)
theorem wd_1181 : (Cond.constant RX11 (337 : Nat) (1000000 : Int32)) ∈ TB := tw 1181 (by decide +kernel) (by decide +kernel)
theorem wd_1182 : (Cond.methodLink RX11 (338 : Nat) yX9_drawWeek) ∈ TB := tw 1182 (by decide +kernel) (by decide +kernel)
theorem wd_1183 : (Jvm.Cond.instanceMethod yX9_drawWeek) ∈ TB := tw 1183 (by decide +kernel) (by decide +kernel)
theorem wd_1184 : (Cond.selects RX9 yX9_drawWeek yX9_drawWeek) ∈ TB := tw 1184 (by decide +kernel) (by decide +kernel)
theorem wd_1185 : (Cond.code yX9_drawWeek cX9_drawWeek 9 (Option.some Jvm.ClassFile.FieldType.int)) ∈ TB := tw 1185 (by decide +kernel) (by decide +kernel)
theorem wd_1219 : (Cond.methodLink RX11 (345 : Nat) yX6_countStrikes) ∈ TB := tw 1219 (by decide +kernel) (by decide +kernel)
theorem wd_1220 : (Jvm.Cond.instanceMethod yX6_countStrikes) ∈ TB := tw 1220 (by decide +kernel) (by decide +kernel)
theorem wd_1221 : (Cond.selects RX6 yX6_countStrikes yX6_countStrikes) ∈ TB := tw 1221 (by decide +kernel) (by decide +kernel)
theorem wd_1222 : (Cond.code yX6_countStrikes cX6_countStrikes 6 (Option.some Jvm.ClassFile.FieldType.int)) ∈ TB := tw 1222 (by decide +kernel) (by decide +kernel)
theorem wd_349 : (Cond.fieldLink RX11 (27 : Nat) "NineRiver" "landed" "[I") ∈ TB := tw 349 (by decide +kernel) (by decide +kernel)
theorem wd_361 : (Cond.fieldLink RX11 (102 : Nat) "NineRiver" "hasWeek" "Z") ∈ TB := tw 361 (by decide +kernel) (by decide +kernel)
theorem wd_613 : (Cond.methodLink RX11 (188 : Nat) yX11_pourFromTape) ∈ TB := tw 613 (by decide +kernel) (by decide +kernel)
theorem wd_615 : (Jvm.Cond.instanceMethod yX11_pourFromTape) ∈ TB := tw 615 (by decide +kernel) (by decide +kernel)
theorem wd_616 : (Cond.code yX11_pourFromTape cX11_pourFromTape 6 (Option.some Jvm.ClassFile.FieldType.boolean)) ∈ TB := tw 616 (by decide +kernel) (by decide +kernel)
theorem wd_995 : (Cond.methodLink RX11 (298 : Nat) yX5_countAlone) ∈ TB := tw 995 (by decide +kernel) (by decide +kernel)
theorem wd_996 : (Jvm.Cond.instanceMethod yX5_countAlone) ∈ TB := tw 996 (by decide +kernel) (by decide +kernel)
theorem wd_997 : (Cond.selects RX5 yX5_countAlone yX5_countAlone) ∈ TB := tw 997 (by decide +kernel) (by decide +kernel)
theorem wd_998 : (Cond.code yX5_countAlone cX5_countAlone 7 (Option.some Jvm.ClassFile.FieldType.int)) ∈ TB := tw 998 (by decide +kernel) (by decide +kernel)
theorem dX11_pourFromTape_0 : decode cX11_pourFromTape 0 = .ok (.iload_n 1, 1) := by decide +kernel
theorem dX11_pourFromTape_1 : decode cX11_pourFromTape 1 = .ok (.ifCond .lt 13, 3) := by decide +kernel
theorem dX11_pourFromTape_4 : decode cX11_pourFromTape 4 = .ok (.iload_n 1, 1) := by decide +kernel
theorem dX11_pourFromTape_5 : decode cX11_pourFromTape 5 = .ok (.iconst 4, 1) := by decide +kernel
theorem dX11_pourFromTape_6 : decode cX11_pourFromTape 6 = .ok (.iadd, 1) := by decide +kernel
theorem dX11_pourFromTape_7 : decode cX11_pourFromTape 7 = .ok (.aload_n 0, 1) := by decide +kernel
theorem dX11_pourFromTape_8 : decode cX11_pourFromTape 8 = .ok (.getfield 89, 3) := by decide +kernel
theorem dX11_pourFromTape_11 : decode cX11_pourFromTape 11 = .ok (.if_icmp .le 5, 3) := by decide +kernel
theorem dX11_pourFromTape_14 : decode cX11_pourFromTape 14 = .ok (.iconst 0, 1) := by decide +kernel
theorem dX11_pourFromTape_15 : decode cX11_pourFromTape 15 = .ok (.ireturn, 1) := by decide +kernel
theorem dX11_pourFromTape_16 : decode cX11_pourFromTape 16 = .ok (.aload_n 0, 1) := by decide +kernel
theorem dX11_pourFromTape_17 : decode cX11_pourFromTape 17 = .ok (.getfield 20, 3) := by decide +kernel
theorem dX11_pourFromTape_20 : decode cX11_pourFromTape 20 = .ok (.iload_n 1, 1) := by decide +kernel
theorem dX11_pourFromTape_21 : decode cX11_pourFromTape 21 = .ok (.iaload, 1) := by decide +kernel
theorem dX11_pourFromTape_22 : decode cX11_pourFromTape 22 = .ok (.istore_n 2, 1) := by decide +kernel
theorem dX11_pourFromTape_23 : decode cX11_pourFromTape 23 = .ok (.aload_n 0, 1) := by decide +kernel
theorem dX11_pourFromTape_24 : decode cX11_pourFromTape 24 = .ok (.getfield 20, 3) := by decide +kernel
theorem dX11_pourFromTape_27 : decode cX11_pourFromTape 27 = .ok (.iload_n 1, 1) := by decide +kernel
theorem dX11_pourFromTape_28 : decode cX11_pourFromTape 28 = .ok (.iconst 1, 1) := by decide +kernel
theorem dX11_pourFromTape_29 : decode cX11_pourFromTape 29 = .ok (.iadd, 1) := by decide +kernel
theorem dX11_pourFromTape_30 : decode cX11_pourFromTape 30 = .ok (.iaload, 1) := by decide +kernel
theorem dX11_pourFromTape_31 : decode cX11_pourFromTape 31 = .ok (.istore_n 3, 1) := by decide +kernel
theorem dX11_pourFromTape_32 : decode cX11_pourFromTape 32 = .ok (.aload_n 0, 1) := by decide +kernel
theorem dX11_pourFromTape_33 : decode cX11_pourFromTape 33 = .ok (.getfield 20, 3) := by decide +kernel
theorem dX11_pourFromTape_36 : decode cX11_pourFromTape 36 = .ok (.iload_n 1, 1) := by decide +kernel
theorem dX11_pourFromTape_37 : decode cX11_pourFromTape 37 = .ok (.iconst 2, 1) := by decide +kernel
theorem dX11_pourFromTape_38 : decode cX11_pourFromTape 38 = .ok (.iadd, 1) := by decide +kernel
theorem dX11_pourFromTape_39 : decode cX11_pourFromTape 39 = .ok (.iaload, 1) := by decide +kernel
theorem dX11_pourFromTape_40 : decode cX11_pourFromTape 40 = .ok (.istore 4, 2) := by decide +kernel
theorem dX11_pourFromTape_42 : decode cX11_pourFromTape 42 = .ok (.aload_n 0, 1) := by decide +kernel
theorem dX11_pourFromTape_43 : decode cX11_pourFromTape 43 = .ok (.getfield 20, 3) := by decide +kernel
theorem dX11_pourFromTape_46 : decode cX11_pourFromTape 46 = .ok (.iload_n 1, 1) := by decide +kernel
theorem dX11_pourFromTape_47 : decode cX11_pourFromTape 47 = .ok (.iconst 3, 1) := by decide +kernel
theorem dX11_pourFromTape_48 : decode cX11_pourFromTape 48 = .ok (.iadd, 1) := by decide +kernel
theorem dX11_pourFromTape_49 : decode cX11_pourFromTape 49 = .ok (.iaload, 1) := by decide +kernel
theorem dX11_pourFromTape_50 : decode cX11_pourFromTape 50 = .ok (.istore 5, 2) := by decide +kernel
theorem dX11_pourFromTape_52 : decode cX11_pourFromTape 52 = .ok (.iload_n 2, 1) := by decide +kernel
theorem dX11_pourFromTape_53 : decode cX11_pourFromTape 53 = .ok (.iload_n 3, 1) := by decide +kernel
theorem dX11_pourFromTape_54 : decode cX11_pourFromTape 54 = .ok (.iload 4, 2) := by decide +kernel
theorem dX11_pourFromTape_56 : decode cX11_pourFromTape 56 = .ok (.iload 5, 2) := by decide +kernel
theorem dX11_pourFromTape_58 : decode cX11_pourFromTape 58 = .ok (.invokestatic 262, 3) := by decide +kernel
theorem dX11_pourFromTape_61 : decode cX11_pourFromTape 61 = .ok (.ifCond .eq 15, 3) := by decide +kernel
theorem dX11_pourFromTape_64 : decode cX11_pourFromTape 64 = .ok (.aload_n 0, 1) := by decide +kernel
theorem dX11_pourFromTape_65 : decode cX11_pourFromTape 65 = .ok (.getfield 42, 3) := by decide +kernel
theorem dX11_pourFromTape_68 : decode cX11_pourFromTape 68 = .ok (.iload_n 2, 1) := by decide +kernel
theorem dX11_pourFromTape_69 : decode cX11_pourFromTape 69 = .ok (.iload_n 3, 1) := by decide +kernel
theorem dX11_pourFromTape_70 : decode cX11_pourFromTape 70 = .ok (.invokevirtual 220, 3) := by decide +kernel
theorem dX11_pourFromTape_73 : decode cX11_pourFromTape 73 = .ok (.ifCond .eq 5, 3) := by decide +kernel
theorem dX11_pourFromTape_76 : decode cX11_pourFromTape 76 = .ok (.iconst 0, 1) := by decide +kernel
theorem dX11_pourFromTape_77 : decode cX11_pourFromTape 77 = .ok (.ireturn, 1) := by decide +kernel
theorem dX11_pourFromTape_78 : decode cX11_pourFromTape 78 = .ok (.aload_n 0, 1) := by decide +kernel
theorem dX11_pourFromTape_79 : decode cX11_pourFromTape 79 = .ok (.getfield 12, 3) := by decide +kernel
theorem dX11_pourFromTape_82 : decode cX11_pourFromTape 82 = .ok (.getfield 266, 3) := by decide +kernel
theorem dX11_pourFromTape_85 : decode cX11_pourFromTape 85 = .ok (.iload_n 2, 1) := by decide +kernel
theorem dX11_pourFromTape_86 : decode cX11_pourFromTape 86 = .ok (.iload_n 3, 1) := by decide +kernel
theorem dX11_pourFromTape_87 : decode cX11_pourFromTape 87 = .ok (.iload 4, 2) := by decide +kernel
theorem dX11_pourFromTape_89 : decode cX11_pourFromTape 89 = .ok (.iload 5, 2) := by decide +kernel
theorem dX11_pourFromTape_91 : decode cX11_pourFromTape 91 = .ok (.invokevirtual 155, 3) := by decide +kernel
theorem dX11_pourFromTape_94 : decode cX11_pourFromTape 94 = .ok (.iconst (-1), 1) := by decide +kernel
theorem dX11_pourFromTape_95 : decode cX11_pourFromTape 95 = .ok (.if_icmp .eq 7, 3) := by decide +kernel
theorem dX11_pourFromTape_98 : decode cX11_pourFromTape 98 = .ok (.iconst 1, 1) := by decide +kernel
theorem dX11_pourFromTape_99 : decode cX11_pourFromTape 99 = .ok (.goto 4, 3) := by decide +kernel
theorem dX11_pourFromTape_102 : decode cX11_pourFromTape 102 = .ok (.iconst 0, 1) := by decide +kernel
theorem dX11_pourFromTape_103 : decode cX11_pourFromTape 103 = .ok (.ireturn, 1) := by decide +kernel
set_option maxHeartbeats 4000000 in
set_option maxRecDepth 100000 in
theorem c_X11_pourFromTape (l : Launch) (E : Nat → ClassId) (D : va_G) (G : th_G) (h0 n : Nat) (hG0 : G h0 = some (15, n)) (x1 : Int32) (hx1 : (0 : Int) ≤ x1.toInt ∧ x1.toInt ≤ 400) : Met l yX11_pourFromTape (tb (.code yX11_pourFromTape cX11_pourFromTape 6 (some .boolean))) (rm 6) (va_Pc [.ref h0, .int x1] (th_P E D G)) (QI E D G (fun r => 0 ≤ (r : Int32).toInt ∧ (r : Int32).toInt ≤ 1)) 0 0 (th_A G) := by
  refine Met.ofW (cc := cX11_pourFromTape) (maxL := 6) (ret := (some .boolean)) (by decide) rfl ?_
  intro p e s m args below meth c s₁ B hml hv
  obtain ⟨hav, hI, hN, hK⟩ := hv
  have hx := B.exec
  have hb := B.bytes
  have hr := B.returns
  have hts := atoms_spec (ws := tb (.code yX11_pourFromTape cX11_pourFromTape 6 (some .boolean))) B.pre
  have hown : s.vm.findClass RX11 = some m.cls := findClass_of_methodNamed B.named
  have hlocks := B.notSynchronized
  have hS : va_S (th_A G) s.heap s.heap [] := va_S.rf
  have hl := lv_entry ([.ref h0, .int x1]) (n := 6) (Nat.le_of_ble_eq_true rfl)
  rw [show entryFrame m args 6 = entryFrame m ([.ref h0, .int x1] : List Value).toArray 6 from by rw [hav], lg_entry_eq]
  generalize (lg_sl ([.ref h0, .int x1]) ++ List.replicate (6 - (lg_sl ([.ref h0, .int x1])).length) Slot.unset).toArray = ls at hl ⊢
  have hl : lv_has ls 6 [(0, .ref h0), (1, .int x1)] := hl
  generalize hR : (headSpec (tb (.code yX11_pourFromTape cX11_pourFromTape 6 (some .boolean))) (rm 6)).room = R
  have hR := hR.symm
  generalize hQ : MQ below (QI E D G (fun r => 0 ≤ (r : Int32).toInt ∧ (r : Int32).toInt ≤ 1)) args s 0 0 (th_A G) = QF
  have hQ := hQ.symm
  have J_76 : ∀ (H : Heap) (locs : List Loc) (ls : Array Slot) (v973 : Int32) (v974 : Int32) (v975 : Int32) (v976 : Int32), lv_has ls 6 [(5, .int v973), (4, .int v974), (3, .int v975), (2, .int v976), (0, .ref h0), (1, .int x1)] → ((0 : Int) ≤ x1.toInt ∧ x1.toInt ≤ 400) → th_I (okC E) D G [] H → va_S (th_A G) s.heap H locs → W p l e R s m args below meth c H locs 0 0 QF (F0 m 76 ls []) := by
    intro H locs ls v973 v974 v975 v976 hl k977 hI hS
    refine lv_iconst (v := 0) hx hb dX11_pourFromTape_76 (by decide) ?_
    have hpost : 0 ≤ (0 : Int32).toInt ∧ (0 : Int32).toInt ≤ 1 := by first | decide | omega
    rw [hQ]
    exact W.zret (v := 0) hx hb hr (by decide) (fun t ht hW => ⟨⟨0, (), rfl, hpost, by rw [ht]; exact hI, hN.warm hW, va_K.moved hW.alike hK⟩, hS.F ht⟩) hS.2.2 dX11_pourFromTape_77
  have J_14 : ∀ (H : Heap) (locs : List Loc) (ls : Array Slot) , lv_has ls 6 [(0, .ref h0), (1, .int x1)] → ((0 : Int) ≤ x1.toInt ∧ x1.toInt ≤ 400) → th_I (okC E) D G [] H → va_S (th_A G) s.heap H locs → W p l e R s m args below meth c H locs 0 0 QF (F0 m 14 ls []) := by
    intro H locs ls  hl k978 hI hS
    refine lv_iconst (v := 0) hx hb dX11_pourFromTape_14 (by decide) ?_
    have hpost : 0 ≤ (0 : Int32).toInt ∧ (0 : Int32).toInt ≤ 1 := by first | decide | omega
    rw [hQ]
    exact W.zret (v := 0) hx hb hr (by decide) (fun t ht hW => ⟨⟨0, (), rfl, hpost, by rw [ht]; exact hI, hN.warm hW, va_K.moved hW.alike hK⟩, hS.F ht⟩) hS.2.2 dX11_pourFromTape_15
  refine lv_iload_n hx hb dX11_pourFromTape_0 rfl (lv_at hl 1 rfl) ?_
  refine lv_if_lt (tgt := 14) hx hb dX11_pourFromTape_1 (by decide) (fun c979 => ?_) (fun c979 => ?_)
  · skip
    have k980 := iv_lt (X := x1.toInt) (Y := (0)) rfl (by decide) c979
    exfalso; omega
  · skip
    have k981 := iv_nlt (X := x1.toInt) (Y := (0)) rfl (by decide) c979
    refine lv_iload_n hx hb dX11_pourFromTape_4 rfl (lv_at hl 1 rfl) ?_
    refine lv_iconst (v := 4) hx hb dX11_pourFromTape_5 (by decide) ?_
    refine lv_iadd hx hb dX11_pourFromTape_6 ?_
    refine lv_topi (fun v982 e983 => ?_)
    have tv982 : v982.toInt = x1.toInt + (4) := iv_add rfl (by decide) e983 (by omega) (by omega)
    refine lv_aload_n hx hb dX11_pourFromTape_7 rfl (lv_at hl 0 rfl) ?_
    obtain ⟨a984, a987, a989, a991, a993, a995, a997, a999, a1001, a1003, a1005, w1007, w1008, w1009, w1010, hO, hq985, hq986, hq988, hq990, hq992, hq994, hq996, hq998, hq1000, hq1002, hq1004, hq1006⟩ := op_15 hI hG0 List.not_mem_nil
    have hI := th_I.weak (a := h0) hI
    have k1011 : (nI (n % 401)).toInt = ((n % 401 : Nat) : Int) := nI_toInt (by omega)
    refine th_get hx hb hts inT11 hown hK hO rfl 12 (by decide) (hts _ (tb_c wd_357)) rfl rfl dX11_pourFromTape_8 ?_
    refine lv_icmp_le (tgt := 16) hx hb dX11_pourFromTape_11 (by decide) (fun c1012 => ?_) (fun c1012 => ?_)
    · skip
      have k1013 := iv_le (X := v982.toInt) (Y := (nI (n % 401)).toInt) rfl rfl c1012
      refine lv_aload_n hx hb dX11_pourFromTape_16 rfl (lv_at hl 0 rfl) ?_
      refine th_get hx hb hts inT11 hown hK hO rfl 2 (by decide) (hts _ (tb_c wd_347)) rfl rfl dX11_pourFromTape_17 ?_
      refine lv_iload_n hx hb dX11_pourFromTape_20 rfl (lv_at hl 1 rfl) ?_
      obtain ⟨_, hA1014⟩ := op_0 hI hq988 (th_ne hG0 hq988 (show (15 : Nat) ≠ 0 by decide))
      refine th_iald hx hb hK hA1014 0 rfl (iv_in (X := x1.toInt) rfl (by omega) (by omega)) dX11_pourFromTape_21 (fun v1015 _ => ?_)
      refine lv_istore_n (lv' := [(2, .int v1015), (0, .ref h0), (1, .int x1)]) hx hb dX11_pourFromTape_22 rfl hl (by decide) rfl (fun ls hl => ?_)
      refine lv_aload_n hx hb dX11_pourFromTape_23 rfl (lv_at hl 1 rfl) ?_
      refine th_get hx hb hts inT11 hown hK hO rfl 2 (by decide) (hts _ (tb_c wd_347)) rfl rfl dX11_pourFromTape_24 ?_
      refine lv_iload_n hx hb dX11_pourFromTape_27 rfl (lv_at hl 2 rfl) ?_
      refine lv_iconst (v := 1) hx hb dX11_pourFromTape_28 (by decide) ?_
      refine lv_iadd hx hb dX11_pourFromTape_29 ?_
      refine lv_topi (fun v1016 e1017 => ?_)
      have tv1016 : v1016.toInt = x1.toInt + (1) := iv_add rfl (by decide) e1017 (by omega) (by omega)
      obtain ⟨_, hA1018⟩ := op_0 hI hq988 (th_ne hG0 hq988 (show (15 : Nat) ≠ 0 by decide))
      refine th_iald hx hb hK hA1018 0 rfl (iv_in (X := v1016.toInt) rfl (by omega) (by omega)) dX11_pourFromTape_30 (fun v1019 _ => ?_)
      refine lv_istore_n (lv' := [(3, .int v1019), (2, .int v1015), (0, .ref h0), (1, .int x1)]) hx hb dX11_pourFromTape_31 rfl hl (by decide) rfl (fun ls hl => ?_)
      refine lv_aload_n hx hb dX11_pourFromTape_32 rfl (lv_at hl 2 rfl) ?_
      refine th_get hx hb hts inT11 hown hK hO rfl 2 (by decide) (hts _ (tb_c wd_347)) rfl rfl dX11_pourFromTape_33 ?_
      refine lv_iload_n hx hb dX11_pourFromTape_36 rfl (lv_at hl 3 rfl) ?_
      refine lv_iconst (v := 2) hx hb dX11_pourFromTape_37 (by decide) ?_
      refine lv_iadd hx hb dX11_pourFromTape_38 ?_
      refine lv_topi (fun v1020 e1021 => ?_)
      have tv1020 : v1020.toInt = x1.toInt + (2) := iv_add rfl (by decide) e1021 (by omega) (by omega)
      obtain ⟨_, hA1022⟩ := op_0 hI hq988 (th_ne hG0 hq988 (show (15 : Nat) ≠ 0 by decide))
      refine th_iald hx hb hK hA1022 0 rfl (iv_in (X := v1020.toInt) rfl (by omega) (by omega)) dX11_pourFromTape_39 (fun v1023 _ => ?_)
      refine lv_istore (lv' := [(4, .int v1023), (3, .int v1019), (2, .int v1015), (0, .ref h0), (1, .int x1)]) hx hb dX11_pourFromTape_40 hl (by decide) rfl (fun ls hl => ?_)
      refine lv_aload_n hx hb dX11_pourFromTape_42 rfl (lv_at hl 3 rfl) ?_
      refine th_get hx hb hts inT11 hown hK hO rfl 2 (by decide) (hts _ (tb_c wd_347)) rfl rfl dX11_pourFromTape_43 ?_
      refine lv_iload_n hx hb dX11_pourFromTape_46 rfl (lv_at hl 4 rfl) ?_
      refine lv_iconst (v := 3) hx hb dX11_pourFromTape_47 (by decide) ?_
      refine lv_iadd hx hb dX11_pourFromTape_48 ?_
      refine lv_topi (fun v1024 e1025 => ?_)
      have tv1024 : v1024.toInt = x1.toInt + (3) := iv_add rfl (by decide) e1025 (by omega) (by omega)
      obtain ⟨_, hA1026⟩ := op_0 hI hq988 (th_ne hG0 hq988 (show (15 : Nat) ≠ 0 by decide))
      refine th_iald hx hb hK hA1026 0 rfl (iv_in (X := v1024.toInt) rfl (by omega) (by omega)) dX11_pourFromTape_49 (fun v1027 _ => ?_)
      refine lv_istore (lv' := [(5, .int v1027), (4, .int v1023), (3, .int v1019), (2, .int v1015), (0, .ref h0), (1, .int x1)]) hx hb dX11_pourFromTape_50 hl (by decide) rfl (fun ls hl => ?_)
      refine lv_iload_n hx hb dX11_pourFromTape_52 rfl (lv_at hl 3 rfl) ?_
      refine lv_iload_n hx hb dX11_pourFromTape_53 rfl (lv_at hl 2 rfl) ?_
      refine lv_iload hx hb dX11_pourFromTape_54 (lv_at hl 1 rfl) ?_
      refine lv_iload hx hb dX11_pourFromTape_56 (lv_at hl 0 rfl) ?_
      refine th_cSs (As := [.int v1015, .int v1019, .int v1023, .int v1027]) (rest := []) (n := 4) (d := 1) ⟨hx, hb, hml, hown, hts⟩ (c_X11_isPour l s.heap v1015 v1019 v1023 v1027) wd_617 wd_618 wd_1 wd_619 (by decide +kernel) ⟨by rw [hR]; exact Nat.le_of_ble_eq_true rfl, by rw [hR]; exact Nat.le_of_ble_eq_true rfl⟩ hN hS rfl hl.1 rfl (Nat.le_of_ble_eq_true rfl) dX11_pourFromTape_58 ⟨Nat.zero_le _, Nat.zero_le _⟩ (fun r1028 locs hp hS => ?_)
      rcases hp with ⟨rfl, hp⟩ | ⟨rfl, hp⟩
      · skip
        try simp only [rg, not_and, Int.not_le] at hp
        have hp1029 := hp
        refine lv_if_eq (tgt := 76) hx hb dX11_pourFromTape_61 (by decide) (fun c => absurd c (by decide)) (fun _ => ?_)
        refine lv_aload_n hx hb dX11_pourFromTape_64 rfl (lv_at hl 4 rfl) ?_
        refine th_get hx hb hts inT11 hown hK hO rfl 6 (by decide) (hts _ (tb_c wd_351)) rfl rfl dX11_pourFromTape_65 ?_
        refine lv_iload_n hx hb dX11_pourFromTape_68 rfl (lv_at hl 3 rfl) ?_
        refine lv_iload_n hx hb dX11_pourFromTape_69 rfl (lv_at hl 2 rfl) ?_
        have hI := th_I.close hI hG0 hO (ok_15 hq985 hq986 hq988 hq990 hq992 hq994 hq996 hq998 hq1000 hq1002 hq1004 hq1006)
        refine th_cVi (As := [.int v1015, .int v1019]) (rest := []) (n := 2) (d := 5) ⟨hx, hb, hml, hown, hts⟩ (c_X7_isBarred l E D G a995 hq996 v1015 v1019) wd_623 wd_624 wd_625 wd_6 wd_626 (by decide +kernel) ⟨by rw [hR]; exact Nat.le_of_ble_eq_true rfl, by rw [hR]; exact Nat.le_of_ble_eq_true rfl⟩ hI hN hK hS (rc_9 hI hq996 List.not_mem_nil) rfl rfl hl.1 rfl (Nat.le_of_ble_eq_true rfl) dX11_pourFromTape_70 ⟨Nat.zero_le _, Nat.zero_le _⟩ (fun r1030 H locs hp hI hS => ?_)
        have hp1031 := hp
        refine lv_if_eq (tgt := 78) hx hb dX11_pourFromTape_73 (by decide) (fun c1032 => ?_) (fun c1032 => ?_)
        · skip
          have k1033 := iv_eq (X := r1030.toInt) (Y := (0)) rfl (by decide) c1032
          refine lv_aload_n hx hb dX11_pourFromTape_78 rfl (lv_at hl 4 rfl) ?_
          obtain ⟨a1034, a1037, a1039, a1041, a1043, a1045, a1047, a1049, a1051, a1053, a1055, w1057, w1058, w1059, w1060, hO, hq1035, hq1036, hq1038, hq1040, hq1042, hq1044, hq1046, hq1048, hq1050, hq1052, hq1054, hq1056⟩ := op_15 hI hG0 List.not_mem_nil
          have hI := th_I.weak (a := h0) hI
          have k1061 : (nI (n % 401)).toInt = ((n % 401 : Nat) : Int) := nI_toInt (by omega)
          refine th_get hx hb hts inT11 hown hK hO rfl 0 (by decide) (hts _ (tb_c wd_345)) rfl rfl dX11_pourFromTape_79 ?_
          have hI := th_I.close hI hG0 hO (ok_15 hq1035 hq1036 hq1038 hq1040 hq1042 hq1044 hq1046 hq1048 hq1050 hq1052 hq1054 hq1056)
          obtain ⟨a1062, a1064, a1066, a1068, a1070, a1072, a1074, a1076, a1078, a1080, w1082, w1085, w1086, w1087, hO, hq1063, hq1065, hq1067, hq1069, hq1071, hq1073, hq1075, hq1077, hq1079, hq1081, ⟨k1083, k1084⟩⟩ := op_6 hI hq1035 List.not_mem_nil
          have hI := th_I.weak (a := a1034) hI
          refine th_getN hx hb hts inT6 hown hK hN hO rfl 5 (by decide) wn_71 rfl rfl dX11_pourFromTape_82 ?_
          refine lv_iload_n hx hb dX11_pourFromTape_85 rfl (lv_at hl 3 rfl) ?_
          refine lv_iload_n hx hb dX11_pourFromTape_86 rfl (lv_at hl 2 rfl) ?_
          refine lv_iload hx hb dX11_pourFromTape_87 (lv_at hl 1 rfl) ?_
          refine lv_iload hx hb dX11_pourFromTape_89 (lv_at hl 0 rfl) ?_
          have hI := th_I.close hI hq1035 hO (ok_6 hq1063 hq1065 hq1067 hq1069 hq1071 hq1073 hq1075 hq1077 hq1079 hq1081 ⟨by omega, by omega⟩)
          refine th_cVi (As := [.int v1015, .int v1019, .int v1023, .int v1027]) (rest := []) (n := 4) (d := 1) ⟨hx, hb, hml, hown, hts⟩ (c_X4_put l E D G a1072 (16) hq1073 v1015 v1019 v1023 v1027) wd_485 wd_486 wd_487 wd_3 wd_488 (by decide +kernel) ⟨by rw [hR]; exact Nat.le_of_ble_eq_true rfl, by rw [hR]; exact Nat.le_of_ble_eq_true rfl⟩ hI hN hK hS (rc_4 hI hq1073 List.not_mem_nil) rfl rfl hl.1 rfl (Nat.le_of_ble_eq_true rfl) dX11_pourFromTape_91 ⟨Nat.zero_le _, Nat.zero_le _⟩ (fun r1088 H locs hp hI hS => ?_)
          refine lv_iconst (v := (-1)) hx hb dX11_pourFromTape_94 (by decide) ?_
          have k1089 := iv_lo r1088
          have k1090 := iv_hi r1088
          refine lv_icmp_eq (tgt := 102) hx hb dX11_pourFromTape_95 (by decide) (fun c1091 => ?_) (fun c1091 => ?_)
          · skip
            have k1092 := iv_eq (X := r1088.toInt) (Y := (-1)) rfl (by decide) c1091
            refine lv_iconst (v := 0) hx hb dX11_pourFromTape_102 (by decide) ?_
            have hpost : 0 ≤ (0 : Int32).toInt ∧ (0 : Int32).toInt ≤ 1 := by first | decide | omega
            rw [hQ]
            exact W.zret (v := 0) hx hb hr (by decide) (fun t ht hW => ⟨⟨0, (), rfl, hpost, by rw [ht]; exact hI, hN.warm hW, va_K.moved hW.alike hK⟩, hS.F ht⟩) hS.2.2 dX11_pourFromTape_103
          · skip
            have k1093 := iv_ne (X := r1088.toInt) (Y := (-1)) rfl (by decide) c1091
            refine lv_iconst (v := 1) hx hb dX11_pourFromTape_98 (by decide) ?_
            refine lv_goto (tgt := 103) hx hb dX11_pourFromTape_99 (by decide) ?_
            have hpost : 0 ≤ (1 : Int32).toInt ∧ (1 : Int32).toInt ≤ 1 := by first | decide | omega
            rw [hQ]
            exact W.zret (v := 1) hx hb hr (by decide) (fun t ht hW => ⟨⟨1, (), rfl, hpost, by rw [ht]; exact hI, hN.warm hW, va_K.moved hW.alike hK⟩, hS.F ht⟩) hS.2.2 dX11_pourFromTape_103
        · skip
          have k1094 := iv_ne (X := r1030.toInt) (Y := (0)) rfl (by decide) c1032
          exact J_76 H locs ls v1027 v1023 v1019 v1015 (lv_sub hl [0, 1, 2, 3, 4, 5] rfl) ⟨by omega, by omega⟩ hI hS
      · skip
        try simp only [rg, not_and, Int.not_le] at hp
        have hp1095 := hp
        refine lv_if_eq (tgt := 76) hx hb dX11_pourFromTape_61 (by decide) (fun _ => ?_) (fun c => absurd c (by decide))
        have hI := th_I.close hI hG0 hO (ok_15 hq985 hq986 hq988 hq990 hq992 hq994 hq996 hq998 hq1000 hq1002 hq1004 hq1006)
        exact J_76 s.heap locs ls v1027 v1023 v1019 v1015 (lv_sub hl [0, 1, 2, 3, 4, 5] rfl) ⟨by omega, by omega⟩ hI hS
    · skip
      have k1096 := iv_nle (X := v982.toInt) (Y := (nI (n % 401)).toInt) rfl rfl c1012
      have hI := th_I.close hI hG0 hO (ok_15 hq985 hq986 hq988 hq990 hq992 hq994 hq996 hq998 hq1000 hq1002 hq1004 hq1006)
      exact J_14 s.heap [] ls  (lv_sub hl [0, 1] rfl) ⟨by omega, by omega⟩ hI hS
theorem dX11_row_0 : decode cX11_row 0 = .ok (.aload_n 0, 1) := by decide +kernel
theorem dX11_row_1 : decode cX11_row 1 = .ok (.getfield 89, 3) := by decide +kernel
theorem dX11_row_4 : decode cX11_row 4 = .ok (.ifCond .ne 10, 3) := by decide +kernel
theorem dX11_row_7 : decode cX11_row 7 = .ok (.aload_n 0, 1) := by decide +kernel
theorem dX11_row_8 : decode cX11_row 8 = .ok (.bipush (-6), 2) := by decide +kernel
theorem dX11_row_10 : decode cX11_row 10 = .ok (.invokevirtual 113, 3) := by decide +kernel
theorem dX11_row_13 : decode cX11_row 13 = .ok (.ireturn, 1) := by decide +kernel
theorem dX11_row_14 : decode cX11_row 14 = .ok (.iconst 0, 1) := by decide +kernel
theorem dX11_row_15 : decode cX11_row 15 = .ok (.istore_n 1, 1) := by decide +kernel
theorem dX11_row_16 : decode cX11_row 16 = .ok (.iconst 0, 1) := by decide +kernel
theorem dX11_row_17 : decode cX11_row 17 = .ok (.istore_n 2, 1) := by decide +kernel
theorem dX11_row_18 : decode cX11_row 18 = .ok (.iconst 0, 1) := by decide +kernel
theorem dX11_row_19 : decode cX11_row 19 = .ok (.istore_n 3, 1) := by decide +kernel
theorem dX11_row_20 : decode cX11_row 20 = .ok (.iload_n 3, 1) := by decide +kernel
theorem dX11_row_21 : decode cX11_row 21 = .ok (.aload_n 0, 1) := by decide +kernel
theorem dX11_row_22 : decode cX11_row 22 = .ok (.getfield 89, 3) := by decide +kernel
theorem dX11_row_25 : decode cX11_row 25 = .ok (.if_icmp .ge 26, 3) := by decide +kernel
theorem dX11_row_28 : decode cX11_row 28 = .ok (.aload_n 0, 1) := by decide +kernel
theorem dX11_row_29 : decode cX11_row 29 = .ok (.iload_n 3, 1) := by decide +kernel
theorem dX11_row_30 : decode cX11_row 30 = .ok (.invokevirtual 188, 3) := by decide +kernel
theorem dX11_row_33 : decode cX11_row 33 = .ok (.ifCond .eq 9, 3) := by decide +kernel
theorem dX11_row_36 : decode cX11_row 36 = .ok (.iinc 1 1, 3) := by decide +kernel
theorem dX11_row_39 : decode cX11_row 39 = .ok (.goto 6, 3) := by decide +kernel
theorem dX11_row_42 : decode cX11_row 42 = .ok (.iinc 2 1, 3) := by decide +kernel
theorem dX11_row_45 : decode cX11_row 45 = .ok (.iinc 3 4, 3) := by decide +kernel
theorem dX11_row_48 : decode cX11_row 48 = .ok (.goto (-28), 3) := by decide +kernel
theorem dX11_row_51 : decode cX11_row 51 = .ok (.aload_n 0, 1) := by decide +kernel
theorem dX11_row_52 : decode cX11_row 52 = .ok (.iconst 0, 1) := by decide +kernel
theorem dX11_row_53 : decode cX11_row 53 = .ok (.putfield 89, 3) := by decide +kernel
theorem dX11_row_56 : decode cX11_row 56 = .ok (.aload_n 0, 1) := by decide +kernel
theorem dX11_row_57 : decode cX11_row 57 = .ok (.iload_n 2, 1) := by decide +kernel
theorem dX11_row_58 : decode cX11_row 58 = .ok (.putfield 96, 3) := by decide +kernel
theorem dX11_row_61 : decode cX11_row 61 = .ok (.aload_n 0, 1) := by decide +kernel
theorem dX11_row_62 : decode cX11_row 62 = .ok (.invokevirtual 191, 3) := by decide +kernel
theorem dX11_row_65 : decode cX11_row 65 = .ok (.aload_n 0, 1) := by decide +kernel
theorem dX11_row_66 : decode cX11_row 66 = .ok (.iload_n 1, 1) := by decide +kernel
theorem dX11_row_67 : decode cX11_row 67 = .ok (.invokevirtual 127, 3) := by decide +kernel
theorem dX11_row_70 : decode cX11_row 70 = .ok (.ireturn, 1) := by decide +kernel
set_option maxHeartbeats 4000000 in
set_option maxRecDepth 100000 in
theorem c_X11_row (l : Launch) (E : Nat → ClassId) (D : va_G) (Gi : th_G) (h0 n : Nat) (hG0 : Gi h0 = some (15, n)) : Met l yX11_row (tb (.code yX11_row cX11_row 4 (some .int))) (rm 7) (va_Pc [.ref h0] (th_P E D Gi)) (QI E D (gu Gi h0 (15, n / 401 * 401)) (fun r => True)) 0 0 (th_A (gu Gi h0 (15, n / 401 * 401))) := by
  refine Met.ofW (cc := cX11_row) (maxL := 4) (ret := (some .int)) (by decide) rfl ?_
  intro p e s m args below meth c s₁ B hml hv
  obtain ⟨hav, hI, hN, hK⟩ := hv
  have hx := B.exec
  have hb := B.bytes
  have hr := B.returns
  have hts := atoms_spec (ws := tb (.code yX11_row cX11_row 4 (some .int))) B.pre
  have hown : s.vm.findClass RX11 = some m.cls := findClass_of_methodNamed B.named
  have hlocks := B.notSynchronized
  obtain ⟨G, hGe, hI, hG0, hS⟩ : ∃ G2 : th_G, G2 = gu Gi h0 (15, n) ∧ th_I (okC E) D G2 [] s.heap ∧ G2 h0 = some (15, n) ∧ va_S (th_A G2) s.heap s.heap [] := ⟨Gi, (gu_id hG0).symm, hI, hG0, va_S.rf⟩
  have hl := lv_entry ([.ref h0]) (n := 4) (Nat.le_of_ble_eq_true rfl)
  rw [show entryFrame m args 4 = entryFrame m ([.ref h0] : List Value).toArray 4 from by rw [hav], lg_entry_eq]
  generalize (lg_sl ([.ref h0]) ++ List.replicate (4 - (lg_sl ([.ref h0])).length) Slot.unset).toArray = ls at hl ⊢
  have hl : lv_has ls 4 [(0, .ref h0)] := hl
  generalize hR : (headSpec (tb (.code yX11_row cX11_row 4 (some .int))) (rm 7)).room = R
  have hR := hR.symm
  generalize hQ : MQ below (QI E D (gu Gi h0 (15, n / 401 * 401)) (fun r => True)) args s 0 0 (th_A (gu Gi h0 (15, n / 401 * 401))) = QF
  have hQ := hQ.symm
  have J_20 : ∀ (nn : Nat) (H : Heap) (locs : List Loc) (ls : Array Slot) (v3791 : Int32) (v3792 : Int32) (v3793 : Int32), (Int.toNat (403 - v3791.toInt) = nn) → lv_has ls 4 [(3, .int v3791), (2, .int v3792), (1, .int v3793), (0, .ref h0)] → ((0 : Int) ≤ v3791.toInt ∧ v3791.toInt ≤ 403) → th_I (okC E) D G [] H → va_S (th_A G) s.heap H locs → W p l e R s m args below meth c H locs 0 0 QF (F0 m 20 ls []) := by
    intro nn
    induction nn using Nat.strongRecOn with
    | ind nn ih_20 =>
      intro H locs ls v3791 v3792 v3793 hm hl k3794 hI hS
      refine lv_iload_n hx hb dX11_row_20 rfl (lv_at hl 0 rfl) ?_
      refine lv_aload_n hx hb dX11_row_21 rfl (lv_at hl 3 rfl) ?_
      obtain ⟨a3795, a3798, a3800, a3802, a3804, a3806, a3808, a3810, a3812, a3814, a3816, w3818, w3819, w3820, w3821, hO, hq3796, hq3797, hq3799, hq3801, hq3803, hq3805, hq3807, hq3809, hq3811, hq3813, hq3815, hq3817⟩ := op_15 hI hG0 List.not_mem_nil
      have hI := th_I.weak (a := h0) hI
      have k3822 : (nI (n % 401)).toInt = ((n % 401 : Nat) : Int) := nI_toInt (by omega)
      refine th_get hx hb hts inT11 hown hK hO rfl 12 (by decide) (hts _ (tb_c wd_357)) rfl rfl dX11_row_22 ?_
      refine lv_icmp_ge (tgt := 51) hx hb dX11_row_25 (by decide) (fun c3823 => ?_) (fun c3823 => ?_)
      · skip
        have k3824 := iv_le (X := (nI (n % 401)).toInt) (Y := v3791.toInt) rfl rfl c3823
        refine lv_aload_n hx hb dX11_row_51 rfl (lv_at hl 3 rfl) ?_
        refine lv_iconst (v := 0) hx hb dX11_row_52 (by decide) ?_
        refine th_put (ty := .int) hx hb hts inT11 tyX11 tyX11_ok nmX11 hown hK hO hS ⟨_, hG0⟩ rfl 12 (by decide) (hts _ (tb_c wd_357)) rfl rfl (by decide +kernel) rfl rfl (Nat.le_of_ble_eq_true rfl) dX11_row_53 (fun H locs hO oq hS => ?_)
        have hI := th_I.moved hI oq
        obtain ⟨m3825, e3826, e3827⟩ : ∃ m : Nat, m / 401 = n / 401 ∧ ((m % 401 : Nat) : Int) = (0) := ⟨n / 401 * 401 + Int.toNat ((0)), by omega, by omega⟩
        have e3828 : nI (m3825 % 401) = 0 := Int32.toInt_inj.mp (by rw [nI_toInt (by omega)]; rw [show (0 : Int32).toInt = 0 from by decide]; omega)
        have hO : va_at D vwCl (h0, .inr (11, [.ref a3795, .ref (m3825 / 401), .ref a3798, .ref a3800, .ref a3802, .ref a3804, .ref a3806, .ref a3808, .ref a3810, .ref a3812, .ref a3814, .ref a3816, .int (nI (m3825 % 401)), .int w3818, .int w3819, .int w3820, .int w3821])) H := by rw [e3826, e3828]; exact hO
        obtain ⟨G, hGe, hI, hG0, hS⟩ : ∃ G2 : th_G, G2 = gu Gi h0 (15, m3825) ∧ th_I (okC E) D G2 [] H ∧ G2 h0 = some (15, m3825) ∧ va_S (th_A G2) s.heap H locs := ⟨gu G h0 (15, m3825), by rw [hGe, gu_gu], tp_close hI hG0 hO (ok_15 (gu_tag hG0 hq3796 (by decide)) (by rw [e3826]; exact gu_tag hG0 hq3797 (by decide)) (gu_tag hG0 hq3799 (by decide)) (gu_tag hG0 hq3801 (by decide)) (gu_tag hG0 hq3803 (by decide)) (gu_tag hG0 hq3805 (by decide)) (gu_tag hG0 hq3807 (by decide)) (gu_tag hG0 hq3809 (by decide)) (gu_tag hG0 hq3811 (by decide)) (gu_tag hG0 hq3813 (by decide)) (gu_tag hG0 hq3815 (by decide)) (gu_tag hG0 hq3817 (by decide))), gu_at, by rw [gu_A hG0]; exact hS⟩
        refine lv_aload_n hx hb dX11_row_56 rfl (lv_at hl 3 rfl) ?_
        refine lv_iload_n hx hb dX11_row_57 rfl (lv_at hl 1 rfl) ?_
        obtain ⟨a3829, a3832, a3834, a3836, a3838, a3840, a3842, a3844, a3846, a3848, a3850, w3852, w3853, w3854, w3855, hO, hq3830, hq3831, hq3833, hq3835, hq3837, hq3839, hq3841, hq3843, hq3845, hq3847, hq3849, hq3851⟩ := op_15 hI hG0 List.not_mem_nil
        have hI := th_I.weak (a := h0) hI
        have k3856 : (nI (m3825 % 401)).toInt = ((m3825 % 401 : Nat) : Int) := nI_toInt (by omega)
        refine th_put (ty := .int) hx hb hts inT11 tyX11 tyX11_ok nmX11 hown hK hO hS ⟨_, hG0⟩ rfl 14 (by decide) (hts _ (tb_c wd_359)) rfl rfl (by decide +kernel) rfl rfl (Nat.le_of_ble_eq_true rfl) dX11_row_58 (fun H locs hO oq hS => ?_)
        have hI := th_I.moved hI oq
        have hO : va_at D vwCl (h0, .inr (11, [.ref a3829, .ref (m3825 / 401), .ref a3832, .ref a3834, .ref a3836, .ref a3838, .ref a3840, .ref a3842, .ref a3844, .ref a3846, .ref a3848, .ref a3850, .int (nI (m3825 % 401)), .int w3852, .int v3792, .int w3854, .int w3855])) H := hO
        refine lv_aload_n hx hb dX11_row_61 rfl (lv_at hl 3 rfl) ?_
        have hI := th_I.close hI hG0 hO (ok_15 hq3830 hq3831 hq3833 hq3835 hq3837 hq3839 hq3841 hq3843 hq3845 hq3847 hq3849 hq3851)
        refine th_cVv (As := []) (rest := []) (n := 0) (d := 1) ⟨hx, hb, hml, hown, hts⟩ (c_X11_turnLists l E D G h0 (m3825) hG0 ) wd_431 wd_433 wp_2 wd_1 wd_434 (by decide +kernel) ⟨by rw [hR]; exact Nat.le_of_ble_eq_true rfl, by rw [hR]; exact Nat.le_of_ble_eq_true rfl⟩ hI hN hK hS (rc_15 hI hG0 List.not_mem_nil) rfl rfl hl.1 rfl (Nat.le_of_ble_eq_true rfl) dX11_row_62 ⟨Nat.zero_le _, Nat.zero_le _⟩ (fun H locs hI hS => ?_)
        refine lv_aload_n hx hb dX11_row_65 rfl (lv_at hl 3 rfl) ?_
        refine lv_iload_n hx hb dX11_row_66 rfl (lv_at hl 2 rfl) ?_
        refine th_cVi (As := [.int v3793]) (rest := []) (n := 1) (d := 0) ⟨hx, hb, hml, hown, hts⟩ (c_X11_accept l E D G h0 (m3825) hG0 v3793) wd_447 wd_449 wp_3 wd_1 wd_450 (by decide +kernel) ⟨by rw [hR]; exact Nat.le_of_ble_eq_true rfl, by rw [hR]; exact Nat.le_of_ble_eq_true rfl⟩ hI hN hK hS (rc_15 hI hG0 List.not_mem_nil) rfl rfl hl.1 rfl (Nat.le_of_ble_eq_true rfl) dX11_row_67 ⟨Nat.zero_le _, Nat.zero_le _⟩ (fun r3858 H locs hp hI hS => ?_)
        have hp := hp.symm
        subst hp
        have hGt : G = gu Gi h0 (15, n / 401 * 401) := by rw [hGe]; exact congrArg (fun z => gu Gi h0 (15, z)) (show m3825 = n / 401 * 401 from by omega)
        rw [hGt] at hI hS
        have hpost : True := trivial
        rw [hQ]
        exact W.iret (v := v3793) hx hb hr (fun t ht hW => ⟨⟨v3793, (), rfl, hpost, by rw [ht]; exact hI, hN.warm hW, va_K.moved hW.alike hK⟩, hS.F ht⟩) hS.2.2 dX11_row_70
      · skip
        have k3859 := iv_nle (X := (nI (n % 401)).toInt) (Y := v3791.toInt) rfl rfl c3823
        refine lv_aload_n hx hb dX11_row_28 rfl (lv_at hl 3 rfl) ?_
        refine lv_iload_n hx hb dX11_row_29 rfl (lv_at hl 0 rfl) ?_
        have hI := th_I.close hI hG0 hO (ok_15 hq3796 hq3797 hq3799 hq3801 hq3803 hq3805 hq3807 hq3809 hq3811 hq3813 hq3815 hq3817)
        refine th_cVi (As := [.int v3791]) (rest := []) (n := 1) (d := 6) ⟨hx, hb, hml, hown, hts⟩ (c_X11_pourFromTape l E D G h0 (n) hG0 v3791 ⟨by omega, by omega⟩) wd_613 wd_615 wp_9 wd_1 wd_616 (by decide +kernel) ⟨by rw [hR]; exact Nat.le_of_ble_eq_true rfl, by rw [hR]; exact Nat.le_of_ble_eq_true rfl⟩ hI hN hK hS (rc_15 hI hG0 List.not_mem_nil) rfl rfl hl.1 rfl (Nat.le_of_ble_eq_true rfl) dX11_row_30 ⟨Nat.zero_le _, Nat.zero_le _⟩ (fun r3860 H locs hp hI hS => ?_)
        have hp3861 := hp
        refine lv_if_eq (tgt := 42) hx hb dX11_row_33 (by decide) (fun c3862 => ?_) (fun c3862 => ?_)
        · skip
          have k3863 := iv_eq (X := r3860.toInt) (Y := (0)) rfl (by decide) c3862
          obtain ⟨v3864, e3865⟩ : ∃ y : Int32, y = v3792 + (1) := ⟨_, rfl⟩
          have k3866 := iv_lo v3792
          have k3867 := iv_hi v3792
          refine lv_iinc (v := v3864) (lv' := [(2, .int v3864), (3, .int v3791), (1, .int v3793), (0, .ref h0)]) hx hb dX11_row_42 hl (k := 1) rfl (by rw [e3865]; rfl) (by decide) rfl (fun ls hl => ?_)
          obtain ⟨v3868, e3869⟩ : ∃ y : Int32, y = v3791 + (4) := ⟨_, rfl⟩
          have tv3868 : v3868.toInt = v3791.toInt + (4) := iv_add rfl (by decide) e3869 (by omega) (by omega)
          refine lv_iinc (v := v3868) (lv' := [(3, .int v3868), (2, .int v3864), (1, .int v3793), (0, .ref h0)]) hx hb dX11_row_45 hl (k := 1) rfl (by rw [e3869]; rfl) (by decide) rfl (fun ls hl => ?_)
          refine lv_goto (tgt := 20) hx hb dX11_row_48 (by decide) ?_
          exact ih_20 _ (by omega) H locs ls v3868 v3864 v3793 rfl (lv_sub hl [0, 1, 2, 3] rfl) ⟨by omega, by omega⟩ hI hS
        · skip
          have k3870 := iv_ne (X := r3860.toInt) (Y := (0)) rfl (by decide) c3862
          obtain ⟨v3871, e3872⟩ : ∃ y : Int32, y = v3793 + (1) := ⟨_, rfl⟩
          have k3873 := iv_lo v3793
          have k3874 := iv_hi v3793
          refine lv_iinc (v := v3871) (lv' := [(1, .int v3871), (3, .int v3791), (2, .int v3792), (0, .ref h0)]) hx hb dX11_row_36 hl (k := 2) rfl (by rw [e3872]; rfl) (by decide) rfl (fun ls hl => ?_)
          refine lv_goto (tgt := 45) hx hb dX11_row_39 (by decide) ?_
          obtain ⟨v3875, e3876⟩ : ∃ y : Int32, y = v3791 + (4) := ⟨_, rfl⟩
          have tv3875 : v3875.toInt = v3791.toInt + (4) := iv_add rfl (by decide) e3876 (by omega) (by omega)
          refine lv_iinc (v := v3875) (lv' := [(3, .int v3875), (1, .int v3871), (2, .int v3792), (0, .ref h0)]) hx hb dX11_row_45 hl (k := 1) rfl (by rw [e3876]; rfl) (by decide) rfl (fun ls hl => ?_)
          refine lv_goto (tgt := 20) hx hb dX11_row_48 (by decide) ?_
          exact ih_20 _ (by omega) H locs ls v3875 v3792 v3871 rfl (lv_sub hl [0, 2, 1, 3] rfl) ⟨by omega, by omega⟩ hI hS
  refine lv_aload_n hx hb dX11_row_0 rfl (lv_at hl 0 rfl) ?_
  obtain ⟨a3877, a3880, a3882, a3884, a3886, a3888, a3890, a3892, a3894, a3896, a3898, w3900, w3901, w3902, w3903, hO, hq3878, hq3879, hq3881, hq3883, hq3885, hq3887, hq3889, hq3891, hq3893, hq3895, hq3897, hq3899⟩ := op_15 hI hG0 List.not_mem_nil
  have hI := th_I.weak (a := h0) hI
  have k3904 : (nI (n % 401)).toInt = ((n % 401 : Nat) : Int) := nI_toInt (by omega)
  refine th_get hx hb hts inT11 hown hK hO rfl 12 (by decide) (hts _ (tb_c wd_357)) rfl rfl dX11_row_1 ?_
  refine lv_if_ne (tgt := 14) hx hb dX11_row_4 (by decide) (fun c3905 => ?_) (fun c3905 => ?_)
  · skip
    have k3906 := iv_ne (X := (nI (n % 401)).toInt) (Y := (0)) rfl (by decide) c3905
    refine lv_iconst (v := 0) hx hb dX11_row_14 (by decide) ?_
    refine lv_istore_n (lv' := [(1, .int 0), (0, .ref h0)]) hx hb dX11_row_15 rfl hl (by decide) rfl (fun ls hl => ?_)
    refine lv_iconst (v := 0) hx hb dX11_row_16 (by decide) ?_
    refine lv_istore_n (lv' := [(2, .int 0), (1, .int 0), (0, .ref h0)]) hx hb dX11_row_17 rfl hl (by decide) rfl (fun ls hl => ?_)
    refine lv_iconst (v := 0) hx hb dX11_row_18 (by decide) ?_
    refine lv_istore_n (lv' := [(3, .int 0), (2, .int 0), (1, .int 0), (0, .ref h0)]) hx hb dX11_row_19 rfl hl (by decide) rfl (fun ls hl => ?_)
    have hI := th_I.close hI hG0 hO (ok_15 hq3878 hq3879 hq3881 hq3883 hq3885 hq3887 hq3889 hq3891 hq3893 hq3895 hq3897 hq3899)
    have zl : (0 : Int32).toInt = 0 := by decide
    exact J_20 _ s.heap [] ls 0 0 0 rfl (lv_sub hl [0, 1, 2, 3] rfl) ⟨by decide, by decide⟩ hI hS
  · skip
    have k3907 := iv_eq (X := (nI (n % 401)).toInt) (Y := (0)) rfl (by decide) c3905
    refine lv_aload_n hx hb dX11_row_7 rfl (lv_at hl 0 rfl) ?_
    refine lv_bipush (v := (-6)) hx hb dX11_row_8 (by decide) ?_
    have hI := th_I.close hI hG0 hO (ok_15 hq3878 hq3879 hq3881 hq3883 hq3885 hq3887 hq3889 hq3891 hq3893 hq3895 hq3897 hq3899)
    refine th_cVi (As := [.int (-6)]) (rest := []) (n := 1) (d := 0) ⟨hx, hb, hml, hown, hts⟩ (c_X11_refuse l E D G h0 (n) hG0 (-6)) wd_407 wd_409 wp_0 wd_1 wd_410 (by decide +kernel) ⟨by rw [hR]; exact Nat.le_of_ble_eq_true rfl, by rw [hR]; exact Nat.le_of_ble_eq_true rfl⟩ hI hN hK hS (rc_15 hI hG0 List.not_mem_nil) rfl rfl hl.1 rfl (Nat.le_of_ble_eq_true rfl) dX11_row_10 ⟨Nat.zero_le _, Nat.zero_le _⟩ (fun r3908 H locs hp hI hS => ?_)
    have hp := hp.symm
    subst hp
    have hGt : G = gu Gi h0 (15, n / 401 * 401) := by rw [hGe]; exact congrArg (fun z => gu Gi h0 (15, z)) (show n = n / 401 * 401 from by omega)
    rw [hGt] at hI hS
    have hpost : True := trivial
    rw [hQ]
    exact W.iret (v := (-6)) hx hb hr (fun t ht hW => ⟨⟨(-6), (), rfl, hpost, by rw [ht]; exact hI, hN.warm hW, va_K.moved hW.alike hK⟩, hS.F ht⟩) hS.2.2 dX11_row_13
theorem dX11_suspects_0 : decode cX11_suspects 0 = .ok (.iload_n 1, 1) := by decide +kernel
theorem dX11_suspects_1 : decode cX11_suspects 1 = .ok (.invokestatic 269, 3) := by decide +kernel
theorem dX11_suspects_4 : decode cX11_suspects 4 = .ok (.ifCond .eq 8, 3) := by decide +kernel
theorem dX11_suspects_7 : decode cX11_suspects 7 = .ok (.iload_n 2, 1) := by decide +kernel
theorem dX11_suspects_8 : decode cX11_suspects 8 = .ok (.iconst (-1), 1) := by decide +kernel
theorem dX11_suspects_9 : decode cX11_suspects 9 = .ok (.if_icmp .ge 5, 3) := by decide +kernel
theorem dX11_suspects_12 : decode cX11_suspects 12 = .ok (.iconst (-1), 1) := by decide +kernel
theorem dX11_suspects_13 : decode cX11_suspects 13 = .ok (.ireturn, 1) := by decide +kernel
theorem dX11_suspects_14 : decode cX11_suspects 14 = .ok (.iload_n 2, 1) := by decide +kernel
theorem dX11_suspects_15 : decode cX11_suspects 15 = .ok (.iconst (-1), 1) := by decide +kernel
theorem dX11_suspects_16 : decode cX11_suspects 16 = .ok (.if_icmp .ne 14, 3) := by decide +kernel
theorem dX11_suspects_19 : decode cX11_suspects 19 = .ok (.aload_n 0, 1) := by decide +kernel
theorem dX11_suspects_20 : decode cX11_suspects 20 = .ok (.getfield 69, 3) := by decide +kernel
theorem dX11_suspects_23 : decode cX11_suspects 23 = .ok (.iload_n 1, 1) := by decide +kernel
theorem dX11_suspects_24 : decode cX11_suspects 24 = .ok (.invokevirtual 298, 3) := by decide +kernel
theorem dX11_suspects_27 : decode cX11_suspects 27 = .ok (.goto 12, 3) := by decide +kernel
theorem dX11_suspects_30 : decode cX11_suspects 30 = .ok (.aload_n 0, 1) := by decide +kernel
theorem dX11_suspects_31 : decode cX11_suspects 31 = .ok (.getfield 69, 3) := by decide +kernel
theorem dX11_suspects_34 : decode cX11_suspects 34 = .ok (.iload_n 1, 1) := by decide +kernel
theorem dX11_suspects_35 : decode cX11_suspects 35 = .ok (.iload_n 2, 1) := by decide +kernel
theorem dX11_suspects_36 : decode cX11_suspects 36 = .ok (.invokevirtual 301, 3) := by decide +kernel
theorem dX11_suspects_39 : decode cX11_suspects 39 = .ok (.ireturn, 1) := by decide +kernel
set_option maxHeartbeats 4000000 in
set_option maxRecDepth 100000 in
theorem c_X11_suspects (l : Launch) (E : Nat → ClassId) (D : va_G) (G : th_G) (h0 n : Nat) (hG0 : G h0 = some (15, n)) (x1 x2 : Int32) : Met l yX11_suspects (tb (.code yX11_suspects cX11_suspects 3 (some .int))) (rm 8) (va_Pc [.ref h0, .int x1, .int x2] (th_P E D G)) (QI E D G (fun r => True)) 0 0 (th_A G) := by
  refine Met.ofW (cc := cX11_suspects) (maxL := 3) (ret := (some .int)) (by decide) rfl ?_
  intro p e s m args below meth c s₁ B hml hv
  obtain ⟨hav, hI, hN, hK⟩ := hv
  have hx := B.exec
  have hb := B.bytes
  have hr := B.returns
  have hts := atoms_spec (ws := tb (.code yX11_suspects cX11_suspects 3 (some .int))) B.pre
  have hown : s.vm.findClass RX11 = some m.cls := findClass_of_methodNamed B.named
  have hlocks := B.notSynchronized
  have hS : va_S (th_A G) s.heap s.heap [] := va_S.rf
  have hl := lv_entry ([.ref h0, .int x1, .int x2]) (n := 3) (Nat.le_of_ble_eq_true rfl)
  rw [show entryFrame m args 3 = entryFrame m ([.ref h0, .int x1, .int x2] : List Value).toArray 3 from by rw [hav], lg_entry_eq]
  generalize (lg_sl ([.ref h0, .int x1, .int x2]) ++ List.replicate (3 - (lg_sl ([.ref h0, .int x1, .int x2])).length) Slot.unset).toArray = ls at hl ⊢
  have hl : lv_has ls 3 [(0, .ref h0), (1, .int x1), (2, .int x2)] := hl
  generalize hR : (headSpec (tb (.code yX11_suspects cX11_suspects 3 (some .int))) (rm 8)).room = R
  have hR := hR.symm
  generalize hQ : MQ below (QI E D G (fun r => True)) args s 0 0 (th_A G) = QF
  have hQ := hQ.symm
  have J_12 : ∀ (H : Heap) (locs : List Loc) (ls : Array Slot) , lv_has ls 3 [(0, .ref h0), (1, .int x1), (2, .int x2)] → th_I (okC E) D G [] H → va_S (th_A G) s.heap H locs → W p l e R s m args below meth c H locs 0 0 QF (F0 m 12 ls []) := by
    intro H locs ls  hl  hI hS
    refine lv_iconst (v := (-1)) hx hb dX11_suspects_12 (by decide) ?_
    have hpost : True := trivial
    rw [hQ]
    exact W.iret (v := (-1)) hx hb hr (fun t ht hW => ⟨⟨(-1), (), rfl, hpost, by rw [ht]; exact hI, hN.warm hW, va_K.moved hW.alike hK⟩, hS.F ht⟩) hS.2.2 dX11_suspects_13
  refine lv_iload_n hx hb dX11_suspects_0 rfl (lv_at hl 1 rfl) ?_
  refine th_cSs (As := [.int x1]) (rest := []) (n := 1) (d := 0) ⟨hx, hb, hml, hown, hts⟩ (c_X11_isColour l s.heap x1) wd_620 wd_621 wd_1 wd_622 (by decide +kernel) ⟨by rw [hR]; exact Nat.le_of_ble_eq_true rfl, by rw [hR]; exact Nat.le_of_ble_eq_true rfl⟩ hN hS rfl hl.1 rfl (Nat.le_of_ble_eq_true rfl) dX11_suspects_1 ⟨Nat.zero_le _, Nat.zero_le _⟩ (fun r553 locs hp hS => ?_)
  rcases hp with ⟨rfl, hp⟩ | ⟨rfl, hp⟩
  · skip
    try simp only [rg, not_and, Int.not_le] at hp
    have hp554 := hp
    refine lv_if_eq (tgt := 12) hx hb dX11_suspects_4 (by decide) (fun c => absurd c (by decide)) (fun _ => ?_)
    refine lv_iload_n hx hb dX11_suspects_7 rfl (lv_at hl 2 rfl) ?_
    refine lv_iconst (v := (-1)) hx hb dX11_suspects_8 (by decide) ?_
    have k555 := iv_lo x2
    have k556 := iv_hi x2
    refine lv_icmp_ge (tgt := 14) hx hb dX11_suspects_9 (by decide) (fun c557 => ?_) (fun c557 => ?_)
    · skip
      have k558 := iv_le (X := (-1)) (Y := x2.toInt) (by decide) rfl c557
      refine lv_iload_n hx hb dX11_suspects_14 rfl (lv_at hl 2 rfl) ?_
      refine lv_iconst (v := (-1)) hx hb dX11_suspects_15 (by decide) ?_
      refine lv_icmp_ne (tgt := 30) hx hb dX11_suspects_16 (by decide) (fun c559 => ?_) (fun c559 => ?_)
      · skip
        have k560 := iv_ne (X := x2.toInt) (Y := (-1)) rfl (by decide) c559
        refine lv_aload_n hx hb dX11_suspects_30 rfl (lv_at hl 0 rfl) ?_
        obtain ⟨a561, a564, a566, a568, a570, a572, a574, a576, a578, a580, a582, w584, w585, w586, w587, hO, hq562, hq563, hq565, hq567, hq569, hq571, hq573, hq575, hq577, hq579, hq581, hq583⟩ := op_15 hI hG0 List.not_mem_nil
        have hI := th_I.weak (a := h0) hI
        have k588 : (nI (n % 401)).toInt = ((n % 401 : Nat) : Int) := nI_toInt (by omega)
        refine th_get hx hb hts inT11 hown hK hO rfl 9 (by decide) (hts _ (tb_c wd_354)) rfl rfl dX11_suspects_31 ?_
        refine lv_iload_n hx hb dX11_suspects_34 rfl (lv_at hl 1 rfl) ?_
        refine lv_iload_n hx hb dX11_suspects_35 rfl (lv_at hl 2 rfl) ?_
        have hI := th_I.close hI hG0 hO (ok_15 hq562 hq563 hq565 hq567 hq569 hq571 hq573 hq575 hq577 hq579 hq581 hq583)
        refine th_cVi (As := [.int x1, .int x2]) (rest := []) (n := 2) (d := 7) ⟨hx, hb, hml, hown, hts⟩ (c_X5_findAlone l E D G a578 hq579 x1 x2) wd_1016 wd_1017 wd_1018 wd_10 wd_1019 (by decide +kernel) ⟨by rw [hR]; exact Nat.le_of_ble_eq_true rfl, by rw [hR]; exact Nat.le_of_ble_eq_true rfl⟩ hI hN hK hS (rc_12 hI hq579 List.not_mem_nil) rfl rfl hl.1 rfl (Nat.le_of_ble_eq_true rfl) dX11_suspects_36 ⟨Nat.zero_le _, Nat.zero_le _⟩ (fun r589 H locs hp hI hS => ?_)
        have hpost : True := trivial
        rw [hQ]
        exact W.iret (v := r589) hx hb hr (fun t ht hW => ⟨⟨r589, (), rfl, hpost, by rw [ht]; exact hI, hN.warm hW, va_K.moved hW.alike hK⟩, hS.F ht⟩) hS.2.2 dX11_suspects_39
      · skip
        have k590 := iv_eq (X := x2.toInt) (Y := (-1)) rfl (by decide) c559
        refine lv_aload_n hx hb dX11_suspects_19 rfl (lv_at hl 0 rfl) ?_
        obtain ⟨a591, a594, a596, a598, a600, a602, a604, a606, a608, a610, a612, w614, w615, w616, w617, hO, hq592, hq593, hq595, hq597, hq599, hq601, hq603, hq605, hq607, hq609, hq611, hq613⟩ := op_15 hI hG0 List.not_mem_nil
        have hI := th_I.weak (a := h0) hI
        have k618 : (nI (n % 401)).toInt = ((n % 401 : Nat) : Int) := nI_toInt (by omega)
        refine th_get hx hb hts inT11 hown hK hO rfl 9 (by decide) (hts _ (tb_c wd_354)) rfl rfl dX11_suspects_20 ?_
        refine lv_iload_n hx hb dX11_suspects_23 rfl (lv_at hl 1 rfl) ?_
        have hI := th_I.close hI hG0 hO (ok_15 hq592 hq593 hq595 hq597 hq599 hq601 hq603 hq605 hq607 hq609 hq611 hq613)
        refine th_cVi (As := [.int x1]) (rest := []) (n := 1) (d := 7) ⟨hx, hb, hml, hown, hts⟩ (c_X5_countAlone l E D G a608 hq609 x1) wd_995 wd_996 wd_997 wd_10 wd_998 (by decide +kernel) ⟨by rw [hR]; exact Nat.le_of_ble_eq_true rfl, by rw [hR]; exact Nat.le_of_ble_eq_true rfl⟩ hI hN hK hS (rc_12 hI hq609 List.not_mem_nil) rfl rfl hl.1 rfl (Nat.le_of_ble_eq_true rfl) dX11_suspects_24 ⟨Nat.zero_le _, Nat.zero_le _⟩ (fun r619 H locs hp hI hS => ?_)
        refine lv_goto (tgt := 39) hx hb dX11_suspects_27 (by decide) ?_
        have hpost : True := trivial
        rw [hQ]
        exact W.iret (v := r619) hx hb hr (fun t ht hW => ⟨⟨r619, (), rfl, hpost, by rw [ht]; exact hI, hN.warm hW, va_K.moved hW.alike hK⟩, hS.F ht⟩) hS.2.2 dX11_suspects_39
    · skip
      have k620 := iv_nle (X := (-1)) (Y := x2.toInt) (by decide) rfl c557
      exact J_12 s.heap locs ls  (lv_sub hl [0, 1, 2] rfl)  hI hS
  · skip
    try simp only [rg, not_and, Int.not_le] at hp
    have hp621 := hp
    refine lv_if_eq (tgt := 12) hx hb dX11_suspects_4 (by decide) (fun _ => ?_) (fun c => absurd c (by decide))
    exact J_12 s.heap locs ls  (lv_sub hl [0, 1, 2] rfl)  hI hS
theorem dX11_job_0 : decode cX11_job 0 = .ok (.iload_n 1, 1) := by decide +kernel
theorem dX11_job_1 : decode cX11_job 1 = .ok (.invokestatic 106, 3) := by decide +kernel
theorem dX11_job_4 : decode cX11_job 4 = .ok (.ifCond .eq 21, 3) := by decide +kernel
theorem dX11_job_7 : decode cX11_job 7 = .ok (.iload_n 2, 1) := by decide +kernel
theorem dX11_job_8 : decode cX11_job 8 = .ok (.iconst 1, 1) := by decide +kernel
theorem dX11_job_9 : decode cX11_job 9 = .ok (.if_icmp .lt 16, 3) := by decide +kernel
theorem dX11_job_12 : decode cX11_job 12 = .ok (.iload_n 2, 1) := by decide +kernel
theorem dX11_job_13 : decode cX11_job 13 = .ok (.bipush 6, 2) := by decide +kernel
theorem dX11_job_15 : decode cX11_job 15 = .ok (.if_icmp .gt 10, 3) := by decide +kernel
theorem dX11_job_18 : decode cX11_job 18 = .ok (.iload_n 3, 1) := by decide +kernel
theorem dX11_job_19 : decode cX11_job 19 = .ok (.invokestatic 211, 3) := by decide +kernel
theorem dX11_job_22 : decode cX11_job 22 = .ok (.ifCond .ne 9, 3) := by decide +kernel
theorem dX11_job_25 : decode cX11_job 25 = .ok (.aload_n 0, 1) := by decide +kernel
theorem dX11_job_26 : decode cX11_job 26 = .ok (.iconst (-1), 1) := by decide +kernel
theorem dX11_job_27 : decode cX11_job 27 = .ok (.invokevirtual 113, 3) := by decide +kernel
theorem dX11_job_30 : decode cX11_job 30 = .ok (.ireturn, 1) := by decide +kernel
theorem dX11_job_31 : decode cX11_job 31 = .ok (.aload_n 0, 1) := by decide +kernel
theorem dX11_job_32 : decode cX11_job 32 = .ok (.getfield 12, 3) := by decide +kernel
theorem dX11_job_35 : decode cX11_job 35 = .ok (.getfield 307, 3) := by decide +kernel
theorem dX11_job_38 : decode cX11_job 38 = .ok (.invokevirtual 149, 3) := by decide +kernel
theorem dX11_job_41 : decode cX11_job 41 = .ok (.ifCond .eq 10, 3) := by decide +kernel
theorem dX11_job_44 : decode cX11_job 44 = .ok (.aload_n 0, 1) := by decide +kernel
theorem dX11_job_45 : decode cX11_job 45 = .ok (.bipush (-5), 2) := by decide +kernel
theorem dX11_job_47 : decode cX11_job 47 = .ok (.invokevirtual 113, 3) := by decide +kernel
theorem dX11_job_50 : decode cX11_job 50 = .ok (.ireturn, 1) := by decide +kernel
theorem dX11_job_51 : decode cX11_job 51 = .ok (.aload_n 0, 1) := by decide +kernel
theorem dX11_job_52 : decode cX11_job 52 = .ok (.getfield 12, 3) := by decide +kernel
theorem dX11_job_55 : decode cX11_job 55 = .ok (.getfield 307, 3) := by decide +kernel
theorem dX11_job_58 : decode cX11_job 58 = .ok (.iload_n 1, 1) := by decide +kernel
theorem dX11_job_59 : decode cX11_job 59 = .ok (.iload_n 2, 1) := by decide +kernel
theorem dX11_job_60 : decode cX11_job 60 = .ok (.iload_n 3, 1) := by decide +kernel
theorem dX11_job_61 : decode cX11_job 61 = .ok (.iconst 0, 1) := by decide +kernel
theorem dX11_job_62 : decode cX11_job 62 = .ok (.invokevirtual 155, 3) := by decide +kernel
theorem dX11_job_65 : decode cX11_job 65 = .ok (.pop, 1) := by decide +kernel
theorem dX11_job_66 : decode cX11_job 66 = .ok (.aload_n 0, 1) := by decide +kernel
theorem dX11_job_67 : decode cX11_job 67 = .ok (.invokevirtual 191, 3) := by decide +kernel
theorem dX11_job_70 : decode cX11_job 70 = .ok (.aload_n 0, 1) := by decide +kernel
theorem dX11_job_71 : decode cX11_job 71 = .ok (.aload_n 0, 1) := by decide +kernel
theorem dX11_job_72 : decode cX11_job 72 = .ok (.getfield 12, 3) := by decide +kernel
theorem dX11_job_75 : decode cX11_job 75 = .ok (.getfield 307, 3) := by decide +kernel
theorem dX11_job_78 : decode cX11_job 78 = .ok (.invokevirtual 166, 3) := by decide +kernel
theorem dX11_job_81 : decode cX11_job 81 = .ok (.invokevirtual 127, 3) := by decide +kernel
theorem dX11_job_84 : decode cX11_job 84 = .ok (.ireturn, 1) := by decide +kernel
set_option maxHeartbeats 4000000 in
set_option maxRecDepth 100000 in
theorem c_X11_job (l : Launch) (E : Nat → ClassId) (D : va_G) (G : th_G) (h0 n : Nat) (hG0 : G h0 = some (15, n)) (x1 x2 x3 : Int32) : Met l yX11_job (tb (.code yX11_job cX11_job 4 (some .int))) (rm 2) (va_Pc [.ref h0, .int x1, .int x2, .int x3] (th_P E D G)) (QI E D G (fun r => True)) 0 0 (th_A G) := by
  refine Met.ofW (cc := cX11_job) (maxL := 4) (ret := (some .int)) (by decide) rfl ?_
  intro p e s m args below meth c s₁ B hml hv
  obtain ⟨hav, hI, hN, hK⟩ := hv
  have hx := B.exec
  have hb := B.bytes
  have hr := B.returns
  have hts := atoms_spec (ws := tb (.code yX11_job cX11_job 4 (some .int))) B.pre
  have hown : s.vm.findClass RX11 = some m.cls := findClass_of_methodNamed B.named
  have hlocks := B.notSynchronized
  have hS : va_S (th_A G) s.heap s.heap [] := va_S.rf
  have hl := lv_entry ([.ref h0, .int x1, .int x2, .int x3]) (n := 4) (Nat.le_of_ble_eq_true rfl)
  rw [show entryFrame m args 4 = entryFrame m ([.ref h0, .int x1, .int x2, .int x3] : List Value).toArray 4 from by rw [hav], lg_entry_eq]
  generalize (lg_sl ([.ref h0, .int x1, .int x2, .int x3]) ++ List.replicate (4 - (lg_sl ([.ref h0, .int x1, .int x2, .int x3])).length) Slot.unset).toArray = ls at hl ⊢
  have hl : lv_has ls 4 [(0, .ref h0), (1, .int x1), (2, .int x2), (3, .int x3)] := hl
  generalize hR : (headSpec (tb (.code yX11_job cX11_job 4 (some .int))) (rm 2)).room = R
  have hR := hR.symm
  generalize hQ : MQ below (QI E D G (fun r => True)) args s 0 0 (th_A G) = QF
  have hQ := hQ.symm
  have J_25 : ∀ (H : Heap) (locs : List Loc) (ls : Array Slot) , lv_has ls 4 [(0, .ref h0), (1, .int x1), (2, .int x2), (3, .int x3)] → th_I (okC E) D G [] H → va_S (th_A G) s.heap H locs → W p l e R s m args below meth c H locs 0 0 QF (F0 m 25 ls []) := by
    intro H locs ls  hl  hI hS
    refine lv_aload_n hx hb dX11_job_25 rfl (lv_at hl 0 rfl) ?_
    refine lv_iconst (v := (-1)) hx hb dX11_job_26 (by decide) ?_
    refine th_cVi (As := [.int (-1)]) (rest := []) (n := 1) (d := 0) ⟨hx, hb, hml, hown, hts⟩ (c_X11_refuse l E D G h0 (n) hG0 (-1)) wd_407 wd_409 wp_0 wd_1 wd_410 (by decide +kernel) ⟨by rw [hR]; exact Nat.le_of_ble_eq_true rfl, by rw [hR]; exact Nat.le_of_ble_eq_true rfl⟩ hI hN hK hS (rc_15 hI hG0 List.not_mem_nil) rfl rfl hl.1 rfl (Nat.le_of_ble_eq_true rfl) dX11_job_27 ⟨Nat.zero_le _, Nat.zero_le _⟩ (fun r1592 H locs hp hI hS => ?_)
    have hp := hp.symm
    subst hp
    have hpost : True := trivial
    rw [hQ]
    exact W.iret (v := (-1)) hx hb hr (fun t ht hW => ⟨⟨(-1), (), rfl, hpost, by rw [ht]; exact hI, hN.warm hW, va_K.moved hW.alike hK⟩, hS.F ht⟩) hS.2.2 dX11_job_30
  refine lv_iload_n hx hb dX11_job_0 rfl (lv_at hl 1 rfl) ?_
  refine th_cSs (As := [.int x1]) (rest := []) (n := 1) (d := 0) ⟨hx, hb, hml, hown, hts⟩ (c_X11_isCell l s.heap x1) wd_401 wd_402 wd_1 wd_403 (by decide +kernel) ⟨by rw [hR]; exact Nat.le_of_ble_eq_true rfl, by rw [hR]; exact Nat.le_of_ble_eq_true rfl⟩ hN hS rfl hl.1 rfl (Nat.le_of_ble_eq_true rfl) dX11_job_1 ⟨Nat.zero_le _, Nat.zero_le _⟩ (fun r1593 locs hp hS => ?_)
  rcases hp with ⟨rfl, hp⟩ | ⟨rfl, hp⟩
  · skip
    try simp only [rg, not_and, Int.not_le] at hp
    have hp1594 := hp
    refine lv_if_eq (tgt := 25) hx hb dX11_job_4 (by decide) (fun c => absurd c (by decide)) (fun _ => ?_)
    refine lv_iload_n hx hb dX11_job_7 rfl (lv_at hl 2 rfl) ?_
    refine lv_iconst (v := 1) hx hb dX11_job_8 (by decide) ?_
    have k1595 := iv_lo x2
    have k1596 := iv_hi x2
    refine lv_icmp_lt (tgt := 25) hx hb dX11_job_9 (by decide) (fun c1597 => ?_) (fun c1597 => ?_)
    · skip
      have k1598 := iv_lt (X := x2.toInt) (Y := (1)) rfl (by decide) c1597
      exact J_25 s.heap locs ls  (lv_sub hl [0, 1, 2, 3] rfl)  hI hS
    · skip
      have k1599 := iv_nlt (X := x2.toInt) (Y := (1)) rfl (by decide) c1597
      refine lv_iload_n hx hb dX11_job_12 rfl (lv_at hl 2 rfl) ?_
      refine lv_bipush (v := 6) hx hb dX11_job_13 (by decide) ?_
      refine lv_icmp_gt (tgt := 25) hx hb dX11_job_15 (by decide) (fun c1600 => ?_) (fun c1600 => ?_)
      · skip
        have k1601 := iv_lt (X := (6)) (Y := x2.toInt) (by decide) rfl c1600
        exact J_25 s.heap locs ls  (lv_sub hl [0, 1, 2, 3] rfl)  hI hS
      · skip
        have k1602 := iv_nlt (X := (6)) (Y := x2.toInt) (by decide) rfl c1600
        refine lv_iload_n hx hb dX11_job_18 rfl (lv_at hl 3 rfl) ?_
        refine th_cSs (As := [.int x3]) (rest := []) (n := 1) (d := 0) ⟨hx, hb, hml, hown, hts⟩ (c_X11_isHour l s.heap x3) wd_466 wd_467 wd_1 wd_468 (by decide +kernel) ⟨by rw [hR]; exact Nat.le_of_ble_eq_true rfl, by rw [hR]; exact Nat.le_of_ble_eq_true rfl⟩ hN hS rfl hl.1 rfl (Nat.le_of_ble_eq_true rfl) dX11_job_19 ⟨Nat.zero_le _, Nat.zero_le _⟩ (fun r1603 locs hp hS => ?_)
        rcases hp with ⟨rfl, hp⟩ | ⟨rfl, hp⟩
        · skip
          try simp only [rg, not_and, Int.not_le] at hp
          have hp1604 := hp
          refine lv_if_ne (tgt := 31) hx hb dX11_job_22 (by decide) (fun _ => ?_) (fun c => absurd c (by decide))
          refine lv_aload_n hx hb dX11_job_31 rfl (lv_at hl 0 rfl) ?_
          obtain ⟨a1605, a1608, a1610, a1612, a1614, a1616, a1618, a1620, a1622, a1624, a1626, w1628, w1629, w1630, w1631, hO, hq1606, hq1607, hq1609, hq1611, hq1613, hq1615, hq1617, hq1619, hq1621, hq1623, hq1625, hq1627⟩ := op_15 hI hG0 List.not_mem_nil
          have hI := th_I.weak (a := h0) hI
          have k1632 : (nI (n % 401)).toInt = ((n % 401 : Nat) : Int) := nI_toInt (by omega)
          refine th_get hx hb hts inT11 hown hK hO rfl 0 (by decide) (hts _ (tb_c wd_345)) rfl rfl dX11_job_32 ?_
          have hI := th_I.close hI hG0 hO (ok_15 hq1606 hq1607 hq1609 hq1611 hq1613 hq1615 hq1617 hq1619 hq1621 hq1623 hq1625 hq1627)
          obtain ⟨a1633, a1635, a1637, a1639, a1641, a1643, a1645, a1647, a1649, a1651, w1653, w1656, w1657, w1658, hO, hq1634, hq1636, hq1638, hq1640, hq1642, hq1644, hq1646, hq1648, hq1650, hq1652, ⟨k1654, k1655⟩⟩ := op_6 hI hq1606 List.not_mem_nil
          have hI := th_I.weak (a := a1605) hI
          refine th_getN hx hb hts inT6 hown hK hN hO rfl 7 (by decide) wn_77 rfl rfl dX11_job_35 ?_
          have hI := th_I.close hI hq1606 hO (ok_6 hq1634 hq1636 hq1638 hq1640 hq1642 hq1644 hq1646 hq1648 hq1650 hq1652 ⟨by omega, by omega⟩)
          obtain ⟨a1660, w1662, hO, hq1661, ⟨k1663, k1664⟩, k1665⟩ := op_4 hI hq1648 List.not_mem_nil
          have hI := th_I.weak (a := a1647) hI
          have k1666 : (nI 6).toInt = ((6 : Nat) : Int) := nI_toInt (by omega)
          refine th_cVs (As := []) (rest := []) (n := 0) (d := 0) ⟨hx, hb, hml, hown, hts⟩ (c_X4_isFull l E D s.heap a1647 6 a1660 w1662 hO (by omega) (by omega) (by omega)) wd_481 wd_482 wd_483 wd_3 wd_484 (by decide +kernel) ⟨by rw [hR]; exact Nat.le_of_ble_eq_true rfl, by rw [hR]; exact Nat.le_of_ble_eq_true rfl⟩ hN hK hS ⟨_, hO⟩ rfl rfl hl.1 rfl (Nat.le_of_ble_eq_true rfl) dX11_job_38 ⟨Nat.zero_le _, Nat.zero_le _⟩ (fun r1659 locs hp hS => ?_)
          rcases hp with ⟨rfl, hp⟩ | ⟨rfl, hp⟩
          · skip
            try simp only [rg, not_and, Int.not_le] at hp
            have hp1667 := hp
            refine lv_if_eq (tgt := 51) hx hb dX11_job_41 (by decide) (fun c => absurd c (by decide)) (fun _ => ?_)
            refine lv_aload_n hx hb dX11_job_44 rfl (lv_at hl 0 rfl) ?_
            refine lv_bipush (v := (-5)) hx hb dX11_job_45 (by decide) ?_
            have hI := th_I.close hI hq1648 hO (ok_4 hq1661 ⟨by omega, by omega⟩ (by omega))
            refine th_cVi (As := [.int (-5)]) (rest := []) (n := 1) (d := 0) ⟨hx, hb, hml, hown, hts⟩ (c_X11_refuse l E D G h0 (n) hG0 (-5)) wd_407 wd_409 wp_0 wd_1 wd_410 (by decide +kernel) ⟨by rw [hR]; exact Nat.le_of_ble_eq_true rfl, by rw [hR]; exact Nat.le_of_ble_eq_true rfl⟩ hI hN hK hS (rc_15 hI hG0 List.not_mem_nil) rfl rfl hl.1 rfl (Nat.le_of_ble_eq_true rfl) dX11_job_47 ⟨Nat.zero_le _, Nat.zero_le _⟩ (fun r1668 H locs hp hI hS => ?_)
            have hp := hp.symm
            subst hp
            have hpost : True := trivial
            rw [hQ]
            exact W.iret (v := (-5)) hx hb hr (fun t ht hW => ⟨⟨(-5), (), rfl, hpost, by rw [ht]; exact hI, hN.warm hW, va_K.moved hW.alike hK⟩, hS.F ht⟩) hS.2.2 dX11_job_50
          · skip
            have hp1669 := hp
            refine lv_if_eq (tgt := 51) hx hb dX11_job_41 (by decide) (fun _ => ?_) (fun c => absurd c (by decide))
            refine lv_aload_n hx hb dX11_job_51 rfl (lv_at hl 0 rfl) ?_
            have hI := th_I.close hI hq1648 hO (ok_4 hq1661 ⟨by omega, by omega⟩ (by omega))
            obtain ⟨a1670, a1673, a1675, a1677, a1679, a1681, a1683, a1685, a1687, a1689, a1691, w1693, w1694, w1695, w1696, hO, hq1671, hq1672, hq1674, hq1676, hq1678, hq1680, hq1682, hq1684, hq1686, hq1688, hq1690, hq1692⟩ := op_15 hI hG0 List.not_mem_nil
            have hI := th_I.weak (a := h0) hI
            have k1697 : (nI (n % 401)).toInt = ((n % 401 : Nat) : Int) := nI_toInt (by omega)
            refine th_get hx hb hts inT11 hown hK hO rfl 0 (by decide) (hts _ (tb_c wd_345)) rfl rfl dX11_job_52 ?_
            have hI := th_I.close hI hG0 hO (ok_15 hq1671 hq1672 hq1674 hq1676 hq1678 hq1680 hq1682 hq1684 hq1686 hq1688 hq1690 hq1692)
            obtain ⟨a1698, a1700, a1702, a1704, a1706, a1708, a1710, a1712, a1714, a1716, w1718, w1721, w1722, w1723, hO, hq1699, hq1701, hq1703, hq1705, hq1707, hq1709, hq1711, hq1713, hq1715, hq1717, ⟨k1719, k1720⟩⟩ := op_6 hI hq1671 List.not_mem_nil
            have hI := th_I.weak (a := a1670) hI
            refine th_getN hx hb hts inT6 hown hK hN hO rfl 7 (by decide) wn_77 rfl rfl dX11_job_55 ?_
            refine lv_iload_n hx hb dX11_job_58 rfl (lv_at hl 1 rfl) ?_
            refine lv_iload_n hx hb dX11_job_59 rfl (lv_at hl 2 rfl) ?_
            refine lv_iload_n hx hb dX11_job_60 rfl (lv_at hl 3 rfl) ?_
            refine lv_iconst (v := 0) hx hb dX11_job_61 (by decide) ?_
            have hI := th_I.close hI hq1671 hO (ok_6 hq1699 hq1701 hq1703 hq1705 hq1707 hq1709 hq1711 hq1713 hq1715 hq1717 ⟨by omega, by omega⟩)
            refine th_cVi (As := [.int x1, .int x2, .int x3, .int 0]) (rest := []) (n := 4) (d := 1) ⟨hx, hb, hml, hown, hts⟩ (c_X4_put l E D G a1712 (6) hq1713 x1 x2 x3 0) wd_485 wd_486 wd_487 wd_3 wd_488 (by decide +kernel) ⟨by rw [hR]; exact Nat.le_of_ble_eq_true rfl, by rw [hR]; exact Nat.le_of_ble_eq_true rfl⟩ hI hN hK hS (rc_4 hI hq1713 List.not_mem_nil) rfl rfl hl.1 rfl (Nat.le_of_ble_eq_true rfl) dX11_job_62 ⟨Nat.zero_le _, Nat.zero_le _⟩ (fun r1724 H locs hp hI hS => ?_)
            refine lv_pop hx hb dX11_job_65 rfl ?_
            refine lv_aload_n hx hb dX11_job_66 rfl (lv_at hl 0 rfl) ?_
            refine th_cVv (As := []) (rest := []) (n := 0) (d := 1) ⟨hx, hb, hml, hown, hts⟩ (c_X11_turnLists l E D G h0 (n) hG0 ) wd_431 wd_433 wp_2 wd_1 wd_434 (by decide +kernel) ⟨by rw [hR]; exact Nat.le_of_ble_eq_true rfl, by rw [hR]; exact Nat.le_of_ble_eq_true rfl⟩ hI hN hK hS (rc_15 hI hG0 List.not_mem_nil) rfl rfl hl.1 rfl (Nat.le_of_ble_eq_true rfl) dX11_job_67 ⟨Nat.zero_le _, Nat.zero_le _⟩ (fun H locs hI hS => ?_)
            refine lv_aload_n hx hb dX11_job_70 rfl (lv_at hl 0 rfl) ?_
            refine lv_aload_n hx hb dX11_job_71 rfl (lv_at hl 0 rfl) ?_
            obtain ⟨a1726, a1729, a1731, a1733, a1735, a1737, a1739, a1741, a1743, a1745, a1747, w1749, w1750, w1751, w1752, hO, hq1727, hq1728, hq1730, hq1732, hq1734, hq1736, hq1738, hq1740, hq1742, hq1744, hq1746, hq1748⟩ := op_15 hI hG0 List.not_mem_nil
            have hI := th_I.weak (a := h0) hI
            have k1753 : (nI (n % 401)).toInt = ((n % 401 : Nat) : Int) := nI_toInt (by omega)
            refine th_get hx hb hts inT11 hown hK hO rfl 0 (by decide) (hts _ (tb_c wd_345)) rfl rfl dX11_job_72 ?_
            have hI := th_I.close hI hG0 hO (ok_15 hq1727 hq1728 hq1730 hq1732 hq1734 hq1736 hq1738 hq1740 hq1742 hq1744 hq1746 hq1748)
            obtain ⟨a1754, a1756, a1758, a1760, a1762, a1764, a1766, a1768, a1770, a1772, w1774, w1777, w1778, w1779, hO, hq1755, hq1757, hq1759, hq1761, hq1763, hq1765, hq1767, hq1769, hq1771, hq1773, ⟨k1775, k1776⟩⟩ := op_6 hI hq1727 List.not_mem_nil
            have hI := th_I.weak (a := a1726) hI
            refine th_getN hx hb hts inT6 hown hK hN hO rfl 7 (by decide) wn_77 rfl rfl dX11_job_75 ?_
            have hI := th_I.close hI hq1727 hO (ok_6 hq1755 hq1757 hq1759 hq1761 hq1763 hq1765 hq1767 hq1769 hq1771 hq1773 ⟨by omega, by omega⟩)
            obtain ⟨a1781, w1783, hO, hq1782, ⟨k1784, k1785⟩, k1786⟩ := op_4 hI hq1769 List.not_mem_nil
            have hI := th_I.weak (a := a1768) hI
            have k1787 : (nI 6).toInt = ((6 : Nat) : Int) := nI_toInt (by omega)
            refine th_cVs (As := []) (rest := [.ref h0]) (n := 0) (d := 0) ⟨hx, hb, hml, hown, hts⟩ (c_X4_size l E D H a1768 6 a1781 w1783 hO (by omega) (by omega) (by omega)) wd_506 wd_507 wd_508 wd_3 wd_509 (by decide +kernel) ⟨by rw [hR]; exact Nat.le_of_ble_eq_true rfl, by rw [hR]; exact Nat.le_of_ble_eq_true rfl⟩ hN hK hS ⟨_, hO⟩ rfl rfl hl.1 rfl (Nat.le_of_ble_eq_true rfl) dX11_job_78 ⟨Nat.zero_le _, Nat.zero_le _⟩ (fun r1780 locs hp hS => ?_)
            have hp := hp.symm
            subst hp
            have hI := th_I.close hI hq1769 hO (ok_4 hq1782 ⟨by omega, by omega⟩ (by omega))
            refine th_cVi (As := [.int w1783]) (rest := []) (n := 1) (d := 0) ⟨hx, hb, hml, hown, hts⟩ (c_X11_accept l E D G h0 (n) hG0 w1783) wd_447 wd_449 wp_3 wd_1 wd_450 (by decide +kernel) ⟨by rw [hR]; exact Nat.le_of_ble_eq_true rfl, by rw [hR]; exact Nat.le_of_ble_eq_true rfl⟩ hI hN hK hS (rc_15 hI hG0 List.not_mem_nil) rfl rfl hl.1 rfl (Nat.le_of_ble_eq_true rfl) dX11_job_81 ⟨Nat.zero_le _, Nat.zero_le _⟩ (fun r1788 H locs hp hI hS => ?_)
            have hp := hp.symm
            subst hp
            have hpost : True := trivial
            rw [hQ]
            exact W.iret (v := w1783) hx hb hr (fun t ht hW => ⟨⟨w1783, (), rfl, hpost, by rw [ht]; exact hI, hN.warm hW, va_K.moved hW.alike hK⟩, hS.F ht⟩) hS.2.2 dX11_job_84
        · skip
          try simp only [rg, not_and, Int.not_le] at hp
          have hp1789 := hp
          refine lv_if_ne (tgt := 31) hx hb dX11_job_22 (by decide) (fun c => absurd c (by decide)) (fun _ => ?_)
          exact J_25 s.heap locs ls  (lv_sub hl [0, 1, 2, 3] rfl)  hI hS
  · skip
    try simp only [rg, not_and, Int.not_le] at hp
    have hp1790 := hp
    refine lv_if_eq (tgt := 25) hx hb dX11_job_4 (by decide) (fun _ => ?_) (fun c => absurd c (by decide))
    exact J_25 s.heap locs ls  (lv_sub hl [0, 1, 2, 3] rfl)  hI hS
theorem dX11_hang_0 : decode cX11_hang 0 = .ok (.aload_n 0, 1) := by decide +kernel
theorem dX11_hang_1 : decode cX11_hang 1 = .ok (.invokevirtual 191, 3) := by decide +kernel
theorem dX11_hang_4 : decode cX11_hang 4 = .ok (.aload_n 0, 1) := by decide +kernel
theorem dX11_hang_5 : decode cX11_hang 5 = .ok (.getfield 12, 3) := by decide +kernel
theorem dX11_hang_8 : decode cX11_hang 8 = .ok (.getfield 307, 3) := by decide +kernel
theorem dX11_hang_11 : decode cX11_hang 11 = .ok (.invokevirtual 295, 3) := by decide +kernel
theorem dX11_hang_14 : decode cX11_hang 14 = .ok (.ireturn, 1) := by decide +kernel
set_option maxHeartbeats 4000000 in
set_option maxRecDepth 100000 in
theorem c_X11_hang (l : Launch) (E : Nat → ClassId) (D : va_G) (G : th_G) (h0 n : Nat) (hG0 : G h0 = some (15, n)) : Met l yX11_hang (tb (.code yX11_hang cX11_hang 1 (some .int))) (rm 2) (va_Pc [.ref h0] (th_P E D G)) (QI E D G (fun r => True)) 0 0 (th_A G) := by
  refine Met.ofW (cc := cX11_hang) (maxL := 1) (ret := (some .int)) (by decide) rfl ?_
  intro p e s m args below meth c s₁ B hml hv
  obtain ⟨hav, hI, hN, hK⟩ := hv
  have hx := B.exec
  have hb := B.bytes
  have hr := B.returns
  have hts := atoms_spec (ws := tb (.code yX11_hang cX11_hang 1 (some .int))) B.pre
  have hown : s.vm.findClass RX11 = some m.cls := findClass_of_methodNamed B.named
  have hlocks := B.notSynchronized
  have hS : va_S (th_A G) s.heap s.heap [] := va_S.rf
  have hl := lv_entry ([.ref h0]) (n := 1) (Nat.le_of_ble_eq_true rfl)
  rw [show entryFrame m args 1 = entryFrame m ([.ref h0] : List Value).toArray 1 from by rw [hav], lg_entry_eq]
  generalize (lg_sl ([.ref h0]) ++ List.replicate (1 - (lg_sl ([.ref h0])).length) Slot.unset).toArray = ls at hl ⊢
  have hl : lv_has ls 1 [(0, .ref h0)] := hl
  generalize hR : (headSpec (tb (.code yX11_hang cX11_hang 1 (some .int))) (rm 2)).room = R
  have hR := hR.symm
  generalize hQ : MQ below (QI E D G (fun r => True)) args s 0 0 (th_A G) = QF
  have hQ := hQ.symm
  refine lv_aload_n hx hb dX11_hang_0 rfl (lv_at hl 0 rfl) ?_
  refine th_cVv (As := []) (rest := []) (n := 0) (d := 1) ⟨hx, hb, hml, hown, hts⟩ (c_X11_turnLists l E D G h0 (n) hG0 ) wd_431 wd_433 wp_2 wd_1 wd_434 (by decide +kernel) ⟨by rw [hR]; exact Nat.le_of_ble_eq_true rfl, by rw [hR]; exact Nat.le_of_ble_eq_true rfl⟩ hI hN hK hS (rc_15 hI hG0 List.not_mem_nil) rfl rfl hl.1 rfl (Nat.le_of_ble_eq_true rfl) dX11_hang_1 ⟨Nat.zero_le _, Nat.zero_le _⟩ (fun H locs hI hS => ?_)
  refine lv_aload_n hx hb dX11_hang_4 rfl (lv_at hl 0 rfl) ?_
  obtain ⟨a2, a5, a7, a9, a11, a13, a15, a17, a19, a21, a23, w25, w26, w27, w28, hO, hq3, hq4, hq6, hq8, hq10, hq12, hq14, hq16, hq18, hq20, hq22, hq24⟩ := op_15 hI hG0 List.not_mem_nil
  have hI := th_I.weak (a := h0) hI
  have k29 : (nI (n % 401)).toInt = ((n % 401 : Nat) : Int) := nI_toInt (by omega)
  refine th_get hx hb hts inT11 hown hK hO rfl 0 (by decide) (hts _ (tb_c wd_345)) rfl rfl dX11_hang_5 ?_
  have hI := th_I.close hI hG0 hO (ok_15 hq3 hq4 hq6 hq8 hq10 hq12 hq14 hq16 hq18 hq20 hq22 hq24)
  obtain ⟨a30, a32, a34, a36, a38, a40, a42, a44, a46, a48, w50, w53, w54, w55, hO, hq31, hq33, hq35, hq37, hq39, hq41, hq43, hq45, hq47, hq49, ⟨k51, k52⟩⟩ := op_6 hI hq3 List.not_mem_nil
  have hI := th_I.weak (a := a2) hI
  refine th_getN hx hb hts inT6 hown hK hN hO rfl 7 (by decide) wn_77 rfl rfl dX11_hang_8 ?_
  have hI := th_I.close hI hq3 hO (ok_6 hq31 hq33 hq35 hq37 hq39 hq41 hq43 hq45 hq47 hq49 ⟨by omega, by omega⟩)
  refine th_cVi (As := []) (rest := []) (n := 0) (d := 0) ⟨hx, hb, hml, hown, hts⟩ (c_X4_clear l E D G a44 (6) hq45 ) wd_983 wd_984 wd_985 wd_3 wd_986 (by decide +kernel) ⟨by rw [hR]; exact Nat.le_of_ble_eq_true rfl, by rw [hR]; exact Nat.le_of_ble_eq_true rfl⟩ hI hN hK hS (rc_4 hI hq45 List.not_mem_nil) rfl rfl hl.1 rfl (Nat.le_of_ble_eq_true rfl) dX11_hang_11 ⟨Nat.zero_le _, Nat.zero_le _⟩ (fun r56 H locs hp hI hS => ?_)
  have hpost : True := trivial
  rw [hQ]
  exact W.iret (v := r56) hx hb hr (fun t ht hW => ⟨⟨r56, (), rfl, hpost, by rw [ht]; exact hI, hN.warm hW, va_K.moved hW.alike hK⟩, hS.F ht⟩) hS.2.2 dX11_hang_14
theorem dX11_lovers_0 : decode cX11_lovers 0 = .ok (.iload_n 1, 1) := by decide +kernel
theorem dX11_lovers_1 : decode cX11_lovers 1 = .ok (.invokestatic 106, 3) := by decide +kernel
theorem dX11_lovers_4 : decode cX11_lovers 4 = .ok (.ifCond .eq 25, 3) := by decide +kernel
theorem dX11_lovers_7 : decode cX11_lovers 7 = .ok (.iload_n 2, 1) := by decide +kernel
theorem dX11_lovers_8 : decode cX11_lovers 8 = .ok (.invokestatic 106, 3) := by decide +kernel
theorem dX11_lovers_11 : decode cX11_lovers 11 = .ok (.ifCond .eq 18, 3) := by decide +kernel
theorem dX11_lovers_14 : decode cX11_lovers 14 = .ok (.iload_n 3, 1) := by decide +kernel
theorem dX11_lovers_15 : decode cX11_lovers 15 = .ok (.invokestatic 226, 3) := by decide +kernel
theorem dX11_lovers_18 : decode cX11_lovers 18 = .ok (.ifCond .eq 11, 3) := by decide +kernel
theorem dX11_lovers_21 : decode cX11_lovers 21 = .ok (.iload 4, 2) := by decide +kernel
theorem dX11_lovers_23 : decode cX11_lovers 23 = .ok (.invokestatic 138, 3) := by decide +kernel
theorem dX11_lovers_26 : decode cX11_lovers 26 = .ok (.ifCond .ne 5, 3) := by decide +kernel
theorem dX11_lovers_29 : decode cX11_lovers 29 = .ok (.iconst (-1), 1) := by decide +kernel
theorem dX11_lovers_30 : decode cX11_lovers 30 = .ok (.ireturn, 1) := by decide +kernel
theorem dX11_lovers_31 : decode cX11_lovers 31 = .ok (.iload_n 1, 1) := by decide +kernel
theorem dX11_lovers_32 : decode cX11_lovers 32 = .ok (.iload_n 2, 1) := by decide +kernel
theorem dX11_lovers_33 : decode cX11_lovers 33 = .ok (.if_icmp .ne 7, 3) := by decide +kernel
theorem dX11_lovers_36 : decode cX11_lovers 36 = .ok (.iload_n 3, 1) := by decide +kernel
theorem dX11_lovers_37 : decode cX11_lovers 37 = .ok (.goto 15, 3) := by decide +kernel
theorem dX11_lovers_40 : decode cX11_lovers 40 = .ok (.aload_n 0, 1) := by decide +kernel
theorem dX11_lovers_41 : decode cX11_lovers 41 = .ok (.getfield 78, 3) := by decide +kernel
theorem dX11_lovers_44 : decode cX11_lovers 44 = .ok (.iload_n 1, 1) := by decide +kernel
theorem dX11_lovers_45 : decode cX11_lovers 45 = .ok (.iload_n 2, 1) := by decide +kernel
theorem dX11_lovers_46 : decode cX11_lovers 46 = .ok (.iload_n 3, 1) := by decide +kernel
theorem dX11_lovers_47 : decode cX11_lovers 47 = .ok (.iload 4, 2) := by decide +kernel
theorem dX11_lovers_49 : decode cX11_lovers 49 = .ok (.invokevirtual 313, 3) := by decide +kernel
theorem dX11_lovers_52 : decode cX11_lovers 52 = .ok (.ireturn, 1) := by decide +kernel
set_option maxHeartbeats 4000000 in
set_option maxRecDepth 100000 in
theorem c_X11_lovers (l : Launch) (E : Nat → ClassId) (D : va_G) (G : th_G) (h0 n : Nat) (hG0 : G h0 = some (15, n)) (x1 x2 x3 x4 : Int32) : Met l yX11_lovers (tb (.code yX11_lovers cX11_lovers 5 (some .int))) (rm 8) (va_Pc [.ref h0, .int x1, .int x2, .int x3, .int x4] (th_P E D G)) (QI E D G (fun r => True)) 0 0 (th_A G) := by
  refine Met.ofW (cc := cX11_lovers) (maxL := 5) (ret := (some .int)) (by decide) rfl ?_
  intro p e s m args below meth c s₁ B hml hv
  obtain ⟨hav, hI, hN, hK⟩ := hv
  have hx := B.exec
  have hb := B.bytes
  have hr := B.returns
  have hts := atoms_spec (ws := tb (.code yX11_lovers cX11_lovers 5 (some .int))) B.pre
  have hown : s.vm.findClass RX11 = some m.cls := findClass_of_methodNamed B.named
  have hlocks := B.notSynchronized
  have hS : va_S (th_A G) s.heap s.heap [] := va_S.rf
  have hl := lv_entry ([.ref h0, .int x1, .int x2, .int x3, .int x4]) (n := 5) (Nat.le_of_ble_eq_true rfl)
  rw [show entryFrame m args 5 = entryFrame m ([.ref h0, .int x1, .int x2, .int x3, .int x4] : List Value).toArray 5 from by rw [hav], lg_entry_eq]
  generalize (lg_sl ([.ref h0, .int x1, .int x2, .int x3, .int x4]) ++ List.replicate (5 - (lg_sl ([.ref h0, .int x1, .int x2, .int x3, .int x4])).length) Slot.unset).toArray = ls at hl ⊢
  have hl : lv_has ls 5 [(0, .ref h0), (1, .int x1), (2, .int x2), (3, .int x3), (4, .int x4)] := hl
  generalize hR : (headSpec (tb (.code yX11_lovers cX11_lovers 5 (some .int))) (rm 8)).room = R
  have hR := hR.symm
  generalize hQ : MQ below (QI E D G (fun r => True)) args s 0 0 (th_A G) = QF
  have hQ := hQ.symm
  have J_29 : ∀ (H : Heap) (locs : List Loc) (ls : Array Slot) , lv_has ls 5 [(0, .ref h0), (1, .int x1), (2, .int x2), (3, .int x3), (4, .int x4)] → th_I (okC E) D G [] H → va_S (th_A G) s.heap H locs → W p l e R s m args below meth c H locs 0 0 QF (F0 m 29 ls []) := by
    intro H locs ls  hl  hI hS
    refine lv_iconst (v := (-1)) hx hb dX11_lovers_29 (by decide) ?_
    have hpost : True := trivial
    rw [hQ]
    exact W.iret (v := (-1)) hx hb hr (fun t ht hW => ⟨⟨(-1), (), rfl, hpost, by rw [ht]; exact hI, hN.warm hW, va_K.moved hW.alike hK⟩, hS.F ht⟩) hS.2.2 dX11_lovers_30
  refine lv_iload_n hx hb dX11_lovers_0 rfl (lv_at hl 1 rfl) ?_
  refine th_cSs (As := [.int x1]) (rest := []) (n := 1) (d := 0) ⟨hx, hb, hml, hown, hts⟩ (c_X11_isCell l s.heap x1) wd_401 wd_402 wd_1 wd_403 (by decide +kernel) ⟨by rw [hR]; exact Nat.le_of_ble_eq_true rfl, by rw [hR]; exact Nat.le_of_ble_eq_true rfl⟩ hN hS rfl hl.1 rfl (Nat.le_of_ble_eq_true rfl) dX11_lovers_1 ⟨Nat.zero_le _, Nat.zero_le _⟩ (fun r353 locs hp hS => ?_)
  rcases hp with ⟨rfl, hp⟩ | ⟨rfl, hp⟩
  · skip
    try simp only [rg, not_and, Int.not_le] at hp
    have hp354 := hp
    refine lv_if_eq (tgt := 29) hx hb dX11_lovers_4 (by decide) (fun c => absurd c (by decide)) (fun _ => ?_)
    refine lv_iload_n hx hb dX11_lovers_7 rfl (lv_at hl 2 rfl) ?_
    refine th_cSs (As := [.int x2]) (rest := []) (n := 1) (d := 0) ⟨hx, hb, hml, hown, hts⟩ (c_X11_isCell l s.heap x2) wd_401 wd_402 wd_1 wd_403 (by decide +kernel) ⟨by rw [hR]; exact Nat.le_of_ble_eq_true rfl, by rw [hR]; exact Nat.le_of_ble_eq_true rfl⟩ hN hS rfl hl.1 rfl (Nat.le_of_ble_eq_true rfl) dX11_lovers_8 ⟨Nat.zero_le _, Nat.zero_le _⟩ (fun r355 locs hp hS => ?_)
    rcases hp with ⟨rfl, hp⟩ | ⟨rfl, hp⟩
    · skip
      try simp only [rg, not_and, Int.not_le] at hp
      have hp356 := hp
      refine lv_if_eq (tgt := 29) hx hb dX11_lovers_11 (by decide) (fun c => absurd c (by decide)) (fun _ => ?_)
      refine lv_iload_n hx hb dX11_lovers_14 rfl (lv_at hl 3 rfl) ?_
      refine th_cSs (As := [.int x3]) (rest := []) (n := 1) (d := 0) ⟨hx, hb, hml, hown, hts⟩ (c_X11_isMoment l s.heap x3) wd_826 wd_827 wd_1 wd_828 (by decide +kernel) ⟨by rw [hR]; exact Nat.le_of_ble_eq_true rfl, by rw [hR]; exact Nat.le_of_ble_eq_true rfl⟩ hN hS rfl hl.1 rfl (Nat.le_of_ble_eq_true rfl) dX11_lovers_15 ⟨Nat.zero_le _, Nat.zero_le _⟩ (fun r357 locs hp hS => ?_)
      rcases hp with ⟨rfl, hp⟩ | ⟨rfl, hp⟩
      · skip
        try simp only [rg, not_and, Int.not_le] at hp
        have hp358 := hp
        refine lv_if_eq (tgt := 29) hx hb dX11_lovers_18 (by decide) (fun c => absurd c (by decide)) (fun _ => ?_)
        refine lv_iload hx hb dX11_lovers_21 (lv_at hl 4 rfl) ?_
        refine th_cSs (As := [.int x4]) (rest := []) (n := 1) (d := 0) ⟨hx, hb, hml, hown, hts⟩ (c_X11_isFlag l s.heap x4) wd_469 wd_470 wd_1 wd_471 (by decide +kernel) ⟨by rw [hR]; exact Nat.le_of_ble_eq_true rfl, by rw [hR]; exact Nat.le_of_ble_eq_true rfl⟩ hN hS rfl hl.1 rfl (Nat.le_of_ble_eq_true rfl) dX11_lovers_23 ⟨Nat.zero_le _, Nat.zero_le _⟩ (fun r359 locs hp hS => ?_)
        rcases hp with ⟨rfl, hp⟩ | ⟨rfl, hp⟩
        · skip
          try simp only [rg, not_and, Int.not_le] at hp
          have hp360 := hp
          refine lv_if_ne (tgt := 31) hx hb dX11_lovers_26 (by decide) (fun _ => ?_) (fun c => absurd c (by decide))
          refine lv_iload_n hx hb dX11_lovers_31 rfl (lv_at hl 1 rfl) ?_
          refine lv_iload_n hx hb dX11_lovers_32 rfl (lv_at hl 2 rfl) ?_
          refine lv_icmp_ne (tgt := 40) hx hb dX11_lovers_33 (by decide) (fun c361 => ?_) (fun c361 => ?_)
          · skip
            have k362 := iv_ne (X := x1.toInt) (Y := x2.toInt) rfl rfl c361
            refine lv_aload_n hx hb dX11_lovers_40 rfl (lv_at hl 0 rfl) ?_
            obtain ⟨a363, a366, a368, a370, a372, a374, a376, a378, a380, a382, a384, w386, w387, w388, w389, hO, hq364, hq365, hq367, hq369, hq371, hq373, hq375, hq377, hq379, hq381, hq383, hq385⟩ := op_15 hI hG0 List.not_mem_nil
            have hI := th_I.weak (a := h0) hI
            have k390 : (nI (n % 401)).toInt = ((n % 401 : Nat) : Int) := nI_toInt (by omega)
            refine th_get hx hb hts inT11 hown hK hO rfl 10 (by decide) (hts _ (tb_c wd_355)) rfl rfl dX11_lovers_41 ?_
            refine lv_iload_n hx hb dX11_lovers_44 rfl (lv_at hl 1 rfl) ?_
            refine lv_iload_n hx hb dX11_lovers_45 rfl (lv_at hl 2 rfl) ?_
            refine lv_iload_n hx hb dX11_lovers_46 rfl (lv_at hl 3 rfl) ?_
            refine lv_iload hx hb dX11_lovers_47 (lv_at hl 4 rfl) ?_
            have hI := th_I.close hI hG0 hO (ok_15 hq364 hq365 hq367 hq369 hq371 hq373 hq375 hq377 hq379 hq381 hq383 hq385)
            refine th_cVi (As := [.int x1, .int x2, .int x3, .int x4]) (rest := []) (n := 4) (d := 7) ⟨hx, hb, hml, hown, hts⟩ (c_X8_answer l E D G a382 hq383 x1 x2 x3 x4 ⟨by omega, by omega⟩ ⟨by omega, by omega⟩) wd_1084 wd_1085 wd_1086 wd_11 wd_1087 (by decide +kernel) ⟨by rw [hR]; exact Nat.le_of_ble_eq_true rfl, by rw [hR]; exact Nat.le_of_ble_eq_true rfl⟩ hI hN hK hS (rc_13 hI hq383 List.not_mem_nil) rfl rfl hl.1 rfl (Nat.le_of_ble_eq_true rfl) dX11_lovers_49 ⟨Nat.zero_le _, Nat.zero_le _⟩ (fun r391 H locs hp hI hS => ?_)
            have hpost : True := trivial
            rw [hQ]
            exact W.iret (v := r391) hx hb hr (fun t ht hW => ⟨⟨r391, (), rfl, hpost, by rw [ht]; exact hI, hN.warm hW, va_K.moved hW.alike hK⟩, hS.F ht⟩) hS.2.2 dX11_lovers_52
          · skip
            have k392 := iv_eq (X := x1.toInt) (Y := x2.toInt) rfl rfl c361
            refine lv_iload_n hx hb dX11_lovers_36 rfl (lv_at hl 3 rfl) ?_
            refine lv_goto (tgt := 52) hx hb dX11_lovers_37 (by decide) ?_
            have hpost : True := trivial
            rw [hQ]
            exact W.iret (v := x3) hx hb hr (fun t ht hW => ⟨⟨x3, (), rfl, hpost, by rw [ht]; exact hI, hN.warm hW, va_K.moved hW.alike hK⟩, hS.F ht⟩) hS.2.2 dX11_lovers_52
        · skip
          try simp only [rg, not_and, Int.not_le] at hp
          have hp393 := hp
          refine lv_if_ne (tgt := 31) hx hb dX11_lovers_26 (by decide) (fun c => absurd c (by decide)) (fun _ => ?_)
          exact J_29 s.heap locs ls  (lv_sub hl [0, 1, 2, 3, 4] rfl)  hI hS
      · skip
        try simp only [rg, not_and, Int.not_le] at hp
        have hp394 := hp
        refine lv_if_eq (tgt := 29) hx hb dX11_lovers_18 (by decide) (fun _ => ?_) (fun c => absurd c (by decide))
        exact J_29 s.heap locs ls  (lv_sub hl [0, 1, 2, 3, 4] rfl)  hI hS
    · skip
      try simp only [rg, not_and, Int.not_le] at hp
      have hp395 := hp
      refine lv_if_eq (tgt := 29) hx hb dX11_lovers_11 (by decide) (fun _ => ?_) (fun c => absurd c (by decide))
      exact J_29 s.heap locs ls  (lv_sub hl [0, 1, 2, 3, 4] rfl)  hI hS
  · skip
    try simp only [rg, not_and, Int.not_le] at hp
    have hp396 := hp
    refine lv_if_eq (tgt := 29) hx hb dX11_lovers_4 (by decide) (fun _ => ?_) (fun c => absurd c (by decide))
    exact J_29 s.heap locs ls  (lv_sub hl [0, 1, 2, 3, 4] rfl)  hI hS
theorem dX11_duck_0 : decode cX11_duck 0 = .ok (.iload_n 1, 1) := by decide +kernel
theorem dX11_duck_1 : decode cX11_duck 1 = .ok (.invokestatic 106, 3) := by decide +kernel
theorem dX11_duck_4 : decode cX11_duck 4 = .ok (.ifCond .eq 32, 3) := by decide +kernel
theorem dX11_duck_7 : decode cX11_duck 7 = .ok (.iload_n 2, 1) := by decide +kernel
theorem dX11_duck_8 : decode cX11_duck 8 = .ok (.ifCond .lt 28, 3) := by decide +kernel
theorem dX11_duck_11 : decode cX11_duck 11 = .ok (.iload_n 2, 1) := by decide +kernel
theorem dX11_duck_12 : decode cX11_duck 12 = .ok (.iconst 4, 1) := by decide +kernel
theorem dX11_duck_13 : decode cX11_duck 13 = .ok (.if_icmp .ge 23, 3) := by decide +kernel
theorem dX11_duck_16 : decode cX11_duck 16 = .ok (.iload_n 3, 1) := by decide +kernel
theorem dX11_duck_17 : decode cX11_duck 17 = .ok (.invokestatic 138, 3) := by decide +kernel
theorem dX11_duck_20 : decode cX11_duck 20 = .ok (.ifCond .eq 16, 3) := by decide +kernel
theorem dX11_duck_23 : decode cX11_duck 23 = .ok (.aload_n 0, 1) := by decide +kernel
theorem dX11_duck_24 : decode cX11_duck 24 = .ok (.getfield 51, 3) := by decide +kernel
theorem dX11_duck_27 : decode cX11_duck 27 = .ok (.iload_n 1, 1) := by decide +kernel
theorem dX11_duck_28 : decode cX11_duck 28 = .ok (.iload_n 2, 1) := by decide +kernel
theorem dX11_duck_29 : decode cX11_duck 29 = .ok (.iload_n 3, 1) := by decide +kernel
theorem dX11_duck_30 : decode cX11_duck 30 = .ok (.invokevirtual 316, 3) := by decide +kernel
theorem dX11_duck_33 : decode cX11_duck 33 = .ok (.goto 4, 3) := by decide +kernel
theorem dX11_duck_36 : decode cX11_duck 36 = .ok (.iconst (-1), 1) := by decide +kernel
theorem dX11_duck_37 : decode cX11_duck 37 = .ok (.ireturn, 1) := by decide +kernel
set_option maxHeartbeats 4000000 in
set_option maxRecDepth 100000 in
theorem c_X11_duck (l : Launch) (E : Nat → ClassId) (D : va_G) (G : th_G) (h0 n : Nat) (hG0 : G h0 = some (15, n)) (x1 x2 x3 : Int32) : Met l yX11_duck (tb (.code yX11_duck cX11_duck 4 (some .int))) (rm 7) (va_Pc [.ref h0, .int x1, .int x2, .int x3] (th_P E D G)) (QI E D G (fun r => True)) 0 0 (th_A G) := by
  refine Met.ofW (cc := cX11_duck) (maxL := 4) (ret := (some .int)) (by decide) rfl ?_
  intro p e s m args below meth c s₁ B hml hv
  obtain ⟨hav, hI, hN, hK⟩ := hv
  have hx := B.exec
  have hb := B.bytes
  have hr := B.returns
  have hts := atoms_spec (ws := tb (.code yX11_duck cX11_duck 4 (some .int))) B.pre
  have hown : s.vm.findClass RX11 = some m.cls := findClass_of_methodNamed B.named
  have hlocks := B.notSynchronized
  have hS : va_S (th_A G) s.heap s.heap [] := va_S.rf
  have hl := lv_entry ([.ref h0, .int x1, .int x2, .int x3]) (n := 4) (Nat.le_of_ble_eq_true rfl)
  rw [show entryFrame m args 4 = entryFrame m ([.ref h0, .int x1, .int x2, .int x3] : List Value).toArray 4 from by rw [hav], lg_entry_eq]
  generalize (lg_sl ([.ref h0, .int x1, .int x2, .int x3]) ++ List.replicate (4 - (lg_sl ([.ref h0, .int x1, .int x2, .int x3])).length) Slot.unset).toArray = ls at hl ⊢
  have hl : lv_has ls 4 [(0, .ref h0), (1, .int x1), (2, .int x2), (3, .int x3)] := hl
  generalize hR : (headSpec (tb (.code yX11_duck cX11_duck 4 (some .int))) (rm 7)).room = R
  have hR := hR.symm
  generalize hQ : MQ below (QI E D G (fun r => True)) args s 0 0 (th_A G) = QF
  have hQ := hQ.symm
  refine lv_iload_n hx hb dX11_duck_0 rfl (lv_at hl 1 rfl) ?_
  refine th_cSs (As := [.int x1]) (rest := []) (n := 1) (d := 0) ⟨hx, hb, hml, hown, hts⟩ (c_X11_isCell l s.heap x1) wd_401 wd_402 wd_1 wd_403 (by decide +kernel) ⟨by rw [hR]; exact Nat.le_of_ble_eq_true rfl, by rw [hR]; exact Nat.le_of_ble_eq_true rfl⟩ hN hS rfl hl.1 rfl (Nat.le_of_ble_eq_true rfl) dX11_duck_1 ⟨Nat.zero_le _, Nat.zero_le _⟩ (fun r1 locs hp hS => ?_)
  rcases hp with ⟨rfl, hp⟩ | ⟨rfl, hp⟩
  · skip
    try simp only [rg, not_and, Int.not_le] at hp
    have hp2 := hp
    refine lv_if_eq (tgt := 36) hx hb dX11_duck_4 (by decide) (fun c => absurd c (by decide)) (fun _ => ?_)
    refine lv_iload_n hx hb dX11_duck_7 rfl (lv_at hl 2 rfl) ?_
    have k3 := iv_lo x2
    have k4 := iv_hi x2
    refine lv_if_lt (tgt := 36) hx hb dX11_duck_8 (by decide) (fun c5 => ?_) (fun c5 => ?_)
    · skip
      have k6 := iv_lt (X := x2.toInt) (Y := (0)) rfl (by decide) c5
      refine lv_iconst (v := (-1)) hx hb dX11_duck_36 (by decide) ?_
      have hpost : True := trivial
      rw [hQ]
      exact W.iret (v := (-1)) hx hb hr (fun t ht hW => ⟨⟨(-1), (), rfl, hpost, by rw [ht]; exact hI, hN.warm hW, va_K.moved hW.alike hK⟩, hS.F ht⟩) hS.2.2 dX11_duck_37
    · skip
      have k7 := iv_nlt (X := x2.toInt) (Y := (0)) rfl (by decide) c5
      refine lv_iload_n hx hb dX11_duck_11 rfl (lv_at hl 2 rfl) ?_
      refine lv_iconst (v := 4) hx hb dX11_duck_12 (by decide) ?_
      refine lv_icmp_ge (tgt := 36) hx hb dX11_duck_13 (by decide) (fun c8 => ?_) (fun c8 => ?_)
      · skip
        have k9 := iv_le (X := (4)) (Y := x2.toInt) (by decide) rfl c8
        refine lv_iconst (v := (-1)) hx hb dX11_duck_36 (by decide) ?_
        have hpost : True := trivial
        rw [hQ]
        exact W.iret (v := (-1)) hx hb hr (fun t ht hW => ⟨⟨(-1), (), rfl, hpost, by rw [ht]; exact hI, hN.warm hW, va_K.moved hW.alike hK⟩, hS.F ht⟩) hS.2.2 dX11_duck_37
      · skip
        have k10 := iv_nle (X := (4)) (Y := x2.toInt) (by decide) rfl c8
        refine lv_iload_n hx hb dX11_duck_16 rfl (lv_at hl 3 rfl) ?_
        refine th_cSs (As := [.int x3]) (rest := []) (n := 1) (d := 0) ⟨hx, hb, hml, hown, hts⟩ (c_X11_isFlag l s.heap x3) wd_469 wd_470 wd_1 wd_471 (by decide +kernel) ⟨by rw [hR]; exact Nat.le_of_ble_eq_true rfl, by rw [hR]; exact Nat.le_of_ble_eq_true rfl⟩ hN hS rfl hl.1 rfl (Nat.le_of_ble_eq_true rfl) dX11_duck_17 ⟨Nat.zero_le _, Nat.zero_le _⟩ (fun r11 locs hp hS => ?_)
        rcases hp with ⟨rfl, hp⟩ | ⟨rfl, hp⟩
        · skip
          try simp only [rg, not_and, Int.not_le] at hp
          have hp12 := hp
          refine lv_if_eq (tgt := 36) hx hb dX11_duck_20 (by decide) (fun c => absurd c (by decide)) (fun _ => ?_)
          refine lv_aload_n hx hb dX11_duck_23 rfl (lv_at hl 0 rfl) ?_
          obtain ⟨a13, a16, a18, a20, a22, a24, a26, a28, a30, a32, a34, w36, w37, w38, w39, hO, hq14, hq15, hq17, hq19, hq21, hq23, hq25, hq27, hq29, hq31, hq33, hq35⟩ := op_15 hI hG0 List.not_mem_nil
          have hI := th_I.weak (a := h0) hI
          have k40 : (nI (n % 401)).toInt = ((n % 401 : Nat) : Int) := nI_toInt (by omega)
          refine th_get hx hb hts inT11 hown hK hO rfl 7 (by decide) (hts _ (tb_c wd_352)) rfl rfl dX11_duck_24 ?_
          refine lv_iload_n hx hb dX11_duck_27 rfl (lv_at hl 1 rfl) ?_
          refine lv_iload_n hx hb dX11_duck_28 rfl (lv_at hl 2 rfl) ?_
          refine lv_iload_n hx hb dX11_duck_29 rfl (lv_at hl 3 rfl) ?_
          have hI := th_I.close hI hG0 hO (ok_15 hq14 hq15 hq17 hq19 hq21 hq23 hq25 hq27 hq29 hq31 hq33 hq35)
          refine th_cVi (As := [.int x1, .int x2, .int x3]) (rest := []) (n := 3) (d := 6) ⟨hx, hb, hml, hown, hts⟩ (c_X9_paddle l E D G a26 hq27 x1 x2 x3) wd_1098 wd_1099 wd_1100 wd_8 wd_1101 (by decide +kernel) ⟨by rw [hR]; exact Nat.le_of_ble_eq_true rfl, by rw [hR]; exact Nat.le_of_ble_eq_true rfl⟩ hI hN hK hS (rc_10 hI hq27 List.not_mem_nil) rfl rfl hl.1 rfl (Nat.le_of_ble_eq_true rfl) dX11_duck_30 ⟨Nat.zero_le _, Nat.zero_le _⟩ (fun r41 H locs hp hI hS => ?_)
          refine lv_goto (tgt := 37) hx hb dX11_duck_33 (by decide) ?_
          have hpost : True := trivial
          rw [hQ]
          exact W.iret (v := r41) hx hb hr (fun t ht hW => ⟨⟨r41, (), rfl, hpost, by rw [ht]; exact hI, hN.warm hW, va_K.moved hW.alike hK⟩, hS.F ht⟩) hS.2.2 dX11_duck_37
        · skip
          try simp only [rg, not_and, Int.not_le] at hp
          have hp42 := hp
          refine lv_if_eq (tgt := 36) hx hb dX11_duck_20 (by decide) (fun _ => ?_) (fun c => absurd c (by decide))
          refine lv_iconst (v := (-1)) hx hb dX11_duck_36 (by decide) ?_
          have hpost : True := trivial
          rw [hQ]
          exact W.iret (v := (-1)) hx hb hr (fun t ht hW => ⟨⟨(-1), (), rfl, hpost, by rw [ht]; exact hI, hN.warm hW, va_K.moved hW.alike hK⟩, hS.F ht⟩) hS.2.2 dX11_duck_37
  · skip
    try simp only [rg, not_and, Int.not_le] at hp
    have hp43 := hp
    refine lv_if_eq (tgt := 36) hx hb dX11_duck_4 (by decide) (fun _ => ?_) (fun c => absurd c (by decide))
    refine lv_iconst (v := (-1)) hx hb dX11_duck_36 (by decide) ?_
    have hpost : True := trivial
    rw [hQ]
    exact W.iret (v := (-1)) hx hb hr (fun t ht hW => ⟨⟨(-1), (), rfl, hpost, by rw [ht]; exact hI, hN.warm hW, va_K.moved hW.alike hK⟩, hS.F ht⟩) hS.2.2 dX11_duck_37
theorem dX11_matters_0 : decode cX11_matters 0 = .ok (.iload_n 1, 1) := by decide +kernel
theorem dX11_matters_1 : decode cX11_matters 1 = .ok (.invokestatic 106, 3) := by decide +kernel
theorem dX11_matters_4 : decode cX11_matters 4 = .ok (.ifCond .eq 17, 3) := by decide +kernel
theorem dX11_matters_7 : decode cX11_matters 7 = .ok (.iload_n 2, 1) := by decide +kernel
theorem dX11_matters_8 : decode cX11_matters 8 = .ok (.iload_n 3, 1) := by decide +kernel
theorem dX11_matters_9 : decode cX11_matters 9 = .ok (.invokestatic 134, 3) := by decide +kernel
theorem dX11_matters_12 : decode cX11_matters 12 = .ok (.ifCond .eq 9, 3) := by decide +kernel
theorem dX11_matters_15 : decode cX11_matters 15 = .ok (.iload 4, 2) := by decide +kernel
theorem dX11_matters_17 : decode cX11_matters 17 = .ok (.iconst (-1), 1) := by decide +kernel
theorem dX11_matters_18 : decode cX11_matters 18 = .ok (.if_icmp .ge 5, 3) := by decide +kernel
theorem dX11_matters_21 : decode cX11_matters 21 = .ok (.iconst (-1), 1) := by decide +kernel
theorem dX11_matters_22 : decode cX11_matters 22 = .ok (.ireturn, 1) := by decide +kernel
theorem dX11_matters_23 : decode cX11_matters 23 = .ok (.aload_n 0, 1) := by decide +kernel
theorem dX11_matters_24 : decode cX11_matters 24 = .ok (.getfield 51, 3) := by decide +kernel
theorem dX11_matters_27 : decode cX11_matters 27 = .ok (.iload_n 1, 1) := by decide +kernel
theorem dX11_matters_28 : decode cX11_matters 28 = .ok (.iload_n 2, 1) := by decide +kernel
theorem dX11_matters_29 : decode cX11_matters 29 = .ok (.iload_n 3, 1) := by decide +kernel
theorem dX11_matters_30 : decode cX11_matters 30 = .ok (.iload 4, 2) := by decide +kernel
theorem dX11_matters_32 : decode cX11_matters 32 = .ok (.invokevirtual 319, 3) := by decide +kernel
theorem dX11_matters_35 : decode cX11_matters 35 = .ok (.ireturn, 1) := by decide +kernel
set_option maxHeartbeats 4000000 in
set_option maxRecDepth 100000 in
theorem c_X11_matters (l : Launch) (E : Nat → ClassId) (D : va_G) (G : th_G) (h0 n : Nat) (hG0 : G h0 = some (15, n)) (x1 x2 x3 x4 : Int32) : Met l yX11_matters (tb (.code yX11_matters cX11_matters 5 (some .int))) (rm 7) (va_Pc [.ref h0, .int x1, .int x2, .int x3, .int x4] (th_P E D G)) (QI E D G (fun r => True)) 0 0 (th_A G) := by
  refine Met.ofW (cc := cX11_matters) (maxL := 5) (ret := (some .int)) (by decide) rfl ?_
  intro p e s m args below meth c s₁ B hml hv
  obtain ⟨hav, hI, hN, hK⟩ := hv
  have hx := B.exec
  have hb := B.bytes
  have hr := B.returns
  have hts := atoms_spec (ws := tb (.code yX11_matters cX11_matters 5 (some .int))) B.pre
  have hown : s.vm.findClass RX11 = some m.cls := findClass_of_methodNamed B.named
  have hlocks := B.notSynchronized
  have hS : va_S (th_A G) s.heap s.heap [] := va_S.rf
  have hl := lv_entry ([.ref h0, .int x1, .int x2, .int x3, .int x4]) (n := 5) (Nat.le_of_ble_eq_true rfl)
  rw [show entryFrame m args 5 = entryFrame m ([.ref h0, .int x1, .int x2, .int x3, .int x4] : List Value).toArray 5 from by rw [hav], lg_entry_eq]
  generalize (lg_sl ([.ref h0, .int x1, .int x2, .int x3, .int x4]) ++ List.replicate (5 - (lg_sl ([.ref h0, .int x1, .int x2, .int x3, .int x4])).length) Slot.unset).toArray = ls at hl ⊢
  have hl : lv_has ls 5 [(0, .ref h0), (1, .int x1), (2, .int x2), (3, .int x3), (4, .int x4)] := hl
  generalize hR : (headSpec (tb (.code yX11_matters cX11_matters 5 (some .int))) (rm 7)).room = R
  have hR := hR.symm
  generalize hQ : MQ below (QI E D G (fun r => True)) args s 0 0 (th_A G) = QF
  have hQ := hQ.symm
  have J_21 : ∀ (H : Heap) (locs : List Loc) (ls : Array Slot) , lv_has ls 5 [(0, .ref h0), (1, .int x1), (2, .int x2), (3, .int x3), (4, .int x4)] → th_I (okC E) D G [] H → va_S (th_A G) s.heap H locs → W p l e R s m args below meth c H locs 0 0 QF (F0 m 21 ls []) := by
    intro H locs ls  hl  hI hS
    refine lv_iconst (v := (-1)) hx hb dX11_matters_21 (by decide) ?_
    have hpost : True := trivial
    rw [hQ]
    exact W.iret (v := (-1)) hx hb hr (fun t ht hW => ⟨⟨(-1), (), rfl, hpost, by rw [ht]; exact hI, hN.warm hW, va_K.moved hW.alike hK⟩, hS.F ht⟩) hS.2.2 dX11_matters_22
  refine lv_iload_n hx hb dX11_matters_0 rfl (lv_at hl 1 rfl) ?_
  refine th_cSs (As := [.int x1]) (rest := []) (n := 1) (d := 0) ⟨hx, hb, hml, hown, hts⟩ (c_X11_isCell l s.heap x1) wd_401 wd_402 wd_1 wd_403 (by decide +kernel) ⟨by rw [hR]; exact Nat.le_of_ble_eq_true rfl, by rw [hR]; exact Nat.le_of_ble_eq_true rfl⟩ hN hS rfl hl.1 rfl (Nat.le_of_ble_eq_true rfl) dX11_matters_1 ⟨Nat.zero_le _, Nat.zero_le _⟩ (fun r321 locs hp hS => ?_)
  rcases hp with ⟨rfl, hp⟩ | ⟨rfl, hp⟩
  · skip
    try simp only [rg, not_and, Int.not_le] at hp
    have hp322 := hp
    refine lv_if_eq (tgt := 21) hx hb dX11_matters_4 (by decide) (fun c => absurd c (by decide)) (fun _ => ?_)
    refine lv_iload_n hx hb dX11_matters_7 rfl (lv_at hl 2 rfl) ?_
    refine lv_iload_n hx hb dX11_matters_8 rfl (lv_at hl 3 rfl) ?_
    refine th_cSs (As := [.int x2, .int x3]) (rest := []) (n := 2) (d := 1) ⟨hx, hb, hml, hown, hts⟩ (c_X11_isSpan l s.heap x2 x3) wd_463 wd_464 wd_1 wd_465 (by decide +kernel) ⟨by rw [hR]; exact Nat.le_of_ble_eq_true rfl, by rw [hR]; exact Nat.le_of_ble_eq_true rfl⟩ hN hS rfl hl.1 rfl (Nat.le_of_ble_eq_true rfl) dX11_matters_9 ⟨Nat.zero_le _, Nat.zero_le _⟩ (fun r323 locs hp hS => ?_)
    rcases hp with ⟨rfl, hp⟩ | ⟨rfl, hp⟩
    · skip
      try simp only [rg, not_and, Int.not_le] at hp
      have hp324 := hp
      refine lv_if_eq (tgt := 21) hx hb dX11_matters_12 (by decide) (fun c => absurd c (by decide)) (fun _ => ?_)
      refine lv_iload hx hb dX11_matters_15 (lv_at hl 4 rfl) ?_
      refine lv_iconst (v := (-1)) hx hb dX11_matters_17 (by decide) ?_
      have k325 := iv_lo x4
      have k326 := iv_hi x4
      refine lv_icmp_ge (tgt := 23) hx hb dX11_matters_18 (by decide) (fun c327 => ?_) (fun c327 => ?_)
      · skip
        have k328 := iv_le (X := (-1)) (Y := x4.toInt) (by decide) rfl c327
        refine lv_aload_n hx hb dX11_matters_23 rfl (lv_at hl 0 rfl) ?_
        obtain ⟨a329, a332, a334, a336, a338, a340, a342, a344, a346, a348, a350, w352, w353, w354, w355, hO, hq330, hq331, hq333, hq335, hq337, hq339, hq341, hq343, hq345, hq347, hq349, hq351⟩ := op_15 hI hG0 List.not_mem_nil
        have hI := th_I.weak (a := h0) hI
        have k356 : (nI (n % 401)).toInt = ((n % 401 : Nat) : Int) := nI_toInt (by omega)
        refine th_get hx hb hts inT11 hown hK hO rfl 7 (by decide) (hts _ (tb_c wd_352)) rfl rfl dX11_matters_24 ?_
        refine lv_iload_n hx hb dX11_matters_27 rfl (lv_at hl 1 rfl) ?_
        refine lv_iload_n hx hb dX11_matters_28 rfl (lv_at hl 2 rfl) ?_
        refine lv_iload_n hx hb dX11_matters_29 rfl (lv_at hl 3 rfl) ?_
        refine lv_iload hx hb dX11_matters_30 (lv_at hl 4 rfl) ?_
        have hI := th_I.close hI hG0 hO (ok_15 hq330 hq331 hq333 hq335 hq337 hq339 hq341 hq343 hq345 hq347 hq349 hq351)
        refine th_cVi (As := [.int x1, .int x2, .int x3, .int x4]) (rest := []) (n := 4) (d := 6) ⟨hx, hb, hml, hown, hts⟩ (c_X9_turningHours l E D G a342 hq343 x1 x2 x3 x4) wd_1109 wd_1110 wd_1111 wd_8 wd_1112 (by decide +kernel) ⟨by rw [hR]; exact Nat.le_of_ble_eq_true rfl, by rw [hR]; exact Nat.le_of_ble_eq_true rfl⟩ hI hN hK hS (rc_10 hI hq343 List.not_mem_nil) rfl rfl hl.1 rfl (Nat.le_of_ble_eq_true rfl) dX11_matters_32 ⟨Nat.zero_le _, Nat.zero_le _⟩ (fun r357 H locs hp hI hS => ?_)
        have hpost : True := trivial
        rw [hQ]
        exact W.iret (v := r357) hx hb hr (fun t ht hW => ⟨⟨r357, (), rfl, hpost, by rw [ht]; exact hI, hN.warm hW, va_K.moved hW.alike hK⟩, hS.F ht⟩) hS.2.2 dX11_matters_35
      · skip
        have k358 := iv_nle (X := (-1)) (Y := x4.toInt) (by decide) rfl c327
        exact J_21 s.heap locs ls  (lv_sub hl [0, 1, 2, 3, 4] rfl)  hI hS
    · skip
      try simp only [rg, not_and, Int.not_le] at hp
      have hp359 := hp
      refine lv_if_eq (tgt := 21) hx hb dX11_matters_12 (by decide) (fun _ => ?_) (fun c => absurd c (by decide))
      exact J_21 s.heap locs ls  (lv_sub hl [0, 1, 2, 3, 4] rfl)  hI hS
  · skip
    try simp only [rg, not_and, Int.not_le] at hp
    have hp360 := hp
    refine lv_if_eq (tgt := 21) hx hb dX11_matters_4 (by decide) (fun _ => ?_) (fun c => absurd c (by decide))
    exact J_21 s.heap locs ls  (lv_sub hl [0, 1, 2, 3, 4] rfl)  hI hS
theorem dX11_wish_0 : decode cX11_wish 0 = .ok (.iload_n 1, 1) := by decide +kernel
theorem dX11_wish_1 : decode cX11_wish 1 = .ok (.invokestatic 106, 3) := by decide +kernel
theorem dX11_wish_4 : decode cX11_wish 4 = .ok (.ifCond .eq 19, 3) := by decide +kernel
theorem dX11_wish_7 : decode cX11_wish 7 = .ok (.iload_n 3, 1) := by decide +kernel
theorem dX11_wish_8 : decode cX11_wish 8 = .ok (.invokestatic 240, 3) := by decide +kernel
theorem dX11_wish_11 : decode cX11_wish 11 = .ok (.ifCond .eq 12, 3) := by decide +kernel
theorem dX11_wish_14 : decode cX11_wish 14 = .ok (.iload_n 2, 1) := by decide +kernel
theorem dX11_wish_15 : decode cX11_wish 15 = .ok (.iload 4, 2) := by decide +kernel
theorem dX11_wish_17 : decode cX11_wish 17 = .ok (.invokestatic 134, 3) := by decide +kernel
theorem dX11_wish_20 : decode cX11_wish 20 = .ok (.ifCond .ne 9, 3) := by decide +kernel
theorem dX11_wish_23 : decode cX11_wish 23 = .ok (.aload_n 0, 1) := by decide +kernel
theorem dX11_wish_24 : decode cX11_wish 24 = .ok (.iconst (-1), 1) := by decide +kernel
theorem dX11_wish_25 : decode cX11_wish 25 = .ok (.invokevirtual 113, 3) := by decide +kernel
theorem dX11_wish_28 : decode cX11_wish 28 = .ok (.ireturn, 1) := by decide +kernel
theorem dX11_wish_29 : decode cX11_wish 29 = .ok (.aload_n 0, 1) := by decide +kernel
theorem dX11_wish_30 : decode cX11_wish 30 = .ok (.getfield 12, 3) := by decide +kernel
theorem dX11_wish_33 : decode cX11_wish 33 = .ok (.getfield 322, 3) := by decide +kernel
theorem dX11_wish_36 : decode cX11_wish 36 = .ok (.invokevirtual 149, 3) := by decide +kernel
theorem dX11_wish_39 : decode cX11_wish 39 = .ok (.ifCond .eq 10, 3) := by decide +kernel
theorem dX11_wish_42 : decode cX11_wish 42 = .ok (.aload_n 0, 1) := by decide +kernel
theorem dX11_wish_43 : decode cX11_wish 43 = .ok (.bipush (-5), 2) := by decide +kernel
theorem dX11_wish_45 : decode cX11_wish 45 = .ok (.invokevirtual 113, 3) := by decide +kernel
theorem dX11_wish_48 : decode cX11_wish 48 = .ok (.ireturn, 1) := by decide +kernel
theorem dX11_wish_49 : decode cX11_wish 49 = .ok (.aload_n 0, 1) := by decide +kernel
theorem dX11_wish_50 : decode cX11_wish 50 = .ok (.getfield 12, 3) := by decide +kernel
theorem dX11_wish_53 : decode cX11_wish 53 = .ok (.getfield 322, 3) := by decide +kernel
theorem dX11_wish_56 : decode cX11_wish 56 = .ok (.iload_n 1, 1) := by decide +kernel
theorem dX11_wish_57 : decode cX11_wish 57 = .ok (.iload_n 2, 1) := by decide +kernel
theorem dX11_wish_58 : decode cX11_wish 58 = .ok (.iload_n 3, 1) := by decide +kernel
theorem dX11_wish_59 : decode cX11_wish 59 = .ok (.iload 4, 2) := by decide +kernel
theorem dX11_wish_61 : decode cX11_wish 61 = .ok (.invokevirtual 155, 3) := by decide +kernel
theorem dX11_wish_64 : decode cX11_wish 64 = .ok (.pop, 1) := by decide +kernel
theorem dX11_wish_65 : decode cX11_wish 65 = .ok (.aload_n 0, 1) := by decide +kernel
theorem dX11_wish_66 : decode cX11_wish 66 = .ok (.invokevirtual 191, 3) := by decide +kernel
theorem dX11_wish_69 : decode cX11_wish 69 = .ok (.aload_n 0, 1) := by decide +kernel
theorem dX11_wish_70 : decode cX11_wish 70 = .ok (.aload_n 0, 1) := by decide +kernel
theorem dX11_wish_71 : decode cX11_wish 71 = .ok (.getfield 12, 3) := by decide +kernel
theorem dX11_wish_74 : decode cX11_wish 74 = .ok (.getfield 322, 3) := by decide +kernel
theorem dX11_wish_77 : decode cX11_wish 77 = .ok (.invokevirtual 166, 3) := by decide +kernel
theorem dX11_wish_80 : decode cX11_wish 80 = .ok (.invokevirtual 127, 3) := by decide +kernel
theorem dX11_wish_83 : decode cX11_wish 83 = .ok (.ireturn, 1) := by decide +kernel
set_option maxHeartbeats 4000000 in
set_option maxRecDepth 100000 in
theorem c_X11_wish (l : Launch) (E : Nat → ClassId) (D : va_G) (G : th_G) (h0 n : Nat) (hG0 : G h0 = some (15, n)) (x1 x2 x3 x4 : Int32) : Met l yX11_wish (tb (.code yX11_wish cX11_wish 5 (some .int))) (rm 2) (va_Pc [.ref h0, .int x1, .int x2, .int x3, .int x4] (th_P E D G)) (QI E D G (fun r => True)) 0 0 (th_A G) := by
  refine Met.ofW (cc := cX11_wish) (maxL := 5) (ret := (some .int)) (by decide) rfl ?_
  intro p e s m args below meth c s₁ B hml hv
  obtain ⟨hav, hI, hN, hK⟩ := hv
  have hx := B.exec
  have hb := B.bytes
  have hr := B.returns
  have hts := atoms_spec (ws := tb (.code yX11_wish cX11_wish 5 (some .int))) B.pre
  have hown : s.vm.findClass RX11 = some m.cls := findClass_of_methodNamed B.named
  have hlocks := B.notSynchronized
  have hS : va_S (th_A G) s.heap s.heap [] := va_S.rf
  have hl := lv_entry ([.ref h0, .int x1, .int x2, .int x3, .int x4]) (n := 5) (Nat.le_of_ble_eq_true rfl)
  rw [show entryFrame m args 5 = entryFrame m ([.ref h0, .int x1, .int x2, .int x3, .int x4] : List Value).toArray 5 from by rw [hav], lg_entry_eq]
  generalize (lg_sl ([.ref h0, .int x1, .int x2, .int x3, .int x4]) ++ List.replicate (5 - (lg_sl ([.ref h0, .int x1, .int x2, .int x3, .int x4])).length) Slot.unset).toArray = ls at hl ⊢
  have hl : lv_has ls 5 [(0, .ref h0), (1, .int x1), (2, .int x2), (3, .int x3), (4, .int x4)] := hl
  generalize hR : (headSpec (tb (.code yX11_wish cX11_wish 5 (some .int))) (rm 2)).room = R
  have hR := hR.symm
  generalize hQ : MQ below (QI E D G (fun r => True)) args s 0 0 (th_A G) = QF
  have hQ := hQ.symm
  have J_23 : ∀ (H : Heap) (locs : List Loc) (ls : Array Slot) , lv_has ls 5 [(0, .ref h0), (1, .int x1), (2, .int x2), (3, .int x3), (4, .int x4)] → th_I (okC E) D G [] H → va_S (th_A G) s.heap H locs → W p l e R s m args below meth c H locs 0 0 QF (F0 m 23 ls []) := by
    intro H locs ls  hl  hI hS
    refine lv_aload_n hx hb dX11_wish_23 rfl (lv_at hl 0 rfl) ?_
    refine lv_iconst (v := (-1)) hx hb dX11_wish_24 (by decide) ?_
    refine th_cVi (As := [.int (-1)]) (rest := []) (n := 1) (d := 0) ⟨hx, hb, hml, hown, hts⟩ (c_X11_refuse l E D G h0 (n) hG0 (-1)) wd_407 wd_409 wp_0 wd_1 wd_410 (by decide +kernel) ⟨by rw [hR]; exact Nat.le_of_ble_eq_true rfl, by rw [hR]; exact Nat.le_of_ble_eq_true rfl⟩ hI hN hK hS (rc_15 hI hG0 List.not_mem_nil) rfl rfl hl.1 rfl (Nat.le_of_ble_eq_true rfl) dX11_wish_25 ⟨Nat.zero_le _, Nat.zero_le _⟩ (fun r1552 H locs hp hI hS => ?_)
    have hp := hp.symm
    subst hp
    have hpost : True := trivial
    rw [hQ]
    exact W.iret (v := (-1)) hx hb hr (fun t ht hW => ⟨⟨(-1), (), rfl, hpost, by rw [ht]; exact hI, hN.warm hW, va_K.moved hW.alike hK⟩, hS.F ht⟩) hS.2.2 dX11_wish_28
  refine lv_iload_n hx hb dX11_wish_0 rfl (lv_at hl 1 rfl) ?_
  refine th_cSs (As := [.int x1]) (rest := []) (n := 1) (d := 0) ⟨hx, hb, hml, hown, hts⟩ (c_X11_isCell l s.heap x1) wd_401 wd_402 wd_1 wd_403 (by decide +kernel) ⟨by rw [hR]; exact Nat.le_of_ble_eq_true rfl, by rw [hR]; exact Nat.le_of_ble_eq_true rfl⟩ hN hS rfl hl.1 rfl (Nat.le_of_ble_eq_true rfl) dX11_wish_1 ⟨Nat.zero_le _, Nat.zero_le _⟩ (fun r1553 locs hp hS => ?_)
  rcases hp with ⟨rfl, hp⟩ | ⟨rfl, hp⟩
  · skip
    try simp only [rg, not_and, Int.not_le] at hp
    have hp1554 := hp
    refine lv_if_eq (tgt := 23) hx hb dX11_wish_4 (by decide) (fun c => absurd c (by decide)) (fun _ => ?_)
    refine lv_iload_n hx hb dX11_wish_7 rfl (lv_at hl 3 rfl) ?_
    refine th_cSs (As := [.int x3]) (rest := []) (n := 1) (d := 0) ⟨hx, hb, hml, hown, hts⟩ (c_X11_isPlace l s.heap x3) wd_847 wd_848 wd_1 wd_849 (by decide +kernel) ⟨by rw [hR]; exact Nat.le_of_ble_eq_true rfl, by rw [hR]; exact Nat.le_of_ble_eq_true rfl⟩ hN hS rfl hl.1 rfl (Nat.le_of_ble_eq_true rfl) dX11_wish_8 ⟨Nat.zero_le _, Nat.zero_le _⟩ (fun r1555 locs hp hS => ?_)
    rcases hp with ⟨rfl, hp⟩ | ⟨rfl, hp⟩
    · skip
      try simp only [rg, not_and, Int.not_le] at hp
      have hp1556 := hp
      refine lv_if_eq (tgt := 23) hx hb dX11_wish_11 (by decide) (fun c => absurd c (by decide)) (fun _ => ?_)
      refine lv_iload_n hx hb dX11_wish_14 rfl (lv_at hl 2 rfl) ?_
      refine lv_iload hx hb dX11_wish_15 (lv_at hl 4 rfl) ?_
      refine th_cSs (As := [.int x2, .int x4]) (rest := []) (n := 2) (d := 1) ⟨hx, hb, hml, hown, hts⟩ (c_X11_isSpan l s.heap x2 x4) wd_463 wd_464 wd_1 wd_465 (by decide +kernel) ⟨by rw [hR]; exact Nat.le_of_ble_eq_true rfl, by rw [hR]; exact Nat.le_of_ble_eq_true rfl⟩ hN hS rfl hl.1 rfl (Nat.le_of_ble_eq_true rfl) dX11_wish_17 ⟨Nat.zero_le _, Nat.zero_le _⟩ (fun r1557 locs hp hS => ?_)
      rcases hp with ⟨rfl, hp⟩ | ⟨rfl, hp⟩
      · skip
        try simp only [rg, not_and, Int.not_le] at hp
        have hp1558 := hp
        refine lv_if_ne (tgt := 29) hx hb dX11_wish_20 (by decide) (fun _ => ?_) (fun c => absurd c (by decide))
        refine lv_aload_n hx hb dX11_wish_29 rfl (lv_at hl 0 rfl) ?_
        obtain ⟨a1559, a1562, a1564, a1566, a1568, a1570, a1572, a1574, a1576, a1578, a1580, w1582, w1583, w1584, w1585, hO, hq1560, hq1561, hq1563, hq1565, hq1567, hq1569, hq1571, hq1573, hq1575, hq1577, hq1579, hq1581⟩ := op_15 hI hG0 List.not_mem_nil
        have hI := th_I.weak (a := h0) hI
        have k1586 : (nI (n % 401)).toInt = ((n % 401 : Nat) : Int) := nI_toInt (by omega)
        refine th_get hx hb hts inT11 hown hK hO rfl 0 (by decide) (hts _ (tb_c wd_345)) rfl rfl dX11_wish_30 ?_
        have hI := th_I.close hI hG0 hO (ok_15 hq1560 hq1561 hq1563 hq1565 hq1567 hq1569 hq1571 hq1573 hq1575 hq1577 hq1579 hq1581)
        obtain ⟨a1587, a1589, a1591, a1593, a1595, a1597, a1599, a1601, a1603, a1605, w1607, w1610, w1611, w1612, hO, hq1588, hq1590, hq1592, hq1594, hq1596, hq1598, hq1600, hq1602, hq1604, hq1606, ⟨k1608, k1609⟩⟩ := op_6 hI hq1560 List.not_mem_nil
        have hI := th_I.weak (a := a1559) hI
        refine th_getN hx hb hts inT6 hown hK hN hO rfl 8 (by decide) wn_80 rfl rfl dX11_wish_33 ?_
        have hI := th_I.close hI hq1560 hO (ok_6 hq1588 hq1590 hq1592 hq1594 hq1596 hq1598 hq1600 hq1602 hq1604 hq1606 ⟨by omega, by omega⟩)
        obtain ⟨a1614, w1616, hO, hq1615, ⟨k1617, k1618⟩, k1619⟩ := op_4 hI hq1604 List.not_mem_nil
        have hI := th_I.weak (a := a1603) hI
        have k1620 : (nI 6).toInt = ((6 : Nat) : Int) := nI_toInt (by omega)
        refine th_cVs (As := []) (rest := []) (n := 0) (d := 0) ⟨hx, hb, hml, hown, hts⟩ (c_X4_isFull l E D s.heap a1603 6 a1614 w1616 hO (by omega) (by omega) (by omega)) wd_481 wd_482 wd_483 wd_3 wd_484 (by decide +kernel) ⟨by rw [hR]; exact Nat.le_of_ble_eq_true rfl, by rw [hR]; exact Nat.le_of_ble_eq_true rfl⟩ hN hK hS ⟨_, hO⟩ rfl rfl hl.1 rfl (Nat.le_of_ble_eq_true rfl) dX11_wish_36 ⟨Nat.zero_le _, Nat.zero_le _⟩ (fun r1613 locs hp hS => ?_)
        rcases hp with ⟨rfl, hp⟩ | ⟨rfl, hp⟩
        · skip
          try simp only [rg, not_and, Int.not_le] at hp
          have hp1621 := hp
          refine lv_if_eq (tgt := 49) hx hb dX11_wish_39 (by decide) (fun c => absurd c (by decide)) (fun _ => ?_)
          refine lv_aload_n hx hb dX11_wish_42 rfl (lv_at hl 0 rfl) ?_
          refine lv_bipush (v := (-5)) hx hb dX11_wish_43 (by decide) ?_
          have hI := th_I.close hI hq1604 hO (ok_4 hq1615 ⟨by omega, by omega⟩ (by omega))
          refine th_cVi (As := [.int (-5)]) (rest := []) (n := 1) (d := 0) ⟨hx, hb, hml, hown, hts⟩ (c_X11_refuse l E D G h0 (n) hG0 (-5)) wd_407 wd_409 wp_0 wd_1 wd_410 (by decide +kernel) ⟨by rw [hR]; exact Nat.le_of_ble_eq_true rfl, by rw [hR]; exact Nat.le_of_ble_eq_true rfl⟩ hI hN hK hS (rc_15 hI hG0 List.not_mem_nil) rfl rfl hl.1 rfl (Nat.le_of_ble_eq_true rfl) dX11_wish_45 ⟨Nat.zero_le _, Nat.zero_le _⟩ (fun r1622 H locs hp hI hS => ?_)
          have hp := hp.symm
          subst hp
          have hpost : True := trivial
          rw [hQ]
          exact W.iret (v := (-5)) hx hb hr (fun t ht hW => ⟨⟨(-5), (), rfl, hpost, by rw [ht]; exact hI, hN.warm hW, va_K.moved hW.alike hK⟩, hS.F ht⟩) hS.2.2 dX11_wish_48
        · skip
          have hp1623 := hp
          refine lv_if_eq (tgt := 49) hx hb dX11_wish_39 (by decide) (fun _ => ?_) (fun c => absurd c (by decide))
          refine lv_aload_n hx hb dX11_wish_49 rfl (lv_at hl 0 rfl) ?_
          have hI := th_I.close hI hq1604 hO (ok_4 hq1615 ⟨by omega, by omega⟩ (by omega))
          obtain ⟨a1624, a1627, a1629, a1631, a1633, a1635, a1637, a1639, a1641, a1643, a1645, w1647, w1648, w1649, w1650, hO, hq1625, hq1626, hq1628, hq1630, hq1632, hq1634, hq1636, hq1638, hq1640, hq1642, hq1644, hq1646⟩ := op_15 hI hG0 List.not_mem_nil
          have hI := th_I.weak (a := h0) hI
          have k1651 : (nI (n % 401)).toInt = ((n % 401 : Nat) : Int) := nI_toInt (by omega)
          refine th_get hx hb hts inT11 hown hK hO rfl 0 (by decide) (hts _ (tb_c wd_345)) rfl rfl dX11_wish_50 ?_
          have hI := th_I.close hI hG0 hO (ok_15 hq1625 hq1626 hq1628 hq1630 hq1632 hq1634 hq1636 hq1638 hq1640 hq1642 hq1644 hq1646)
          obtain ⟨a1652, a1654, a1656, a1658, a1660, a1662, a1664, a1666, a1668, a1670, w1672, w1675, w1676, w1677, hO, hq1653, hq1655, hq1657, hq1659, hq1661, hq1663, hq1665, hq1667, hq1669, hq1671, ⟨k1673, k1674⟩⟩ := op_6 hI hq1625 List.not_mem_nil
          have hI := th_I.weak (a := a1624) hI
          refine th_getN hx hb hts inT6 hown hK hN hO rfl 8 (by decide) wn_80 rfl rfl dX11_wish_53 ?_
          refine lv_iload_n hx hb dX11_wish_56 rfl (lv_at hl 1 rfl) ?_
          refine lv_iload_n hx hb dX11_wish_57 rfl (lv_at hl 2 rfl) ?_
          refine lv_iload_n hx hb dX11_wish_58 rfl (lv_at hl 3 rfl) ?_
          refine lv_iload hx hb dX11_wish_59 (lv_at hl 4 rfl) ?_
          have hI := th_I.close hI hq1625 hO (ok_6 hq1653 hq1655 hq1657 hq1659 hq1661 hq1663 hq1665 hq1667 hq1669 hq1671 ⟨by omega, by omega⟩)
          refine th_cVi (As := [.int x1, .int x2, .int x3, .int x4]) (rest := []) (n := 4) (d := 1) ⟨hx, hb, hml, hown, hts⟩ (c_X4_put l E D G a1668 (6) hq1669 x1 x2 x3 x4) wd_485 wd_486 wd_487 wd_3 wd_488 (by decide +kernel) ⟨by rw [hR]; exact Nat.le_of_ble_eq_true rfl, by rw [hR]; exact Nat.le_of_ble_eq_true rfl⟩ hI hN hK hS (rc_4 hI hq1669 List.not_mem_nil) rfl rfl hl.1 rfl (Nat.le_of_ble_eq_true rfl) dX11_wish_61 ⟨Nat.zero_le _, Nat.zero_le _⟩ (fun r1678 H locs hp hI hS => ?_)
          refine lv_pop hx hb dX11_wish_64 rfl ?_
          refine lv_aload_n hx hb dX11_wish_65 rfl (lv_at hl 0 rfl) ?_
          refine th_cVv (As := []) (rest := []) (n := 0) (d := 1) ⟨hx, hb, hml, hown, hts⟩ (c_X11_turnLists l E D G h0 (n) hG0 ) wd_431 wd_433 wp_2 wd_1 wd_434 (by decide +kernel) ⟨by rw [hR]; exact Nat.le_of_ble_eq_true rfl, by rw [hR]; exact Nat.le_of_ble_eq_true rfl⟩ hI hN hK hS (rc_15 hI hG0 List.not_mem_nil) rfl rfl hl.1 rfl (Nat.le_of_ble_eq_true rfl) dX11_wish_66 ⟨Nat.zero_le _, Nat.zero_le _⟩ (fun H locs hI hS => ?_)
          refine lv_aload_n hx hb dX11_wish_69 rfl (lv_at hl 0 rfl) ?_
          refine lv_aload_n hx hb dX11_wish_70 rfl (lv_at hl 0 rfl) ?_
          obtain ⟨a1680, a1683, a1685, a1687, a1689, a1691, a1693, a1695, a1697, a1699, a1701, w1703, w1704, w1705, w1706, hO, hq1681, hq1682, hq1684, hq1686, hq1688, hq1690, hq1692, hq1694, hq1696, hq1698, hq1700, hq1702⟩ := op_15 hI hG0 List.not_mem_nil
          have hI := th_I.weak (a := h0) hI
          have k1707 : (nI (n % 401)).toInt = ((n % 401 : Nat) : Int) := nI_toInt (by omega)
          refine th_get hx hb hts inT11 hown hK hO rfl 0 (by decide) (hts _ (tb_c wd_345)) rfl rfl dX11_wish_71 ?_
          have hI := th_I.close hI hG0 hO (ok_15 hq1681 hq1682 hq1684 hq1686 hq1688 hq1690 hq1692 hq1694 hq1696 hq1698 hq1700 hq1702)
          obtain ⟨a1708, a1710, a1712, a1714, a1716, a1718, a1720, a1722, a1724, a1726, w1728, w1731, w1732, w1733, hO, hq1709, hq1711, hq1713, hq1715, hq1717, hq1719, hq1721, hq1723, hq1725, hq1727, ⟨k1729, k1730⟩⟩ := op_6 hI hq1681 List.not_mem_nil
          have hI := th_I.weak (a := a1680) hI
          refine th_getN hx hb hts inT6 hown hK hN hO rfl 8 (by decide) wn_80 rfl rfl dX11_wish_74 ?_
          have hI := th_I.close hI hq1681 hO (ok_6 hq1709 hq1711 hq1713 hq1715 hq1717 hq1719 hq1721 hq1723 hq1725 hq1727 ⟨by omega, by omega⟩)
          obtain ⟨a1735, w1737, hO, hq1736, ⟨k1738, k1739⟩, k1740⟩ := op_4 hI hq1725 List.not_mem_nil
          have hI := th_I.weak (a := a1724) hI
          have k1741 : (nI 6).toInt = ((6 : Nat) : Int) := nI_toInt (by omega)
          refine th_cVs (As := []) (rest := [.ref h0]) (n := 0) (d := 0) ⟨hx, hb, hml, hown, hts⟩ (c_X4_size l E D H a1724 6 a1735 w1737 hO (by omega) (by omega) (by omega)) wd_506 wd_507 wd_508 wd_3 wd_509 (by decide +kernel) ⟨by rw [hR]; exact Nat.le_of_ble_eq_true rfl, by rw [hR]; exact Nat.le_of_ble_eq_true rfl⟩ hN hK hS ⟨_, hO⟩ rfl rfl hl.1 rfl (Nat.le_of_ble_eq_true rfl) dX11_wish_77 ⟨Nat.zero_le _, Nat.zero_le _⟩ (fun r1734 locs hp hS => ?_)
          have hp := hp.symm
          subst hp
          have hI := th_I.close hI hq1725 hO (ok_4 hq1736 ⟨by omega, by omega⟩ (by omega))
          refine th_cVi (As := [.int w1737]) (rest := []) (n := 1) (d := 0) ⟨hx, hb, hml, hown, hts⟩ (c_X11_accept l E D G h0 (n) hG0 w1737) wd_447 wd_449 wp_3 wd_1 wd_450 (by decide +kernel) ⟨by rw [hR]; exact Nat.le_of_ble_eq_true rfl, by rw [hR]; exact Nat.le_of_ble_eq_true rfl⟩ hI hN hK hS (rc_15 hI hG0 List.not_mem_nil) rfl rfl hl.1 rfl (Nat.le_of_ble_eq_true rfl) dX11_wish_80 ⟨Nat.zero_le _, Nat.zero_le _⟩ (fun r1742 H locs hp hI hS => ?_)
          have hp := hp.symm
          subst hp
          have hpost : True := trivial
          rw [hQ]
          exact W.iret (v := w1737) hx hb hr (fun t ht hW => ⟨⟨w1737, (), rfl, hpost, by rw [ht]; exact hI, hN.warm hW, va_K.moved hW.alike hK⟩, hS.F ht⟩) hS.2.2 dX11_wish_83
      · skip
        try simp only [rg, not_and, Int.not_le] at hp
        have hp1743 := hp
        refine lv_if_ne (tgt := 29) hx hb dX11_wish_20 (by decide) (fun c => absurd c (by decide)) (fun _ => ?_)
        exact J_23 s.heap locs ls  (lv_sub hl [0, 1, 2, 3, 4] rfl)  hI hS
    · skip
      try simp only [rg, not_and, Int.not_le] at hp
      have hp1744 := hp
      refine lv_if_eq (tgt := 23) hx hb dX11_wish_11 (by decide) (fun _ => ?_) (fun c => absurd c (by decide))
      exact J_23 s.heap locs ls  (lv_sub hl [0, 1, 2, 3, 4] rfl)  hI hS
  · skip
    try simp only [rg, not_and, Int.not_le] at hp
    have hp1745 := hp
    refine lv_if_eq (tgt := 23) hx hb dX11_wish_4 (by decide) (fun _ => ?_) (fun c => absurd c (by decide))
    exact J_23 s.heap locs ls  (lv_sub hl [0, 1, 2, 3, 4] rfl)  hI hS
theorem dX11_drop_0 : decode cX11_drop 0 = .ok (.aload_n 0, 1) := by decide +kernel
theorem dX11_drop_1 : decode cX11_drop 1 = .ok (.invokevirtual 191, 3) := by decide +kernel
theorem dX11_drop_4 : decode cX11_drop 4 = .ok (.aload_n 0, 1) := by decide +kernel
theorem dX11_drop_5 : decode cX11_drop 5 = .ok (.getfield 12, 3) := by decide +kernel
theorem dX11_drop_8 : decode cX11_drop 8 = .ok (.getfield 322, 3) := by decide +kernel
theorem dX11_drop_11 : decode cX11_drop 11 = .ok (.invokevirtual 295, 3) := by decide +kernel
theorem dX11_drop_14 : decode cX11_drop 14 = .ok (.ireturn, 1) := by decide +kernel
set_option maxHeartbeats 4000000 in
set_option maxRecDepth 100000 in
theorem c_X11_drop (l : Launch) (E : Nat → ClassId) (D : va_G) (G : th_G) (h0 n : Nat) (hG0 : G h0 = some (15, n)) : Met l yX11_drop (tb (.code yX11_drop cX11_drop 1 (some .int))) (rm 2) (va_Pc [.ref h0] (th_P E D G)) (QI E D G (fun r => True)) 0 0 (th_A G) := by
  refine Met.ofW (cc := cX11_drop) (maxL := 1) (ret := (some .int)) (by decide) rfl ?_
  intro p e s m args below meth c s₁ B hml hv
  obtain ⟨hav, hI, hN, hK⟩ := hv
  have hx := B.exec
  have hb := B.bytes
  have hr := B.returns
  have hts := atoms_spec (ws := tb (.code yX11_drop cX11_drop 1 (some .int))) B.pre
  have hown : s.vm.findClass RX11 = some m.cls := findClass_of_methodNamed B.named
  have hlocks := B.notSynchronized
  have hS : va_S (th_A G) s.heap s.heap [] := va_S.rf
  have hl := lv_entry ([.ref h0]) (n := 1) (Nat.le_of_ble_eq_true rfl)
  rw [show entryFrame m args 1 = entryFrame m ([.ref h0] : List Value).toArray 1 from by rw [hav], lg_entry_eq]
  generalize (lg_sl ([.ref h0]) ++ List.replicate (1 - (lg_sl ([.ref h0])).length) Slot.unset).toArray = ls at hl ⊢
  have hl : lv_has ls 1 [(0, .ref h0)] := hl
  generalize hR : (headSpec (tb (.code yX11_drop cX11_drop 1 (some .int))) (rm 2)).room = R
  have hR := hR.symm
  generalize hQ : MQ below (QI E D G (fun r => True)) args s 0 0 (th_A G) = QF
  have hQ := hQ.symm
  refine lv_aload_n hx hb dX11_drop_0 rfl (lv_at hl 0 rfl) ?_
  refine th_cVv (As := []) (rest := []) (n := 0) (d := 1) ⟨hx, hb, hml, hown, hts⟩ (c_X11_turnLists l E D G h0 (n) hG0 ) wd_431 wd_433 wp_2 wd_1 wd_434 (by decide +kernel) ⟨by rw [hR]; exact Nat.le_of_ble_eq_true rfl, by rw [hR]; exact Nat.le_of_ble_eq_true rfl⟩ hI hN hK hS (rc_15 hI hG0 List.not_mem_nil) rfl rfl hl.1 rfl (Nat.le_of_ble_eq_true rfl) dX11_drop_1 ⟨Nat.zero_le _, Nat.zero_le _⟩ (fun H locs hI hS => ?_)
  refine lv_aload_n hx hb dX11_drop_4 rfl (lv_at hl 0 rfl) ?_
  obtain ⟨a2, a5, a7, a9, a11, a13, a15, a17, a19, a21, a23, w25, w26, w27, w28, hO, hq3, hq4, hq6, hq8, hq10, hq12, hq14, hq16, hq18, hq20, hq22, hq24⟩ := op_15 hI hG0 List.not_mem_nil
  have hI := th_I.weak (a := h0) hI
  have k29 : (nI (n % 401)).toInt = ((n % 401 : Nat) : Int) := nI_toInt (by omega)
  refine th_get hx hb hts inT11 hown hK hO rfl 0 (by decide) (hts _ (tb_c wd_345)) rfl rfl dX11_drop_5 ?_
  have hI := th_I.close hI hG0 hO (ok_15 hq3 hq4 hq6 hq8 hq10 hq12 hq14 hq16 hq18 hq20 hq22 hq24)
  obtain ⟨a30, a32, a34, a36, a38, a40, a42, a44, a46, a48, w50, w53, w54, w55, hO, hq31, hq33, hq35, hq37, hq39, hq41, hq43, hq45, hq47, hq49, ⟨k51, k52⟩⟩ := op_6 hI hq3 List.not_mem_nil
  have hI := th_I.weak (a := a2) hI
  refine th_getN hx hb hts inT6 hown hK hN hO rfl 8 (by decide) wn_80 rfl rfl dX11_drop_8 ?_
  have hI := th_I.close hI hq3 hO (ok_6 hq31 hq33 hq35 hq37 hq39 hq41 hq43 hq45 hq47 hq49 ⟨by omega, by omega⟩)
  refine th_cVi (As := []) (rest := []) (n := 0) (d := 0) ⟨hx, hb, hml, hown, hts⟩ (c_X4_clear l E D G a46 (6) hq47 ) wd_983 wd_984 wd_985 wd_3 wd_986 (by decide +kernel) ⟨by rw [hR]; exact Nat.le_of_ble_eq_true rfl, by rw [hR]; exact Nat.le_of_ble_eq_true rfl⟩ hI hN hK hS (rc_4 hI hq47 List.not_mem_nil) rfl rfl hl.1 rfl (Nat.le_of_ble_eq_true rfl) dX11_drop_11 ⟨Nat.zero_le _, Nat.zero_le _⟩ (fun r56 H locs hp hI hS => ?_)
  have hpost : True := trivial
  rw [hQ]
  exact W.iret (v := r56) hx hb hr (fun t ht hW => ⟨⟨r56, (), rfl, hpost, by rw [ht]; exact hI, hN.warm hW, va_K.moved hW.alike hK⟩, hS.F ht⟩) hS.2.2 dX11_drop_14
theorem dX11_granted_0 : decode cX11_granted 0 = .ok (.aload_n 0, 1) := by decide +kernel
theorem dX11_granted_1 : decode cX11_granted 1 = .ok (.getfield 85, 3) := by decide +kernel
theorem dX11_granted_4 : decode cX11_granted 4 = .ok (.invokevirtual 325, 3) := by decide +kernel
theorem dX11_granted_7 : decode cX11_granted 7 = .ok (.ireturn, 1) := by decide +kernel
set_option maxHeartbeats 4000000 in
set_option maxRecDepth 100000 in
theorem c_X11_granted (l : Launch) (E : Nat → ClassId) (D : va_G) (G : th_G) (h0 n : Nat) (hG0 : G h0 = some (15, n)) : Met l yX11_granted (tb (.code yX11_granted cX11_granted 1 (some .int))) (rm 7) (va_Pc [.ref h0] (th_P E D G)) (QI E D G (fun r => True)) 0 0 (th_A G) := by
  refine Met.ofW (cc := cX11_granted) (maxL := 1) (ret := (some .int)) (by decide) rfl ?_
  intro p e s m args below meth c s₁ B hml hv
  obtain ⟨hav, hI, hN, hK⟩ := hv
  have hx := B.exec
  have hb := B.bytes
  have hr := B.returns
  have hts := atoms_spec (ws := tb (.code yX11_granted cX11_granted 1 (some .int))) B.pre
  have hown : s.vm.findClass RX11 = some m.cls := findClass_of_methodNamed B.named
  have hlocks := B.notSynchronized
  have hS : va_S (th_A G) s.heap s.heap [] := va_S.rf
  have hl := lv_entry ([.ref h0]) (n := 1) (Nat.le_of_ble_eq_true rfl)
  rw [show entryFrame m args 1 = entryFrame m ([.ref h0] : List Value).toArray 1 from by rw [hav], lg_entry_eq]
  generalize (lg_sl ([.ref h0]) ++ List.replicate (1 - (lg_sl ([.ref h0])).length) Slot.unset).toArray = ls at hl ⊢
  have hl : lv_has ls 1 [(0, .ref h0)] := hl
  generalize hR : (headSpec (tb (.code yX11_granted cX11_granted 1 (some .int))) (rm 7)).room = R
  have hR := hR.symm
  generalize hQ : MQ below (QI E D G (fun r => True)) args s 0 0 (th_A G) = QF
  have hQ := hQ.symm
  refine lv_aload_n hx hb dX11_granted_0 rfl (lv_at hl 0 rfl) ?_
  obtain ⟨a1, a4, a6, a8, a10, a12, a14, a16, a18, a20, a22, w24, w25, w26, w27, hO, hq2, hq3, hq5, hq7, hq9, hq11, hq13, hq15, hq17, hq19, hq21, hq23⟩ := op_15 hI hG0 List.not_mem_nil
  have hI := th_I.weak (a := h0) hI
  have k28 : (nI (n % 401)).toInt = ((n % 401 : Nat) : Int) := nI_toInt (by omega)
  refine th_get hx hb hts inT11 hown hK hO rfl 11 (by decide) (hts _ (tb_c wd_356)) rfl rfl dX11_granted_1 ?_
  have hI := th_I.close hI hG0 hO (ok_15 hq2 hq3 hq5 hq7 hq9 hq11 hq13 hq15 hq17 hq19 hq21 hq23)
  refine th_cVi (As := []) (rest := []) (n := 0) (d := 6) ⟨hx, hb, hml, hown, hts⟩ (c_X10_grantedNow l E D G a22 hq23 ) wd_1134 wd_1135 wd_1136 wd_12 wd_1137 (by decide +kernel) ⟨by rw [hR]; exact Nat.le_of_ble_eq_true rfl, by rw [hR]; exact Nat.le_of_ble_eq_true rfl⟩ hI hN hK hS (rc_14 hI hq23 List.not_mem_nil) rfl rfl hl.1 rfl (Nat.le_of_ble_eq_true rfl) dX11_granted_4 ⟨Nat.zero_le _, Nat.zero_le _⟩ (fun r29 H locs hp hI hS => ?_)
  have hpost : True := trivial
  rw [hQ]
  exact W.iret (v := r29) hx hb hr (fun t ht hW => ⟨⟨r29, (), rfl, hpost, by rw [ht]; exact hI, hN.warm hW, va_K.moved hW.alike hK⟩, hS.F ht⟩) hS.2.2 dX11_granted_7
theorem dX11_best_0 : decode cX11_best 0 = .ok (.iload_n 1, 1) := by decide +kernel
theorem dX11_best_1 : decode cX11_best 1 = .ok (.invokestatic 117, 3) := by decide +kernel
theorem dX11_best_4 : decode cX11_best 4 = .ok (.ifCond .ne 5, 3) := by decide +kernel
theorem dX11_best_7 : decode cX11_best 7 = .ok (.iconst (-1), 1) := by decide +kernel
theorem dX11_best_8 : decode cX11_best 8 = .ok (.ireturn, 1) := by decide +kernel
theorem dX11_best_9 : decode cX11_best 9 = .ok (.aload_n 0, 1) := by decide +kernel
theorem dX11_best_10 : decode cX11_best 10 = .ok (.getfield 85, 3) := by decide +kernel
theorem dX11_best_13 : decode cX11_best 13 = .ok (.iload_n 1, 1) := by decide +kernel
theorem dX11_best_14 : decode cX11_best 14 = .ok (.invokevirtual 328, 3) := by decide +kernel
theorem dX11_best_17 : decode cX11_best 17 = .ok (.aload_n 0, 1) := by decide +kernel
theorem dX11_best_18 : decode cX11_best 18 = .ok (.getfield 85, 3) := by decide +kernel
theorem dX11_best_21 : decode cX11_best 21 = .ok (.iload_n 2, 1) := by decide +kernel
theorem dX11_best_22 : decode cX11_best 22 = .ok (.invokevirtual 331, 3) := by decide +kernel
theorem dX11_best_25 : decode cX11_best 25 = .ok (.ireturn, 1) := by decide +kernel
set_option maxHeartbeats 4000000 in
set_option maxRecDepth 100000 in
theorem c_X11_best (l : Launch) (E : Nat → ClassId) (D : va_G) (G : th_G) (h0 n : Nat) (hG0 : G h0 = some (15, n)) (x1 x2 : Int32) : Met l yX11_best (tb (.code yX11_best cX11_best 3 (some .int))) (rm 8) (va_Pc [.ref h0, .int x1, .int x2] (th_P E D G)) (QI E D G (fun r => True)) 0 0 (th_A G) := by
  refine Met.ofW (cc := cX11_best) (maxL := 3) (ret := (some .int)) (by decide) rfl ?_
  intro p e s m args below meth c s₁ B hml hv
  obtain ⟨hav, hI, hN, hK⟩ := hv
  have hx := B.exec
  have hb := B.bytes
  have hr := B.returns
  have hts := atoms_spec (ws := tb (.code yX11_best cX11_best 3 (some .int))) B.pre
  have hown : s.vm.findClass RX11 = some m.cls := findClass_of_methodNamed B.named
  have hlocks := B.notSynchronized
  have hS : va_S (th_A G) s.heap s.heap [] := va_S.rf
  have hl := lv_entry ([.ref h0, .int x1, .int x2]) (n := 3) (Nat.le_of_ble_eq_true rfl)
  rw [show entryFrame m args 3 = entryFrame m ([.ref h0, .int x1, .int x2] : List Value).toArray 3 from by rw [hav], lg_entry_eq]
  generalize (lg_sl ([.ref h0, .int x1, .int x2]) ++ List.replicate (3 - (lg_sl ([.ref h0, .int x1, .int x2])).length) Slot.unset).toArray = ls at hl ⊢
  have hl : lv_has ls 3 [(0, .ref h0), (1, .int x1), (2, .int x2)] := hl
  generalize hR : (headSpec (tb (.code yX11_best cX11_best 3 (some .int))) (rm 8)).room = R
  have hR := hR.symm
  generalize hQ : MQ below (QI E D G (fun r => True)) args s 0 0 (th_A G) = QF
  have hQ := hQ.symm
  refine lv_iload_n hx hb dX11_best_0 rfl (lv_at hl 1 rfl) ?_
  refine th_cSs (As := [.int x1]) (rest := []) (n := 1) (d := 0) ⟨hx, hb, hml, hown, hts⟩ (c_X11_isPump l s.heap x1) wd_411 wd_412 wd_1 wd_413 (by decide +kernel) ⟨by rw [hR]; exact Nat.le_of_ble_eq_true rfl, by rw [hR]; exact Nat.le_of_ble_eq_true rfl⟩ hN hS rfl hl.1 rfl (Nat.le_of_ble_eq_true rfl) dX11_best_1 ⟨Nat.zero_le _, Nat.zero_le _⟩ (fun r1 locs hp hS => ?_)
  rcases hp with ⟨rfl, hp⟩ | ⟨rfl, hp⟩
  · skip
    try simp only [rg, not_and, Int.not_le] at hp
    have hp2 := hp
    refine lv_if_ne (tgt := 9) hx hb dX11_best_4 (by decide) (fun _ => ?_) (fun c => absurd c (by decide))
    refine lv_aload_n hx hb dX11_best_9 rfl (lv_at hl 0 rfl) ?_
    obtain ⟨a3, a6, a8, a10, a12, a14, a16, a18, a20, a22, a24, w26, w27, w28, w29, hO, hq4, hq5, hq7, hq9, hq11, hq13, hq15, hq17, hq19, hq21, hq23, hq25⟩ := op_15 hI hG0 List.not_mem_nil
    have hI := th_I.weak (a := h0) hI
    have k30 : (nI (n % 401)).toInt = ((n % 401 : Nat) : Int) := nI_toInt (by omega)
    refine th_get hx hb hts inT11 hown hK hO rfl 11 (by decide) (hts _ (tb_c wd_356)) rfl rfl dX11_best_10 ?_
    refine lv_iload_n hx hb dX11_best_13 rfl (lv_at hl 1 rfl) ?_
    have hI := th_I.close hI hG0 hO (ok_15 hq4 hq5 hq7 hq9 hq11 hq13 hq15 hq17 hq19 hq21 hq23 hq25)
    refine th_cVv (As := [.int x1]) (rest := []) (n := 1) (d := 7) ⟨hx, hb, hml, hown, hts⟩ (c_X10_tune l E D G a24 hq25 x1) wd_1145 wd_1146 wd_1147 wd_12 wd_1148 (by decide +kernel) ⟨by rw [hR]; exact Nat.le_of_ble_eq_true rfl, by rw [hR]; exact Nat.le_of_ble_eq_true rfl⟩ hI hN hK hS (rc_14 hI hq25 List.not_mem_nil) rfl rfl hl.1 rfl (Nat.le_of_ble_eq_true rfl) dX11_best_14 ⟨Nat.zero_le _, Nat.zero_le _⟩ (fun H locs hI hS => ?_)
    refine lv_aload_n hx hb dX11_best_17 rfl (lv_at hl 0 rfl) ?_
    obtain ⟨a32, a35, a37, a39, a41, a43, a45, a47, a49, a51, a53, w55, w56, w57, w58, hO, hq33, hq34, hq36, hq38, hq40, hq42, hq44, hq46, hq48, hq50, hq52, hq54⟩ := op_15 hI hG0 List.not_mem_nil
    have hI := th_I.weak (a := h0) hI
    have k59 : (nI (n % 401)).toInt = ((n % 401 : Nat) : Int) := nI_toInt (by omega)
    refine th_get hx hb hts inT11 hown hK hO rfl 11 (by decide) (hts _ (tb_c wd_356)) rfl rfl dX11_best_18 ?_
    refine lv_iload_n hx hb dX11_best_21 rfl (lv_at hl 2 rfl) ?_
    have hI := th_I.close hI hG0 hO (ok_15 hq33 hq34 hq36 hq38 hq40 hq42 hq44 hq46 hq48 hq50 hq52 hq54)
    refine th_cVi (As := [.int x2]) (rest := []) (n := 1) (d := 0) ⟨hx, hb, hml, hown, hts⟩ (c_X10_tuned l E D G a53 hq54 x2) wd_1168 wd_1169 wd_1170 wd_12 wd_1171 (by decide +kernel) ⟨by rw [hR]; exact Nat.le_of_ble_eq_true rfl, by rw [hR]; exact Nat.le_of_ble_eq_true rfl⟩ hI hN hK hS (rc_14 hI hq54 List.not_mem_nil) rfl rfl hl.1 rfl (Nat.le_of_ble_eq_true rfl) dX11_best_22 ⟨Nat.zero_le _, Nat.zero_le _⟩ (fun r60 H locs hp hI hS => ?_)
    have hpost : True := trivial
    rw [hQ]
    exact W.iret (v := r60) hx hb hr (fun t ht hW => ⟨⟨r60, (), rfl, hpost, by rw [ht]; exact hI, hN.warm hW, va_K.moved hW.alike hK⟩, hS.F ht⟩) hS.2.2 dX11_best_25
  · skip
    try simp only [rg, not_and, Int.not_le] at hp
    have hp61 := hp
    refine lv_if_ne (tgt := 9) hx hb dX11_best_4 (by decide) (fun c => absurd c (by decide)) (fun _ => ?_)
    refine lv_iconst (v := (-1)) hx hb dX11_best_7 (by decide) ?_
    have hpost : True := trivial
    rw [hQ]
    exact W.iret (v := (-1)) hx hb hr (fun t ht hW => ⟨⟨(-1), (), rfl, hpost, by rw [ht]; exact hI, hN.warm hW, va_K.moved hW.alike hK⟩, hS.F ht⟩) hS.2.2 dX11_best_8
theorem dX11_set_0 : decode cX11_set 0 = .ok (.iload_n 1, 1) := by decide +kernel
theorem dX11_set_1 : decode cX11_set 1 = .ok (.invokestatic 117, 3) := by decide +kernel
theorem dX11_set_4 : decode cX11_set 4 = .ok (.ifCond .ne 10, 3) := by decide +kernel
theorem dX11_set_7 : decode cX11_set 7 = .ok (.aload_n 0, 1) := by decide +kernel
theorem dX11_set_8 : decode cX11_set 8 = .ok (.bipush (-2), 2) := by decide +kernel
theorem dX11_set_10 : decode cX11_set 10 = .ok (.invokevirtual 113, 3) := by decide +kernel
theorem dX11_set_13 : decode cX11_set 13 = .ok (.ireturn, 1) := by decide +kernel
theorem dX11_set_14 : decode cX11_set 14 = .ok (.aload_n 0, 1) := by decide +kernel
theorem dX11_set_15 : decode cX11_set 15 = .ok (.getfield 85, 3) := by decide +kernel
theorem dX11_set_18 : decode cX11_set 18 = .ok (.iload_n 1, 1) := by decide +kernel
theorem dX11_set_19 : decode cX11_set 19 = .ok (.invokevirtual 328, 3) := by decide +kernel
theorem dX11_set_22 : decode cX11_set 22 = .ok (.aload_n 0, 1) := by decide +kernel
theorem dX11_set_23 : decode cX11_set 23 = .ok (.getfield 85, 3) := by decide +kernel
theorem dX11_set_26 : decode cX11_set 26 = .ok (.iconst 1, 1) := by decide +kernel
theorem dX11_set_27 : decode cX11_set 27 = .ok (.invokevirtual 331, 3) := by decide +kernel
theorem dX11_set_30 : decode cX11_set 30 = .ok (.istore_n 2, 1) := by decide +kernel
theorem dX11_set_31 : decode cX11_set 31 = .ok (.aload_n 0, 1) := by decide +kernel
theorem dX11_set_32 : decode cX11_set 32 = .ok (.getfield 12, 3) := by decide +kernel
theorem dX11_set_35 : decode cX11_set 35 = .ok (.iload_n 1, 1) := by decide +kernel
theorem dX11_set_36 : decode cX11_set 36 = .ok (.iload_n 2, 1) := by decide +kernel
theorem dX11_set_37 : decode cX11_set 37 = .ok (.iload_n 2, 1) := by decide +kernel
theorem dX11_set_38 : decode cX11_set 38 = .ok (.aload_n 0, 1) := by decide +kernel
theorem dX11_set_39 : decode cX11_set 39 = .ok (.getfield 85, 3) := by decide +kernel
theorem dX11_set_42 : decode cX11_set 42 = .ok (.iconst 2, 1) := by decide +kernel
theorem dX11_set_43 : decode cX11_set 43 = .ok (.invokevirtual 331, 3) := by decide +kernel
theorem dX11_set_46 : decode cX11_set 46 = .ok (.iadd, 1) := by decide +kernel
theorem dX11_set_47 : decode cX11_set 47 = .ok (.bipush 24, 2) := by decide +kernel
theorem dX11_set_49 : decode cX11_set 49 = .ok (.irem, 1) := by decide +kernel
theorem dX11_set_50 : decode cX11_set 50 = .ok (.invokevirtual 334, 3) := by decide +kernel
theorem dX11_set_53 : decode cX11_set 53 = .ok (.aload_n 0, 1) := by decide +kernel
theorem dX11_set_54 : decode cX11_set 54 = .ok (.invokevirtual 124, 3) := by decide +kernel
theorem dX11_set_57 : decode cX11_set 57 = .ok (.aload_n 0, 1) := by decide +kernel
theorem dX11_set_58 : decode cX11_set 58 = .ok (.aload_n 0, 1) := by decide +kernel
theorem dX11_set_59 : decode cX11_set 59 = .ok (.getfield 85, 3) := by decide +kernel
theorem dX11_set_62 : decode cX11_set 62 = .ok (.iconst 0, 1) := by decide +kernel
theorem dX11_set_63 : decode cX11_set 63 = .ok (.invokevirtual 331, 3) := by decide +kernel
theorem dX11_set_66 : decode cX11_set 66 = .ok (.invokevirtual 127, 3) := by decide +kernel
theorem dX11_set_69 : decode cX11_set 69 = .ok (.ireturn, 1) := by decide +kernel
set_option maxHeartbeats 4000000 in
set_option maxRecDepth 100000 in
theorem c_X11_set (l : Launch) (E : Nat → ClassId) (D : va_G) (G : th_G) (h0 n : Nat) (hG0 : G h0 = some (15, n)) (x1 : Int32) : Met l yX11_set (tb (.code yX11_set cX11_set 3 (some .int))) (rm 8) (va_Pc [.ref h0, .int x1] (th_P E D G)) (QI E D G (fun r => True)) 0 0 (th_A G) := by
  refine Met.ofW (cc := cX11_set) (maxL := 3) (ret := (some .int)) (by decide) rfl ?_
  intro p e s m args below meth c s₁ B hml hv
  obtain ⟨hav, hI, hN, hK⟩ := hv
  have hx := B.exec
  have hb := B.bytes
  have hr := B.returns
  have hts := atoms_spec (ws := tb (.code yX11_set cX11_set 3 (some .int))) B.pre
  have hown : s.vm.findClass RX11 = some m.cls := findClass_of_methodNamed B.named
  have hlocks := B.notSynchronized
  have hS : va_S (th_A G) s.heap s.heap [] := va_S.rf
  have hl := lv_entry ([.ref h0, .int x1]) (n := 3) (Nat.le_of_ble_eq_true rfl)
  rw [show entryFrame m args 3 = entryFrame m ([.ref h0, .int x1] : List Value).toArray 3 from by rw [hav], lg_entry_eq]
  generalize (lg_sl ([.ref h0, .int x1]) ++ List.replicate (3 - (lg_sl ([.ref h0, .int x1])).length) Slot.unset).toArray = ls at hl ⊢
  have hl : lv_has ls 3 [(0, .ref h0), (1, .int x1)] := hl
  generalize hR : (headSpec (tb (.code yX11_set cX11_set 3 (some .int))) (rm 8)).room = R
  have hR := hR.symm
  generalize hQ : MQ below (QI E D G (fun r => True)) args s 0 0 (th_A G) = QF
  have hQ := hQ.symm
  refine lv_iload_n hx hb dX11_set_0 rfl (lv_at hl 1 rfl) ?_
  refine th_cSs (As := [.int x1]) (rest := []) (n := 1) (d := 0) ⟨hx, hb, hml, hown, hts⟩ (c_X11_isPump l s.heap x1) wd_411 wd_412 wd_1 wd_413 (by decide +kernel) ⟨by rw [hR]; exact Nat.le_of_ble_eq_true rfl, by rw [hR]; exact Nat.le_of_ble_eq_true rfl⟩ hN hS rfl hl.1 rfl (Nat.le_of_ble_eq_true rfl) dX11_set_1 ⟨Nat.zero_le _, Nat.zero_le _⟩ (fun r1 locs hp hS => ?_)
  rcases hp with ⟨rfl, hp⟩ | ⟨rfl, hp⟩
  · skip
    try simp only [rg, not_and, Int.not_le] at hp
    have hp2 := hp
    refine lv_if_ne (tgt := 14) hx hb dX11_set_4 (by decide) (fun _ => ?_) (fun c => absurd c (by decide))
    refine lv_aload_n hx hb dX11_set_14 rfl (lv_at hl 0 rfl) ?_
    obtain ⟨a3, a6, a8, a10, a12, a14, a16, a18, a20, a22, a24, w26, w27, w28, w29, hO, hq4, hq5, hq7, hq9, hq11, hq13, hq15, hq17, hq19, hq21, hq23, hq25⟩ := op_15 hI hG0 List.not_mem_nil
    have hI := th_I.weak (a := h0) hI
    have k30 : (nI (n % 401)).toInt = ((n % 401 : Nat) : Int) := nI_toInt (by omega)
    refine th_get hx hb hts inT11 hown hK hO rfl 11 (by decide) (hts _ (tb_c wd_356)) rfl rfl dX11_set_15 ?_
    refine lv_iload_n hx hb dX11_set_18 rfl (lv_at hl 1 rfl) ?_
    have hI := th_I.close hI hG0 hO (ok_15 hq4 hq5 hq7 hq9 hq11 hq13 hq15 hq17 hq19 hq21 hq23 hq25)
    refine th_cVv (As := [.int x1]) (rest := []) (n := 1) (d := 7) ⟨hx, hb, hml, hown, hts⟩ (c_X10_tune l E D G a24 hq25 x1) wd_1145 wd_1146 wd_1147 wd_12 wd_1148 (by decide +kernel) ⟨by rw [hR]; exact Nat.le_of_ble_eq_true rfl, by rw [hR]; exact Nat.le_of_ble_eq_true rfl⟩ hI hN hK hS (rc_14 hI hq25 List.not_mem_nil) rfl rfl hl.1 rfl (Nat.le_of_ble_eq_true rfl) dX11_set_19 ⟨Nat.zero_le _, Nat.zero_le _⟩ (fun H locs hI hS => ?_)
    refine lv_aload_n hx hb dX11_set_22 rfl (lv_at hl 0 rfl) ?_
    obtain ⟨a32, a35, a37, a39, a41, a43, a45, a47, a49, a51, a53, w55, w56, w57, w58, hO, hq33, hq34, hq36, hq38, hq40, hq42, hq44, hq46, hq48, hq50, hq52, hq54⟩ := op_15 hI hG0 List.not_mem_nil
    have hI := th_I.weak (a := h0) hI
    have k59 : (nI (n % 401)).toInt = ((n % 401 : Nat) : Int) := nI_toInt (by omega)
    refine th_get hx hb hts inT11 hown hK hO rfl 11 (by decide) (hts _ (tb_c wd_356)) rfl rfl dX11_set_23 ?_
    refine lv_iconst (v := 1) hx hb dX11_set_26 (by decide) ?_
    have hI := th_I.close hI hG0 hO (ok_15 hq33 hq34 hq36 hq38 hq40 hq42 hq44 hq46 hq48 hq50 hq52 hq54)
    refine th_cVi (As := [.int 1]) (rest := []) (n := 1) (d := 0) ⟨hx, hb, hml, hown, hts⟩ (c_X10_tuned l E D G a53 hq54 1) wd_1168 wd_1169 wd_1170 wd_12 wd_1171 (by decide +kernel) ⟨by rw [hR]; exact Nat.le_of_ble_eq_true rfl, by rw [hR]; exact Nat.le_of_ble_eq_true rfl⟩ hI hN hK hS (rc_14 hI hq54 List.not_mem_nil) rfl rfl hl.1 rfl (Nat.le_of_ble_eq_true rfl) dX11_set_27 ⟨Nat.zero_le _, Nat.zero_le _⟩ (fun r60 H locs hp hI hS => ?_)
    refine lv_istore_n (lv' := [(2, .int r60), (0, .ref h0), (1, .int x1)]) hx hb dX11_set_30 rfl hl (by decide) rfl (fun ls hl => ?_)
    refine lv_aload_n hx hb dX11_set_31 rfl (lv_at hl 1 rfl) ?_
    obtain ⟨a61, a64, a66, a68, a70, a72, a74, a76, a78, a80, a82, w84, w85, w86, w87, hO, hq62, hq63, hq65, hq67, hq69, hq71, hq73, hq75, hq77, hq79, hq81, hq83⟩ := op_15 hI hG0 List.not_mem_nil
    have hI := th_I.weak (a := h0) hI
    have k88 : (nI (n % 401)).toInt = ((n % 401 : Nat) : Int) := nI_toInt (by omega)
    refine th_get hx hb hts inT11 hown hK hO rfl 0 (by decide) (hts _ (tb_c wd_345)) rfl rfl dX11_set_32 ?_
    refine lv_iload_n hx hb dX11_set_35 rfl (lv_at hl 2 rfl) ?_
    refine lv_iload_n hx hb dX11_set_36 rfl (lv_at hl 0 rfl) ?_
    refine lv_iload_n hx hb dX11_set_37 rfl (lv_at hl 0 rfl) ?_
    refine lv_aload_n hx hb dX11_set_38 rfl (lv_at hl 1 rfl) ?_
    refine th_get hx hb hts inT11 hown hK hO rfl 11 (by decide) (hts _ (tb_c wd_356)) rfl rfl dX11_set_39 ?_
    refine lv_iconst (v := 2) hx hb dX11_set_42 (by decide) ?_
    have hI := th_I.close hI hG0 hO (ok_15 hq62 hq63 hq65 hq67 hq69 hq71 hq73 hq75 hq77 hq79 hq81 hq83)
    refine th_cVi (As := [.int 2]) (rest := [.int r60, .int r60, .int x1, .ref a61]) (n := 1) (d := 0) ⟨hx, hb, hml, hown, hts⟩ (c_X10_tuned l E D G a82 hq83 2) wd_1168 wd_1169 wd_1170 wd_12 wd_1171 (by decide +kernel) ⟨by rw [hR]; exact Nat.le_of_ble_eq_true rfl, by rw [hR]; exact Nat.le_of_ble_eq_true rfl⟩ hI hN hK hS (rc_14 hI hq83 List.not_mem_nil) rfl rfl hl.1 rfl (Nat.le_of_ble_eq_true rfl) dX11_set_43 ⟨Nat.zero_le _, Nat.zero_le _⟩ (fun r89 H locs hp hI hS => ?_)
    refine lv_iadd hx hb dX11_set_46 ?_
    refine lv_topi (fun v90 e91 => ?_)
    try have tv90 : v90.toInt = r60.toInt + r89.toInt := iv_add rfl rfl e91 (by omega) (by omega)
    refine lv_bipush (v := 24) hx hb dX11_set_47 (by decide) ?_
    refine lv_irem hx hb dX11_set_49 (by decide) ?_
    refine lv_topi (fun v92 e93 => ?_)
    refine th_cVv (As := [.int x1, .int r60, .int v92]) (rest := []) (n := 3) (d := 1) ⟨hx, hb, hml, hown, hts⟩ (c_X6_tellClocks l E D G a61 hq62 x1 r60 v92) wd_1176 wd_420 wd_421 wd_2 wd_422 (by decide +kernel) ⟨by rw [hR]; exact Nat.le_of_ble_eq_true rfl, by rw [hR]; exact Nat.le_of_ble_eq_true rfl⟩ hI hN hK hS (rc_6 hI hq62 List.not_mem_nil) rfl rfl hl.1 rfl (Nat.le_of_ble_eq_true rfl) dX11_set_50 ⟨Nat.zero_le _, Nat.zero_le _⟩ (fun H locs hI hS => ?_)
    refine lv_aload_n hx hb dX11_set_53 rfl (lv_at hl 1 rfl) ?_
    refine th_cVv (As := []) (rest := []) (n := 0) (d := 2) ⟨hx, hb, hml, hown, hts⟩ (c_X11_turnRiver l E D G h0 (n) hG0 ) wd_423 wd_425 wp_1 wd_1 wd_426 (by decide +kernel) ⟨by rw [hR]; exact Nat.le_of_ble_eq_true rfl, by rw [hR]; exact Nat.le_of_ble_eq_true rfl⟩ hI hN hK hS (rc_15 hI hG0 List.not_mem_nil) rfl rfl hl.1 rfl (Nat.le_of_ble_eq_true rfl) dX11_set_54 ⟨Nat.zero_le _, Nat.zero_le _⟩ (fun H locs hI hS => ?_)
    refine lv_aload_n hx hb dX11_set_57 rfl (lv_at hl 1 rfl) ?_
    refine lv_aload_n hx hb dX11_set_58 rfl (lv_at hl 1 rfl) ?_
    obtain ⟨a96, a99, a101, a103, a105, a107, a109, a111, a113, a115, a117, w119, w120, w121, w122, hO, hq97, hq98, hq100, hq102, hq104, hq106, hq108, hq110, hq112, hq114, hq116, hq118⟩ := op_15 hI hG0 List.not_mem_nil
    have hI := th_I.weak (a := h0) hI
    have k123 : (nI (n % 401)).toInt = ((n % 401 : Nat) : Int) := nI_toInt (by omega)
    refine th_get hx hb hts inT11 hown hK hO rfl 11 (by decide) (hts _ (tb_c wd_356)) rfl rfl dX11_set_59 ?_
    refine lv_iconst (v := 0) hx hb dX11_set_62 (by decide) ?_
    have hI := th_I.close hI hG0 hO (ok_15 hq97 hq98 hq100 hq102 hq104 hq106 hq108 hq110 hq112 hq114 hq116 hq118)
    refine th_cVi (As := [.int 0]) (rest := [.ref h0]) (n := 1) (d := 0) ⟨hx, hb, hml, hown, hts⟩ (c_X10_tuned l E D G a117 hq118 0) wd_1168 wd_1169 wd_1170 wd_12 wd_1171 (by decide +kernel) ⟨by rw [hR]; exact Nat.le_of_ble_eq_true rfl, by rw [hR]; exact Nat.le_of_ble_eq_true rfl⟩ hI hN hK hS (rc_14 hI hq118 List.not_mem_nil) rfl rfl hl.1 rfl (Nat.le_of_ble_eq_true rfl) dX11_set_63 ⟨Nat.zero_le _, Nat.zero_le _⟩ (fun r124 H locs hp hI hS => ?_)
    refine th_cVi (As := [.int r124]) (rest := []) (n := 1) (d := 0) ⟨hx, hb, hml, hown, hts⟩ (c_X11_accept l E D G h0 (n) hG0 r124) wd_447 wd_449 wp_3 wd_1 wd_450 (by decide +kernel) ⟨by rw [hR]; exact Nat.le_of_ble_eq_true rfl, by rw [hR]; exact Nat.le_of_ble_eq_true rfl⟩ hI hN hK hS (rc_15 hI hG0 List.not_mem_nil) rfl rfl hl.1 rfl (Nat.le_of_ble_eq_true rfl) dX11_set_66 ⟨Nat.zero_le _, Nat.zero_le _⟩ (fun r125 H locs hp hI hS => ?_)
    have hp := hp.symm
    subst hp
    have hpost : True := trivial
    rw [hQ]
    exact W.iret (v := r124) hx hb hr (fun t ht hW => ⟨⟨r124, (), rfl, hpost, by rw [ht]; exact hI, hN.warm hW, va_K.moved hW.alike hK⟩, hS.F ht⟩) hS.2.2 dX11_set_69
  · skip
    try simp only [rg, not_and, Int.not_le] at hp
    have hp126 := hp
    refine lv_if_ne (tgt := 14) hx hb dX11_set_4 (by decide) (fun c => absurd c (by decide)) (fun _ => ?_)
    refine lv_aload_n hx hb dX11_set_7 rfl (lv_at hl 0 rfl) ?_
    refine lv_bipush (v := (-2)) hx hb dX11_set_8 (by decide) ?_
    refine th_cVi (As := [.int (-2)]) (rest := []) (n := 1) (d := 0) ⟨hx, hb, hml, hown, hts⟩ (c_X11_refuse l E D G h0 (n) hG0 (-2)) wd_407 wd_409 wp_0 wd_1 wd_410 (by decide +kernel) ⟨by rw [hR]; exact Nat.le_of_ble_eq_true rfl, by rw [hR]; exact Nat.le_of_ble_eq_true rfl⟩ hI hN hK hS (rc_15 hI hG0 List.not_mem_nil) rfl rfl hl.1 rfl (Nat.le_of_ble_eq_true rfl) dX11_set_10 ⟨Nat.zero_le _, Nat.zero_le _⟩ (fun r127 H locs hp hI hS => ?_)
    have hp := hp.symm
    subst hp
    have hpost : True := trivial
    rw [hQ]
    exact W.iret (v := (-2)) hx hb hr (fun t ht hW => ⟨⟨(-2), (), rfl, hpost, by rw [ht]; exact hI, hN.warm hW, va_K.moved hW.alike hK⟩, hS.F ht⟩) hS.2.2 dX11_set_13
theorem dX11_week_0 : decode cX11_week 0 = .ok (.iload_n 1, 1) := by decide +kernel
theorem dX11_week_1 : decode cX11_week 1 = .ok (.ifCond .lt 20, 3) := by decide +kernel
theorem dX11_week_4 : decode cX11_week 4 = .ok (.iload_n 1, 1) := by decide +kernel
theorem dX11_week_5 : decode cX11_week 5 = .ok (.ldc_w 337, 3) := by decide +kernel
theorem dX11_week_8 : decode cX11_week 8 = .ok (.if_icmp .gt 13, 3) := by decide +kernel
theorem dX11_week_11 : decode cX11_week 11 = .ok (.iload_n 2, 1) := by decide +kernel
theorem dX11_week_12 : decode cX11_week 12 = .ok (.ifCond .lt 9, 3) := by decide +kernel
theorem dX11_week_15 : decode cX11_week 15 = .ok (.iload_n 2, 1) := by decide +kernel
theorem dX11_week_16 : decode cX11_week 16 = .ok (.bipush 100, 2) := by decide +kernel
theorem dX11_week_18 : decode cX11_week 18 = .ok (.if_icmp .le 9, 3) := by decide +kernel
theorem dX11_week_21 : decode cX11_week 21 = .ok (.aload_n 0, 1) := by decide +kernel
theorem dX11_week_22 : decode cX11_week 22 = .ok (.iconst (-1), 1) := by decide +kernel
theorem dX11_week_23 : decode cX11_week 23 = .ok (.invokevirtual 113, 3) := by decide +kernel
theorem dX11_week_26 : decode cX11_week 26 = .ok (.ireturn, 1) := by decide +kernel
theorem dX11_week_27 : decode cX11_week 27 = .ok (.aload_n 0, 1) := by decide +kernel
theorem dX11_week_28 : decode cX11_week 28 = .ok (.iconst 1, 1) := by decide +kernel
theorem dX11_week_29 : decode cX11_week 29 = .ok (.putfield 102, 3) := by decide +kernel
theorem dX11_week_32 : decode cX11_week 32 = .ok (.aload_n 0, 1) := by decide +kernel
theorem dX11_week_33 : decode cX11_week 33 = .ok (.aload_n 0, 1) := by decide +kernel
theorem dX11_week_34 : decode cX11_week 34 = .ok (.getfield 51, 3) := by decide +kernel
theorem dX11_week_37 : decode cX11_week 37 = .ok (.iload_n 1, 1) := by decide +kernel
theorem dX11_week_38 : decode cX11_week 38 = .ok (.iload_n 2, 1) := by decide +kernel
theorem dX11_week_39 : decode cX11_week 39 = .ok (.aload_n 0, 1) := by decide +kernel
theorem dX11_week_40 : decode cX11_week 40 = .ok (.getfield 27, 3) := by decide +kernel
theorem dX11_week_43 : decode cX11_week 43 = .ok (.invokevirtual 338, 3) := by decide +kernel
theorem dX11_week_46 : decode cX11_week 46 = .ok (.invokevirtual 127, 3) := by decide +kernel
theorem dX11_week_49 : decode cX11_week 49 = .ok (.ireturn, 1) := by decide +kernel
set_option maxHeartbeats 4000000 in
set_option maxRecDepth 100000 in
theorem c_X11_week (l : Launch) (E : Nat → ClassId) (D : va_G) (G : th_G) (h0 n : Nat) (hG0 : G h0 = some (15, n)) (x1 x2 : Int32) : Met l yX11_week (tb (.code yX11_week cX11_week 3 (some .int))) (rm 8) (va_Pc [.ref h0, .int x1, .int x2] (th_P E D G)) (QI E D G (fun r => True)) 0 0 (th_A G) := by
  refine Met.ofW (cc := cX11_week) (maxL := 3) (ret := (some .int)) (by decide) rfl ?_
  intro p e s m args below meth c s₁ B hml hv
  obtain ⟨hav, hI, hN, hK⟩ := hv
  have hx := B.exec
  have hb := B.bytes
  have hr := B.returns
  have hts := atoms_spec (ws := tb (.code yX11_week cX11_week 3 (some .int))) B.pre
  have hown : s.vm.findClass RX11 = some m.cls := findClass_of_methodNamed B.named
  have hlocks := B.notSynchronized
  have hS : va_S (th_A G) s.heap s.heap [] := va_S.rf
  have hl := lv_entry ([.ref h0, .int x1, .int x2]) (n := 3) (Nat.le_of_ble_eq_true rfl)
  rw [show entryFrame m args 3 = entryFrame m ([.ref h0, .int x1, .int x2] : List Value).toArray 3 from by rw [hav], lg_entry_eq]
  generalize (lg_sl ([.ref h0, .int x1, .int x2]) ++ List.replicate (3 - (lg_sl ([.ref h0, .int x1, .int x2])).length) Slot.unset).toArray = ls at hl ⊢
  have hl : lv_has ls 3 [(0, .ref h0), (1, .int x1), (2, .int x2)] := hl
  generalize hR : (headSpec (tb (.code yX11_week cX11_week 3 (some .int))) (rm 8)).room = R
  have hR := hR.symm
  generalize hQ : MQ below (QI E D G (fun r => True)) args s 0 0 (th_A G) = QF
  have hQ := hQ.symm
  have J_21 : ∀ (H : Heap) (locs : List Loc) (ls : Array Slot) , lv_has ls 3 [(0, .ref h0), (1, .int x1), (2, .int x2)] → th_I (okC E) D G [] H → va_S (th_A G) s.heap H locs → W p l e R s m args below meth c H locs 0 0 QF (F0 m 21 ls []) := by
    intro H locs ls  hl  hI hS
    refine lv_aload_n hx hb dX11_week_21 rfl (lv_at hl 0 rfl) ?_
    refine lv_iconst (v := (-1)) hx hb dX11_week_22 (by decide) ?_
    refine th_cVi (As := [.int (-1)]) (rest := []) (n := 1) (d := 0) ⟨hx, hb, hml, hown, hts⟩ (c_X11_refuse l E D G h0 (n) hG0 (-1)) wd_407 wd_409 wp_0 wd_1 wd_410 (by decide +kernel) ⟨by rw [hR]; exact Nat.le_of_ble_eq_true rfl, by rw [hR]; exact Nat.le_of_ble_eq_true rfl⟩ hI hN hK hS (rc_15 hI hG0 List.not_mem_nil) rfl rfl hl.1 rfl (Nat.le_of_ble_eq_true rfl) dX11_week_23 ⟨Nat.zero_le _, Nat.zero_le _⟩ (fun r376 H locs hp hI hS => ?_)
    have hp := hp.symm
    subst hp
    have hpost : True := trivial
    rw [hQ]
    exact W.iret (v := (-1)) hx hb hr (fun t ht hW => ⟨⟨(-1), (), rfl, hpost, by rw [ht]; exact hI, hN.warm hW, va_K.moved hW.alike hK⟩, hS.F ht⟩) hS.2.2 dX11_week_26
  refine lv_iload_n hx hb dX11_week_0 rfl (lv_at hl 1 rfl) ?_
  have k377 := iv_lo x1
  have k378 := iv_hi x1
  refine lv_if_lt (tgt := 21) hx hb dX11_week_1 (by decide) (fun c379 => ?_) (fun c379 => ?_)
  · skip
    have k380 := iv_lt (X := x1.toInt) (Y := (0)) rfl (by decide) c379
    exact J_21 s.heap [] ls  (lv_sub hl [0, 1, 2] rfl)  hI hS
  · skip
    have k381 := iv_nlt (X := x1.toInt) (Y := (0)) rfl (by decide) c379
    refine lv_iload_n hx hb dX11_week_4 rfl (lv_at hl 1 rfl) ?_
    refine lv_ldcw hx hb hown (hts _ (tb_c wd_1181)) dX11_week_5 ?_
    refine lv_icmp_gt (tgt := 21) hx hb dX11_week_8 (by decide) (fun c382 => ?_) (fun c382 => ?_)
    · skip
      have k383 := iv_lt (X := (1000000)) (Y := x1.toInt) (by decide) rfl c382
      exact J_21 s.heap [] ls  (lv_sub hl [0, 1, 2] rfl)  hI hS
    · skip
      have k384 := iv_nlt (X := (1000000)) (Y := x1.toInt) (by decide) rfl c382
      refine lv_iload_n hx hb dX11_week_11 rfl (lv_at hl 2 rfl) ?_
      have k385 := iv_lo x2
      have k386 := iv_hi x2
      refine lv_if_lt (tgt := 21) hx hb dX11_week_12 (by decide) (fun c387 => ?_) (fun c387 => ?_)
      · skip
        have k388 := iv_lt (X := x2.toInt) (Y := (0)) rfl (by decide) c387
        exact J_21 s.heap [] ls  (lv_sub hl [0, 1, 2] rfl)  hI hS
      · skip
        have k389 := iv_nlt (X := x2.toInt) (Y := (0)) rfl (by decide) c387
        refine lv_iload_n hx hb dX11_week_15 rfl (lv_at hl 2 rfl) ?_
        refine lv_bipush (v := 100) hx hb dX11_week_16 (by decide) ?_
        refine lv_icmp_le (tgt := 27) hx hb dX11_week_18 (by decide) (fun c390 => ?_) (fun c390 => ?_)
        · skip
          have k391 := iv_le (X := x2.toInt) (Y := (100)) rfl (by decide) c390
          refine lv_aload_n hx hb dX11_week_27 rfl (lv_at hl 0 rfl) ?_
          refine lv_iconst (v := 1) hx hb dX11_week_28 (by decide) ?_
          obtain ⟨a392, a395, a397, a399, a401, a403, a405, a407, a409, a411, a413, w415, w416, w417, w418, hO, hq393, hq394, hq396, hq398, hq400, hq402, hq404, hq406, hq408, hq410, hq412, hq414⟩ := op_15 hI hG0 List.not_mem_nil
          have hI := th_I.weak (a := h0) hI
          have k419 : (nI (n % 401)).toInt = ((n % 401 : Nat) : Int) := nI_toInt (by omega)
          refine th_put (ty := .boolean) hx hb hts inT11 tyX11 tyX11_ok nmX11 hown hK hO hS ⟨_, hG0⟩ rfl 16 (by decide) (hts _ (tb_c wd_361)) rfl rfl (by decide +kernel) (by decide) rfl (Nat.le_of_ble_eq_true rfl) dX11_week_29 (fun H locs hO oq hS => ?_)
          have hI := th_I.moved hI oq
          have hO : va_at D vwCl (h0, .inr (11, [.ref a392, .ref (n / 401), .ref a395, .ref a397, .ref a399, .ref a401, .ref a403, .ref a405, .ref a407, .ref a409, .ref a411, .ref a413, .int (nI (n % 401)), .int w415, .int w416, .int w417, .int 1])) H := hO
          refine lv_aload_n hx hb dX11_week_32 rfl (lv_at hl 0 rfl) ?_
          refine lv_aload_n hx hb dX11_week_33 rfl (lv_at hl 0 rfl) ?_
          refine th_get hx hb hts inT11 hown hK hO rfl 7 (by decide) (hts _ (tb_c wd_352)) rfl rfl dX11_week_34 ?_
          refine lv_iload_n hx hb dX11_week_37 rfl (lv_at hl 1 rfl) ?_
          refine lv_iload_n hx hb dX11_week_38 rfl (lv_at hl 2 rfl) ?_
          refine lv_aload_n hx hb dX11_week_39 rfl (lv_at hl 0 rfl) ?_
          refine th_get hx hb hts inT11 hown hK hO rfl 4 (by decide) (hts _ (tb_c wd_349)) rfl rfl dX11_week_40 ?_
          have hI := th_I.close hI hG0 hO (ok_15 hq393 hq394 hq396 hq398 hq400 hq402 hq404 hq406 hq408 hq410 hq412 hq414)
          refine th_cVi (As := [.int x1, .int x2, .ref a399]) (rest := [.ref h0]) (n := 3) (d := 7) ⟨hx, hb, hml, hown, hts⟩ (c_X9_drawWeek l E D G a405 hq406 x1 x2 a399 hq400) wd_1182 wd_1183 wd_1184 wd_8 wd_1185 (by decide +kernel) ⟨by rw [hR]; exact Nat.le_of_ble_eq_true rfl, by rw [hR]; exact Nat.le_of_ble_eq_true rfl⟩ hI hN hK hS (rc_10 hI hq406 List.not_mem_nil) rfl rfl hl.1 rfl (Nat.le_of_ble_eq_true rfl) dX11_week_43 ⟨Nat.zero_le _, Nat.zero_le _⟩ (fun r420 H locs hp hI hS => ?_)
          refine th_cVi (As := [.int r420]) (rest := []) (n := 1) (d := 0) ⟨hx, hb, hml, hown, hts⟩ (c_X11_accept l E D G h0 (n) hG0 r420) wd_447 wd_449 wp_3 wd_1 wd_450 (by decide +kernel) ⟨by rw [hR]; exact Nat.le_of_ble_eq_true rfl, by rw [hR]; exact Nat.le_of_ble_eq_true rfl⟩ hI hN hK hS (rc_15 hI hG0 List.not_mem_nil) rfl rfl hl.1 rfl (Nat.le_of_ble_eq_true rfl) dX11_week_46 ⟨Nat.zero_le _, Nat.zero_le _⟩ (fun r421 H locs hp hI hS => ?_)
          have hp := hp.symm
          subst hp
          have hpost : True := trivial
          rw [hQ]
          exact W.iret (v := r420) hx hb hr (fun t ht hW => ⟨⟨r420, (), rfl, hpost, by rw [ht]; exact hI, hN.warm hW, va_K.moved hW.alike hK⟩, hS.F ht⟩) hS.2.2 dX11_week_49
        · skip
          have k422 := iv_nle (X := x2.toInt) (Y := (100)) rfl (by decide) c390
          exact J_21 s.heap [] ls  (lv_sub hl [0, 1, 2] rfl)  hI hS
theorem dX11_drawn_0 : decode cX11_drawn 0 = .ok (.aload_n 0, 1) := by decide +kernel
theorem dX11_drawn_1 : decode cX11_drawn 1 = .ok (.getfield 102, 3) := by decide +kernel
theorem dX11_drawn_4 : decode cX11_drawn 4 = .ok (.ifCond .eq 19, 3) := by decide +kernel
theorem dX11_drawn_7 : decode cX11_drawn 7 = .ok (.iload_n 1, 1) := by decide +kernel
theorem dX11_drawn_8 : decode cX11_drawn 8 = .ok (.invokestatic 106, 3) := by decide +kernel
theorem dX11_drawn_11 : decode cX11_drawn 11 = .ok (.ifCond .eq 12, 3) := by decide +kernel
theorem dX11_drawn_14 : decode cX11_drawn 14 = .ok (.aload_n 0, 1) := by decide +kernel
theorem dX11_drawn_15 : decode cX11_drawn 15 = .ok (.getfield 27, 3) := by decide +kernel
theorem dX11_drawn_18 : decode cX11_drawn 18 = .ok (.iload_n 1, 1) := by decide +kernel
theorem dX11_drawn_19 : decode cX11_drawn 19 = .ok (.iaload, 1) := by decide +kernel
theorem dX11_drawn_20 : decode cX11_drawn 20 = .ok (.goto 4, 3) := by decide +kernel
theorem dX11_drawn_23 : decode cX11_drawn 23 = .ok (.iconst (-1), 1) := by decide +kernel
theorem dX11_drawn_24 : decode cX11_drawn 24 = .ok (.ireturn, 1) := by decide +kernel
set_option maxHeartbeats 4000000 in
set_option maxRecDepth 100000 in
theorem c_X11_drawn (l : Launch) (E : Nat → ClassId) (D : va_G) (G : th_G) (h0 n : Nat) (hG0 : G h0 = some (15, n)) (x1 : Int32) : Met l yX11_drawn (tb (.code yX11_drawn cX11_drawn 2 (some .int))) (rm 1) (va_Pc [.ref h0, .int x1] (th_P E D G)) (QI E D G (fun r => True)) 0 0 (th_A G) := by
  refine Met.ofW (cc := cX11_drawn) (maxL := 2) (ret := (some .int)) (by decide) rfl ?_
  intro p e s m args below meth c s₁ B hml hv
  obtain ⟨hav, hI, hN, hK⟩ := hv
  have hx := B.exec
  have hb := B.bytes
  have hr := B.returns
  have hts := atoms_spec (ws := tb (.code yX11_drawn cX11_drawn 2 (some .int))) B.pre
  have hown : s.vm.findClass RX11 = some m.cls := findClass_of_methodNamed B.named
  have hlocks := B.notSynchronized
  have hS : va_S (th_A G) s.heap s.heap [] := va_S.rf
  have hl := lv_entry ([.ref h0, .int x1]) (n := 2) (Nat.le_of_ble_eq_true rfl)
  rw [show entryFrame m args 2 = entryFrame m ([.ref h0, .int x1] : List Value).toArray 2 from by rw [hav], lg_entry_eq]
  generalize (lg_sl ([.ref h0, .int x1]) ++ List.replicate (2 - (lg_sl ([.ref h0, .int x1])).length) Slot.unset).toArray = ls at hl ⊢
  have hl : lv_has ls 2 [(0, .ref h0), (1, .int x1)] := hl
  generalize hR : (headSpec (tb (.code yX11_drawn cX11_drawn 2 (some .int))) (rm 1)).room = R
  have hR := hR.symm
  generalize hQ : MQ below (QI E D G (fun r => True)) args s 0 0 (th_A G) = QF
  have hQ := hQ.symm
  refine lv_aload_n hx hb dX11_drawn_0 rfl (lv_at hl 0 rfl) ?_
  obtain ⟨a1, a4, a6, a8, a10, a12, a14, a16, a18, a20, a22, w24, w25, w26, w27, hO, hq2, hq3, hq5, hq7, hq9, hq11, hq13, hq15, hq17, hq19, hq21, hq23⟩ := op_15 hI hG0 List.not_mem_nil
  have hI := th_I.weak (a := h0) hI
  have k28 : (nI (n % 401)).toInt = ((n % 401 : Nat) : Int) := nI_toInt (by omega)
  refine th_get hx hb hts inT11 hown hK hO rfl 16 (by decide) (hts _ (tb_c wd_361)) rfl rfl dX11_drawn_1 ?_
  have k29 := iv_lo w27
  have k30 := iv_hi w27
  refine lv_if_eq (tgt := 23) hx hb dX11_drawn_4 (by decide) (fun c31 => ?_) (fun c31 => ?_)
  · skip
    have k32 := iv_eq (X := w27.toInt) (Y := (0)) rfl (by decide) c31
    refine lv_iconst (v := (-1)) hx hb dX11_drawn_23 (by decide) ?_
    have hI := th_I.close hI hG0 hO (ok_15 hq2 hq3 hq5 hq7 hq9 hq11 hq13 hq15 hq17 hq19 hq21 hq23)
    have hpost : True := trivial
    rw [hQ]
    exact W.iret (v := (-1)) hx hb hr (fun t ht hW => ⟨⟨(-1), (), rfl, hpost, by rw [ht]; exact hI, hN.warm hW, va_K.moved hW.alike hK⟩, hS.F ht⟩) hS.2.2 dX11_drawn_24
  · skip
    have k33 := iv_ne (X := w27.toInt) (Y := (0)) rfl (by decide) c31
    refine lv_iload_n hx hb dX11_drawn_7 rfl (lv_at hl 1 rfl) ?_
    refine th_cSs (As := [.int x1]) (rest := []) (n := 1) (d := 0) ⟨hx, hb, hml, hown, hts⟩ (c_X11_isCell l s.heap x1) wd_401 wd_402 wd_1 wd_403 (by decide +kernel) ⟨by rw [hR]; exact Nat.le_of_ble_eq_true rfl, by rw [hR]; exact Nat.le_of_ble_eq_true rfl⟩ hN hS rfl hl.1 rfl (Nat.le_of_ble_eq_true rfl) dX11_drawn_8 ⟨Nat.zero_le _, Nat.zero_le _⟩ (fun r34 locs hp hS => ?_)
    rcases hp with ⟨rfl, hp⟩ | ⟨rfl, hp⟩
    · skip
      try simp only [rg, not_and, Int.not_le] at hp
      have hp35 := hp
      refine lv_if_eq (tgt := 23) hx hb dX11_drawn_11 (by decide) (fun c => absurd c (by decide)) (fun _ => ?_)
      refine lv_aload_n hx hb dX11_drawn_14 rfl (lv_at hl 0 rfl) ?_
      refine th_get hx hb hts inT11 hown hK hO rfl 4 (by decide) (hts _ (tb_c wd_349)) rfl rfl dX11_drawn_15 ?_
      refine lv_iload_n hx hb dX11_drawn_18 rfl (lv_at hl 1 rfl) ?_
      obtain ⟨_, hA36⟩ := op_0 hI hq9 (th_ne hG0 hq9 (show (15 : Nat) ≠ 0 by decide))
      refine th_iald hx hb hK hA36 0 rfl (iv_in (X := x1.toInt) rfl (by omega) (by omega)) dX11_drawn_19 (fun v37 _ => ?_)
      refine lv_goto (tgt := 24) hx hb dX11_drawn_20 (by decide) ?_
      have hI := th_I.close hI hG0 hO (ok_15 hq2 hq3 hq5 hq7 hq9 hq11 hq13 hq15 hq17 hq19 hq21 hq23)
      have hpost : True := trivial
      rw [hQ]
      exact W.iret (v := v37) hx hb hr (fun t ht hW => ⟨⟨v37, (), rfl, hpost, by rw [ht]; exact hI, hN.warm hW, va_K.moved hW.alike hK⟩, hS.F ht⟩) hS.2.2 dX11_drawn_24
    · skip
      try simp only [rg, not_and, Int.not_le] at hp
      have hp38 := hp
      refine lv_if_eq (tgt := 23) hx hb dX11_drawn_11 (by decide) (fun _ => ?_) (fun c => absurd c (by decide))
      refine lv_iconst (v := (-1)) hx hb dX11_drawn_23 (by decide) ?_
      have hI := th_I.close hI hG0 hO (ok_15 hq2 hq3 hq5 hq7 hq9 hq11 hq13 hq15 hq17 hq19 hq21 hq23)
      have hpost : True := trivial
      rw [hQ]
      exact W.iret (v := (-1)) hx hb hr (fun t ht hW => ⟨⟨(-1), (), rfl, hpost, by rw [ht]; exact hI, hN.warm hW, va_K.moved hW.alike hK⟩, hS.F ht⟩) hS.2.2 dX11_drawn_24
theorem dX11_count_0 : decode cX11_count 0 = .ok (.iload_n 1, 1) := by decide +kernel
theorem dX11_count_1 : decode cX11_count 1 = .ok (.bipush 10, 2) := by decide +kernel
theorem dX11_count_3 : decode cX11_count 3 = .ok (.if_icmp .lt 19, 3) := by decide +kernel
theorem dX11_count_6 : decode cX11_count 6 = .ok (.iload_n 1, 1) := by decide +kernel
theorem dX11_count_7 : decode cX11_count 7 = .ok (.bipush 14, 2) := by decide +kernel
theorem dX11_count_9 : decode cX11_count 9 = .ok (.if_icmp .gt 13, 3) := by decide +kernel
theorem dX11_count_12 : decode cX11_count 12 = .ok (.aload_n 0, 1) := by decide +kernel
theorem dX11_count_13 : decode cX11_count 13 = .ok (.getfield 24, 3) := by decide +kernel
theorem dX11_count_16 : decode cX11_count 16 = .ok (.iload_n 1, 1) := by decide +kernel
theorem dX11_count_17 : decode cX11_count 17 = .ok (.bipush 10, 2) := by decide +kernel
theorem dX11_count_19 : decode cX11_count 19 = .ok (.isub, 1) := by decide +kernel
theorem dX11_count_20 : decode cX11_count 20 = .ok (.iaload, 1) := by decide +kernel
theorem dX11_count_21 : decode cX11_count 21 = .ok (.ireturn, 1) := by decide +kernel
theorem dX11_count_22 : decode cX11_count 22 = .ok (.iload_n 1, 1) := by decide +kernel
theorem dX11_count_23 : decode cX11_count 23 = .ok (.tableswitch 183 0 15 #[77, 85, 93, 104, 115, 126, 137, 148, 159, 170, 183, 183, 183, 183, 183, 175], 77) := by decide +kernel
theorem dX11_count_100 : decode cX11_count 100 = .ok (.aload_n 0, 1) := by decide +kernel
theorem dX11_count_101 : decode cX11_count 101 = .ok (.getfield 12, 3) := by decide +kernel
theorem dX11_count_104 : decode cX11_count 104 = .ok (.getfield 194, 3) := by decide +kernel
theorem dX11_count_107 : decode cX11_count 107 = .ok (.ireturn, 1) := by decide +kernel
theorem dX11_count_108 : decode cX11_count 108 = .ok (.aload_n 0, 1) := by decide +kernel
theorem dX11_count_109 : decode cX11_count 109 = .ok (.getfield 12, 3) := by decide +kernel
theorem dX11_count_112 : decode cX11_count 112 = .ok (.invokevirtual 345, 3) := by decide +kernel
theorem dX11_count_115 : decode cX11_count 115 = .ok (.ireturn, 1) := by decide +kernel
theorem dX11_count_116 : decode cX11_count 116 = .ok (.aload_n 0, 1) := by decide +kernel
theorem dX11_count_117 : decode cX11_count 117 = .ok (.getfield 12, 3) := by decide +kernel
theorem dX11_count_120 : decode cX11_count 120 = .ok (.getfield 145, 3) := by decide +kernel
theorem dX11_count_123 : decode cX11_count 123 = .ok (.invokevirtual 166, 3) := by decide +kernel
theorem dX11_count_126 : decode cX11_count 126 = .ok (.ireturn, 1) := by decide +kernel
theorem dX11_count_127 : decode cX11_count 127 = .ok (.aload_n 0, 1) := by decide +kernel
theorem dX11_count_128 : decode cX11_count 128 = .ok (.getfield 12, 3) := by decide +kernel
theorem dX11_count_131 : decode cX11_count 131 = .ok (.getfield 170, 3) := by decide +kernel
theorem dX11_count_134 : decode cX11_count 134 = .ok (.invokevirtual 166, 3) := by decide +kernel
theorem dX11_count_137 : decode cX11_count 137 = .ok (.ireturn, 1) := by decide +kernel
theorem dX11_count_138 : decode cX11_count 138 = .ok (.aload_n 0, 1) := by decide +kernel
theorem dX11_count_139 : decode cX11_count 139 = .ok (.getfield 12, 3) := by decide +kernel
theorem dX11_count_142 : decode cX11_count 142 = .ok (.getfield 246, 3) := by decide +kernel
theorem dX11_count_145 : decode cX11_count 145 = .ok (.invokevirtual 166, 3) := by decide +kernel
theorem dX11_count_148 : decode cX11_count 148 = .ok (.ireturn, 1) := by decide +kernel
theorem dX11_count_149 : decode cX11_count 149 = .ok (.aload_n 0, 1) := by decide +kernel
theorem dX11_count_150 : decode cX11_count 150 = .ok (.getfield 12, 3) := by decide +kernel
theorem dX11_count_153 : decode cX11_count 153 = .ok (.getfield 266, 3) := by decide +kernel
theorem dX11_count_156 : decode cX11_count 156 = .ok (.invokevirtual 166, 3) := by decide +kernel
theorem dX11_count_159 : decode cX11_count 159 = .ok (.ireturn, 1) := by decide +kernel
theorem dX11_count_160 : decode cX11_count 160 = .ok (.aload_n 0, 1) := by decide +kernel
theorem dX11_count_161 : decode cX11_count 161 = .ok (.getfield 12, 3) := by decide +kernel
theorem dX11_count_164 : decode cX11_count 164 = .ok (.getfield 292, 3) := by decide +kernel
theorem dX11_count_167 : decode cX11_count 167 = .ok (.invokevirtual 166, 3) := by decide +kernel
theorem dX11_count_170 : decode cX11_count 170 = .ok (.ireturn, 1) := by decide +kernel
theorem dX11_count_171 : decode cX11_count 171 = .ok (.aload_n 0, 1) := by decide +kernel
theorem dX11_count_172 : decode cX11_count 172 = .ok (.getfield 12, 3) := by decide +kernel
theorem dX11_count_175 : decode cX11_count 175 = .ok (.getfield 307, 3) := by decide +kernel
theorem dX11_count_178 : decode cX11_count 178 = .ok (.invokevirtual 166, 3) := by decide +kernel
theorem dX11_count_181 : decode cX11_count 181 = .ok (.ireturn, 1) := by decide +kernel
theorem dX11_count_182 : decode cX11_count 182 = .ok (.aload_n 0, 1) := by decide +kernel
theorem dX11_count_183 : decode cX11_count 183 = .ok (.getfield 12, 3) := by decide +kernel
theorem dX11_count_186 : decode cX11_count 186 = .ok (.getfield 322, 3) := by decide +kernel
theorem dX11_count_189 : decode cX11_count 189 = .ok (.invokevirtual 166, 3) := by decide +kernel
theorem dX11_count_192 : decode cX11_count 192 = .ok (.ireturn, 1) := by decide +kernel
theorem dX11_count_193 : decode cX11_count 193 = .ok (.aload_n 0, 1) := by decide +kernel
theorem dX11_count_194 : decode cX11_count 194 = .ok (.getfield 89, 3) := by decide +kernel
theorem dX11_count_197 : decode cX11_count 197 = .ok (.ireturn, 1) := by decide +kernel
theorem dX11_count_198 : decode cX11_count 198 = .ok (.aload_n 0, 1) := by decide +kernel
theorem dX11_count_199 : decode cX11_count 199 = .ok (.getfield 12, 3) := by decide +kernel
theorem dX11_count_202 : decode cX11_count 202 = .ok (.getfield 208, 3) := by decide +kernel
theorem dX11_count_205 : decode cX11_count 205 = .ok (.ireturn, 1) := by decide +kernel
theorem dX11_count_206 : decode cX11_count 206 = .ok (.iconst (-1), 1) := by decide +kernel
theorem dX11_count_207 : decode cX11_count 207 = .ok (.ireturn, 1) := by decide +kernel
set_option maxHeartbeats 4000000 in
set_option maxRecDepth 100000 in
theorem c_X11_count (l : Launch) (E : Nat → ClassId) (D : va_G) (G : th_G) (h0 n : Nat) (hG0 : G h0 = some (15, n)) (x1 : Int32) : Met l yX11_count (tb (.code yX11_count cX11_count 2 (some .int))) (rm 1) (va_Pc [.ref h0, .int x1] (th_P E D G)) (QI E D G (fun r => True)) 0 0 (th_A G) := by
  refine Met.ofW (cc := cX11_count) (maxL := 2) (ret := (some .int)) (by decide) rfl ?_
  intro p e s m args below meth c s₁ B hml hv
  obtain ⟨hav, hI, hN, hK⟩ := hv
  have hx := B.exec
  have hb := B.bytes
  have hr := B.returns
  have hts := atoms_spec (ws := tb (.code yX11_count cX11_count 2 (some .int))) B.pre
  have hown : s.vm.findClass RX11 = some m.cls := findClass_of_methodNamed B.named
  have hlocks := B.notSynchronized
  have hS : va_S (th_A G) s.heap s.heap [] := va_S.rf
  have hl := lv_entry ([.ref h0, .int x1]) (n := 2) (Nat.le_of_ble_eq_true rfl)
  rw [show entryFrame m args 2 = entryFrame m ([.ref h0, .int x1] : List Value).toArray 2 from by rw [hav], lg_entry_eq]
  generalize (lg_sl ([.ref h0, .int x1]) ++ List.replicate (2 - (lg_sl ([.ref h0, .int x1])).length) Slot.unset).toArray = ls at hl ⊢
  have hl : lv_has ls 2 [(0, .ref h0), (1, .int x1)] := hl
  generalize hR : (headSpec (tb (.code yX11_count cX11_count 2 (some .int))) (rm 1)).room = R
  have hR := hR.symm
  generalize hQ : MQ below (QI E D G (fun r => True)) args s 0 0 (th_A G) = QF
  have hQ := hQ.symm
  have J_22 : ∀ (H : Heap) (locs : List Loc) (ls : Array Slot) , lv_has ls 2 [(0, .ref h0), (1, .int x1)] → th_I (okC E) D G [] H → va_S (th_A G) s.heap H locs → W p l e R s m args below meth c H locs 0 0 QF (F0 m 22 ls []) := by
    intro H locs ls  hl  hI hS
    refine lv_iload_n hx hb dX11_count_22 rfl (lv_at hl 1 rfl) ?_
    have k4864 := iv_lo x1
    have k4865 := iv_hi x1
    by_cases c4866 : x1 = 0
    · skip
      have k4867 := iv_eq (X := x1.toInt) (Y := 0) rfl (by decide) c4866
      refine lv_tableIn (tgt := 100) (off := 77) hx hb dX11_count_23 (by omega) (by omega) (by rw [k4867]; rfl) (by decide) ?_
      refine lv_aload_n hx hb dX11_count_100 rfl (lv_at hl 0 rfl) ?_
      obtain ⟨a4868, a4871, a4873, a4875, a4877, a4879, a4881, a4883, a4885, a4887, a4889, w4891, w4892, w4893, w4894, hO, hq4869, hq4870, hq4872, hq4874, hq4876, hq4878, hq4880, hq4882, hq4884, hq4886, hq4888, hq4890⟩ := op_15 hI hG0 List.not_mem_nil
      have hI := th_I.weak (a := h0) hI
      have k4895 : (nI (n % 401)).toInt = ((n % 401 : Nat) : Int) := nI_toInt (by omega)
      refine th_get hx hb hts inT11 hown hK hO rfl 0 (by decide) (hts _ (tb_c wd_345)) rfl rfl dX11_count_101 ?_
      have hI := th_I.close hI hG0 hO (ok_15 hq4869 hq4870 hq4872 hq4874 hq4876 hq4878 hq4880 hq4882 hq4884 hq4886 hq4888 hq4890)
      obtain ⟨a4896, a4898, a4900, a4902, a4904, a4906, a4908, a4910, a4912, a4914, w4916, w4919, w4920, w4921, hO, hq4897, hq4899, hq4901, hq4903, hq4905, hq4907, hq4909, hq4911, hq4913, hq4915, ⟨k4917, k4918⟩⟩ := op_6 hI hq4869 List.not_mem_nil
      have hI := th_I.weak (a := a4868) hI
      refine th_getN hx hb hts inT6 hown hK hN hO rfl 10 (by decide) wn_83 rfl rfl dX11_count_104 ?_
      have hI := th_I.close hI hq4869 hO (ok_6 hq4897 hq4899 hq4901 hq4903 hq4905 hq4907 hq4909 hq4911 hq4913 hq4915 ⟨by omega, by omega⟩)
      have hpost : True := trivial
      rw [hQ]
      exact W.iret (v := w4916) hx hb hr (fun t ht hW => ⟨⟨w4916, (), rfl, hpost, by rw [ht]; exact hI, hN.warm hW, va_K.moved hW.alike hK⟩, hS.F ht⟩) hS.2.2 dX11_count_107
    have k4922 := iv_ne (X := x1.toInt) (Y := 0) rfl (by decide) c4866
    by_cases c4923 : x1 = 1
    · skip
      have k4924 := iv_eq (X := x1.toInt) (Y := 1) rfl (by decide) c4923
      refine lv_tableIn (tgt := 108) (off := 85) hx hb dX11_count_23 (by omega) (by omega) (by rw [k4924]; rfl) (by decide) ?_
      refine lv_aload_n hx hb dX11_count_108 rfl (lv_at hl 0 rfl) ?_
      obtain ⟨a4925, a4928, a4930, a4932, a4934, a4936, a4938, a4940, a4942, a4944, a4946, w4948, w4949, w4950, w4951, hO, hq4926, hq4927, hq4929, hq4931, hq4933, hq4935, hq4937, hq4939, hq4941, hq4943, hq4945, hq4947⟩ := op_15 hI hG0 List.not_mem_nil
      have hI := th_I.weak (a := h0) hI
      have k4952 : (nI (n % 401)).toInt = ((n % 401 : Nat) : Int) := nI_toInt (by omega)
      refine th_get hx hb hts inT11 hown hK hO rfl 0 (by decide) (hts _ (tb_c wd_345)) rfl rfl dX11_count_109 ?_
      have hI := th_I.close hI hG0 hO (ok_15 hq4926 hq4927 hq4929 hq4931 hq4933 hq4935 hq4937 hq4939 hq4941 hq4943 hq4945 hq4947)
      refine th_cVi (As := []) (rest := []) (n := 0) (d := 0) ⟨hx, hb, hml, hown, hts⟩ (c_X6_countStrikes l E D G a4925 hq4926 ) wd_1219 wd_1220 wd_1221 wd_2 wd_1222 (by decide +kernel) ⟨by rw [hR]; exact Nat.le_of_ble_eq_true rfl, by rw [hR]; exact Nat.le_of_ble_eq_true rfl⟩ hI hN hK hS (rc_6 hI hq4926 List.not_mem_nil) rfl rfl hl.1 rfl (Nat.le_of_ble_eq_true rfl) dX11_count_112 ⟨Nat.zero_le _, Nat.zero_le _⟩ (fun r4953 H locs hp hI hS => ?_)
      have hpost : True := trivial
      rw [hQ]
      exact W.iret (v := r4953) hx hb hr (fun t ht hW => ⟨⟨r4953, (), rfl, hpost, by rw [ht]; exact hI, hN.warm hW, va_K.moved hW.alike hK⟩, hS.F ht⟩) hS.2.2 dX11_count_115
    have k4954 := iv_ne (X := x1.toInt) (Y := 1) rfl (by decide) c4923
    by_cases c4955 : x1 = 2
    · skip
      have k4956 := iv_eq (X := x1.toInt) (Y := 2) rfl (by decide) c4955
      refine lv_tableIn (tgt := 116) (off := 93) hx hb dX11_count_23 (by omega) (by omega) (by rw [k4956]; rfl) (by decide) ?_
      refine lv_aload_n hx hb dX11_count_116 rfl (lv_at hl 0 rfl) ?_
      obtain ⟨a4957, a4960, a4962, a4964, a4966, a4968, a4970, a4972, a4974, a4976, a4978, w4980, w4981, w4982, w4983, hO, hq4958, hq4959, hq4961, hq4963, hq4965, hq4967, hq4969, hq4971, hq4973, hq4975, hq4977, hq4979⟩ := op_15 hI hG0 List.not_mem_nil
      have hI := th_I.weak (a := h0) hI
      have k4984 : (nI (n % 401)).toInt = ((n % 401 : Nat) : Int) := nI_toInt (by omega)
      refine th_get hx hb hts inT11 hown hK hO rfl 0 (by decide) (hts _ (tb_c wd_345)) rfl rfl dX11_count_117 ?_
      have hI := th_I.close hI hG0 hO (ok_15 hq4958 hq4959 hq4961 hq4963 hq4965 hq4967 hq4969 hq4971 hq4973 hq4975 hq4977 hq4979)
      obtain ⟨a4985, a4987, a4989, a4991, a4993, a4995, a4997, a4999, a5001, a5003, w5005, w5008, w5009, w5010, hO, hq4986, hq4988, hq4990, hq4992, hq4994, hq4996, hq4998, hq5000, hq5002, hq5004, ⟨k5006, k5007⟩⟩ := op_6 hI hq4958 List.not_mem_nil
      have hI := th_I.weak (a := a4957) hI
      refine th_getN hx hb hts inT6 hown hK hN hO rfl 2 (by decide) wn_61 rfl rfl dX11_count_120 ?_
      have hI := th_I.close hI hq4958 hO (ok_6 hq4986 hq4988 hq4990 hq4992 hq4994 hq4996 hq4998 hq5000 hq5002 hq5004 ⟨by omega, by omega⟩)
      obtain ⟨a5012, w5014, hO, hq5013, ⟨k5015, k5016⟩, k5017⟩ := op_4 hI hq4990 List.not_mem_nil
      have hI := th_I.weak (a := a4989) hI
      have k5018 : (nI 8).toInt = ((8 : Nat) : Int) := nI_toInt (by omega)
      refine th_cVs (As := []) (rest := []) (n := 0) (d := 0) ⟨hx, hb, hml, hown, hts⟩ (c_X4_size l E D H a4989 8 a5012 w5014 hO (by omega) (by omega) (by omega)) wd_506 wd_507 wd_508 wd_3 wd_509 (by decide +kernel) ⟨by rw [hR]; exact Nat.le_of_ble_eq_true rfl, by rw [hR]; exact Nat.le_of_ble_eq_true rfl⟩ hN hK hS ⟨_, hO⟩ rfl rfl hl.1 rfl (Nat.le_of_ble_eq_true rfl) dX11_count_123 ⟨Nat.zero_le _, Nat.zero_le _⟩ (fun r5011 locs hp hS => ?_)
      have hp := hp.symm
      subst hp
      have hI := th_I.close hI hq4990 hO (ok_4 hq5013 ⟨by omega, by omega⟩ (by omega))
      have hpost : True := trivial
      rw [hQ]
      exact W.iret (v := w5014) hx hb hr (fun t ht hW => ⟨⟨w5014, (), rfl, hpost, by rw [ht]; exact hI, hN.warm hW, va_K.moved hW.alike hK⟩, hS.F ht⟩) hS.2.2 dX11_count_126
    have k5019 := iv_ne (X := x1.toInt) (Y := 2) rfl (by decide) c4955
    by_cases c5020 : x1 = 3
    · skip
      have k5021 := iv_eq (X := x1.toInt) (Y := 3) rfl (by decide) c5020
      refine lv_tableIn (tgt := 127) (off := 104) hx hb dX11_count_23 (by omega) (by omega) (by rw [k5021]; rfl) (by decide) ?_
      refine lv_aload_n hx hb dX11_count_127 rfl (lv_at hl 0 rfl) ?_
      obtain ⟨a5022, a5025, a5027, a5029, a5031, a5033, a5035, a5037, a5039, a5041, a5043, w5045, w5046, w5047, w5048, hO, hq5023, hq5024, hq5026, hq5028, hq5030, hq5032, hq5034, hq5036, hq5038, hq5040, hq5042, hq5044⟩ := op_15 hI hG0 List.not_mem_nil
      have hI := th_I.weak (a := h0) hI
      have k5049 : (nI (n % 401)).toInt = ((n % 401 : Nat) : Int) := nI_toInt (by omega)
      refine th_get hx hb hts inT11 hown hK hO rfl 0 (by decide) (hts _ (tb_c wd_345)) rfl rfl dX11_count_128 ?_
      have hI := th_I.close hI hG0 hO (ok_15 hq5023 hq5024 hq5026 hq5028 hq5030 hq5032 hq5034 hq5036 hq5038 hq5040 hq5042 hq5044)
      obtain ⟨a5050, a5052, a5054, a5056, a5058, a5060, a5062, a5064, a5066, a5068, w5070, w5073, w5074, w5075, hO, hq5051, hq5053, hq5055, hq5057, hq5059, hq5061, hq5063, hq5065, hq5067, hq5069, ⟨k5071, k5072⟩⟩ := op_6 hI hq5023 List.not_mem_nil
      have hI := th_I.weak (a := a5022) hI
      refine th_getN hx hb hts inT6 hown hK hN hO rfl 3 (by decide) wn_64 rfl rfl dX11_count_131 ?_
      have hI := th_I.close hI hq5023 hO (ok_6 hq5051 hq5053 hq5055 hq5057 hq5059 hq5061 hq5063 hq5065 hq5067 hq5069 ⟨by omega, by omega⟩)
      obtain ⟨a5077, w5079, hO, hq5078, ⟨k5080, k5081⟩, k5082⟩ := op_4 hI hq5057 List.not_mem_nil
      have hI := th_I.weak (a := a5056) hI
      have k5083 : (nI 6).toInt = ((6 : Nat) : Int) := nI_toInt (by omega)
      refine th_cVs (As := []) (rest := []) (n := 0) (d := 0) ⟨hx, hb, hml, hown, hts⟩ (c_X4_size l E D H a5056 6 a5077 w5079 hO (by omega) (by omega) (by omega)) wd_506 wd_507 wd_508 wd_3 wd_509 (by decide +kernel) ⟨by rw [hR]; exact Nat.le_of_ble_eq_true rfl, by rw [hR]; exact Nat.le_of_ble_eq_true rfl⟩ hN hK hS ⟨_, hO⟩ rfl rfl hl.1 rfl (Nat.le_of_ble_eq_true rfl) dX11_count_134 ⟨Nat.zero_le _, Nat.zero_le _⟩ (fun r5076 locs hp hS => ?_)
      have hp := hp.symm
      subst hp
      have hI := th_I.close hI hq5057 hO (ok_4 hq5078 ⟨by omega, by omega⟩ (by omega))
      have hpost : True := trivial
      rw [hQ]
      exact W.iret (v := w5079) hx hb hr (fun t ht hW => ⟨⟨w5079, (), rfl, hpost, by rw [ht]; exact hI, hN.warm hW, va_K.moved hW.alike hK⟩, hS.F ht⟩) hS.2.2 dX11_count_137
    have k5084 := iv_ne (X := x1.toInt) (Y := 3) rfl (by decide) c5020
    by_cases c5085 : x1 = 4
    · skip
      have k5086 := iv_eq (X := x1.toInt) (Y := 4) rfl (by decide) c5085
      refine lv_tableIn (tgt := 138) (off := 115) hx hb dX11_count_23 (by omega) (by omega) (by rw [k5086]; rfl) (by decide) ?_
      refine lv_aload_n hx hb dX11_count_138 rfl (lv_at hl 0 rfl) ?_
      obtain ⟨a5087, a5090, a5092, a5094, a5096, a5098, a5100, a5102, a5104, a5106, a5108, w5110, w5111, w5112, w5113, hO, hq5088, hq5089, hq5091, hq5093, hq5095, hq5097, hq5099, hq5101, hq5103, hq5105, hq5107, hq5109⟩ := op_15 hI hG0 List.not_mem_nil
      have hI := th_I.weak (a := h0) hI
      have k5114 : (nI (n % 401)).toInt = ((n % 401 : Nat) : Int) := nI_toInt (by omega)
      refine th_get hx hb hts inT11 hown hK hO rfl 0 (by decide) (hts _ (tb_c wd_345)) rfl rfl dX11_count_139 ?_
      have hI := th_I.close hI hG0 hO (ok_15 hq5088 hq5089 hq5091 hq5093 hq5095 hq5097 hq5099 hq5101 hq5103 hq5105 hq5107 hq5109)
      obtain ⟨a5115, a5117, a5119, a5121, a5123, a5125, a5127, a5129, a5131, a5133, w5135, w5138, w5139, w5140, hO, hq5116, hq5118, hq5120, hq5122, hq5124, hq5126, hq5128, hq5130, hq5132, hq5134, ⟨k5136, k5137⟩⟩ := op_6 hI hq5088 List.not_mem_nil
      have hI := th_I.weak (a := a5087) hI
      refine th_getN hx hb hts inT6 hown hK hN hO rfl 4 (by decide) wn_68 rfl rfl dX11_count_142 ?_
      have hI := th_I.close hI hq5088 hO (ok_6 hq5116 hq5118 hq5120 hq5122 hq5124 hq5126 hq5128 hq5130 hq5132 hq5134 ⟨by omega, by omega⟩)
      obtain ⟨a5142, w5144, hO, hq5143, ⟨k5145, k5146⟩, k5147⟩ := op_4 hI hq5124 List.not_mem_nil
      have hI := th_I.weak (a := a5123) hI
      have k5148 : (nI 6).toInt = ((6 : Nat) : Int) := nI_toInt (by omega)
      refine th_cVs (As := []) (rest := []) (n := 0) (d := 0) ⟨hx, hb, hml, hown, hts⟩ (c_X4_size l E D H a5123 6 a5142 w5144 hO (by omega) (by omega) (by omega)) wd_506 wd_507 wd_508 wd_3 wd_509 (by decide +kernel) ⟨by rw [hR]; exact Nat.le_of_ble_eq_true rfl, by rw [hR]; exact Nat.le_of_ble_eq_true rfl⟩ hN hK hS ⟨_, hO⟩ rfl rfl hl.1 rfl (Nat.le_of_ble_eq_true rfl) dX11_count_145 ⟨Nat.zero_le _, Nat.zero_le _⟩ (fun r5141 locs hp hS => ?_)
      have hp := hp.symm
      subst hp
      have hI := th_I.close hI hq5124 hO (ok_4 hq5143 ⟨by omega, by omega⟩ (by omega))
      have hpost : True := trivial
      rw [hQ]
      exact W.iret (v := w5144) hx hb hr (fun t ht hW => ⟨⟨w5144, (), rfl, hpost, by rw [ht]; exact hI, hN.warm hW, va_K.moved hW.alike hK⟩, hS.F ht⟩) hS.2.2 dX11_count_148
    have k5149 := iv_ne (X := x1.toInt) (Y := 4) rfl (by decide) c5085
    by_cases c5150 : x1 = 5
    · skip
      have k5151 := iv_eq (X := x1.toInt) (Y := 5) rfl (by decide) c5150
      refine lv_tableIn (tgt := 149) (off := 126) hx hb dX11_count_23 (by omega) (by omega) (by rw [k5151]; rfl) (by decide) ?_
      refine lv_aload_n hx hb dX11_count_149 rfl (lv_at hl 0 rfl) ?_
      obtain ⟨a5152, a5155, a5157, a5159, a5161, a5163, a5165, a5167, a5169, a5171, a5173, w5175, w5176, w5177, w5178, hO, hq5153, hq5154, hq5156, hq5158, hq5160, hq5162, hq5164, hq5166, hq5168, hq5170, hq5172, hq5174⟩ := op_15 hI hG0 List.not_mem_nil
      have hI := th_I.weak (a := h0) hI
      have k5179 : (nI (n % 401)).toInt = ((n % 401 : Nat) : Int) := nI_toInt (by omega)
      refine th_get hx hb hts inT11 hown hK hO rfl 0 (by decide) (hts _ (tb_c wd_345)) rfl rfl dX11_count_150 ?_
      have hI := th_I.close hI hG0 hO (ok_15 hq5153 hq5154 hq5156 hq5158 hq5160 hq5162 hq5164 hq5166 hq5168 hq5170 hq5172 hq5174)
      obtain ⟨a5180, a5182, a5184, a5186, a5188, a5190, a5192, a5194, a5196, a5198, w5200, w5203, w5204, w5205, hO, hq5181, hq5183, hq5185, hq5187, hq5189, hq5191, hq5193, hq5195, hq5197, hq5199, ⟨k5201, k5202⟩⟩ := op_6 hI hq5153 List.not_mem_nil
      have hI := th_I.weak (a := a5152) hI
      refine th_getN hx hb hts inT6 hown hK hN hO rfl 5 (by decide) wn_71 rfl rfl dX11_count_153 ?_
      have hI := th_I.close hI hq5153 hO (ok_6 hq5181 hq5183 hq5185 hq5187 hq5189 hq5191 hq5193 hq5195 hq5197 hq5199 ⟨by omega, by omega⟩)
      obtain ⟨a5207, w5209, hO, hq5208, ⟨k5210, k5211⟩, k5212⟩ := op_4 hI hq5191 List.not_mem_nil
      have hI := th_I.weak (a := a5190) hI
      have k5213 : (nI 16).toInt = ((16 : Nat) : Int) := nI_toInt (by omega)
      refine th_cVs (As := []) (rest := []) (n := 0) (d := 0) ⟨hx, hb, hml, hown, hts⟩ (c_X4_size l E D H a5190 16 a5207 w5209 hO (by omega) (by omega) (by omega)) wd_506 wd_507 wd_508 wd_3 wd_509 (by decide +kernel) ⟨by rw [hR]; exact Nat.le_of_ble_eq_true rfl, by rw [hR]; exact Nat.le_of_ble_eq_true rfl⟩ hN hK hS ⟨_, hO⟩ rfl rfl hl.1 rfl (Nat.le_of_ble_eq_true rfl) dX11_count_156 ⟨Nat.zero_le _, Nat.zero_le _⟩ (fun r5206 locs hp hS => ?_)
      have hp := hp.symm
      subst hp
      have hI := th_I.close hI hq5191 hO (ok_4 hq5208 ⟨by omega, by omega⟩ (by omega))
      have hpost : True := trivial
      rw [hQ]
      exact W.iret (v := w5209) hx hb hr (fun t ht hW => ⟨⟨w5209, (), rfl, hpost, by rw [ht]; exact hI, hN.warm hW, va_K.moved hW.alike hK⟩, hS.F ht⟩) hS.2.2 dX11_count_159
    have k5214 := iv_ne (X := x1.toInt) (Y := 5) rfl (by decide) c5150
    by_cases c5215 : x1 = 6
    · skip
      have k5216 := iv_eq (X := x1.toInt) (Y := 6) rfl (by decide) c5215
      refine lv_tableIn (tgt := 160) (off := 137) hx hb dX11_count_23 (by omega) (by omega) (by rw [k5216]; rfl) (by decide) ?_
      refine lv_aload_n hx hb dX11_count_160 rfl (lv_at hl 0 rfl) ?_
      obtain ⟨a5217, a5220, a5222, a5224, a5226, a5228, a5230, a5232, a5234, a5236, a5238, w5240, w5241, w5242, w5243, hO, hq5218, hq5219, hq5221, hq5223, hq5225, hq5227, hq5229, hq5231, hq5233, hq5235, hq5237, hq5239⟩ := op_15 hI hG0 List.not_mem_nil
      have hI := th_I.weak (a := h0) hI
      have k5244 : (nI (n % 401)).toInt = ((n % 401 : Nat) : Int) := nI_toInt (by omega)
      refine th_get hx hb hts inT11 hown hK hO rfl 0 (by decide) (hts _ (tb_c wd_345)) rfl rfl dX11_count_161 ?_
      have hI := th_I.close hI hG0 hO (ok_15 hq5218 hq5219 hq5221 hq5223 hq5225 hq5227 hq5229 hq5231 hq5233 hq5235 hq5237 hq5239)
      obtain ⟨a5245, a5247, a5249, a5251, a5253, a5255, a5257, a5259, a5261, a5263, w5265, w5268, w5269, w5270, hO, hq5246, hq5248, hq5250, hq5252, hq5254, hq5256, hq5258, hq5260, hq5262, hq5264, ⟨k5266, k5267⟩⟩ := op_6 hI hq5218 List.not_mem_nil
      have hI := th_I.weak (a := a5217) hI
      refine th_getN hx hb hts inT6 hown hK hN hO rfl 6 (by decide) wn_74 rfl rfl dX11_count_164 ?_
      have hI := th_I.close hI hq5218 hO (ok_6 hq5246 hq5248 hq5250 hq5252 hq5254 hq5256 hq5258 hq5260 hq5262 hq5264 ⟨by omega, by omega⟩)
      obtain ⟨a5272, w5274, hO, hq5273, ⟨k5275, k5276⟩, k5277⟩ := op_4 hI hq5258 List.not_mem_nil
      have hI := th_I.weak (a := a5257) hI
      have k5278 : (nI 10).toInt = ((10 : Nat) : Int) := nI_toInt (by omega)
      refine th_cVs (As := []) (rest := []) (n := 0) (d := 0) ⟨hx, hb, hml, hown, hts⟩ (c_X4_size l E D H a5257 10 a5272 w5274 hO (by omega) (by omega) (by omega)) wd_506 wd_507 wd_508 wd_3 wd_509 (by decide +kernel) ⟨by rw [hR]; exact Nat.le_of_ble_eq_true rfl, by rw [hR]; exact Nat.le_of_ble_eq_true rfl⟩ hN hK hS ⟨_, hO⟩ rfl rfl hl.1 rfl (Nat.le_of_ble_eq_true rfl) dX11_count_167 ⟨Nat.zero_le _, Nat.zero_le _⟩ (fun r5271 locs hp hS => ?_)
      have hp := hp.symm
      subst hp
      have hI := th_I.close hI hq5258 hO (ok_4 hq5273 ⟨by omega, by omega⟩ (by omega))
      have hpost : True := trivial
      rw [hQ]
      exact W.iret (v := w5274) hx hb hr (fun t ht hW => ⟨⟨w5274, (), rfl, hpost, by rw [ht]; exact hI, hN.warm hW, va_K.moved hW.alike hK⟩, hS.F ht⟩) hS.2.2 dX11_count_170
    have k5279 := iv_ne (X := x1.toInt) (Y := 6) rfl (by decide) c5215
    by_cases c5280 : x1 = 7
    · skip
      have k5281 := iv_eq (X := x1.toInt) (Y := 7) rfl (by decide) c5280
      refine lv_tableIn (tgt := 171) (off := 148) hx hb dX11_count_23 (by omega) (by omega) (by rw [k5281]; rfl) (by decide) ?_
      refine lv_aload_n hx hb dX11_count_171 rfl (lv_at hl 0 rfl) ?_
      obtain ⟨a5282, a5285, a5287, a5289, a5291, a5293, a5295, a5297, a5299, a5301, a5303, w5305, w5306, w5307, w5308, hO, hq5283, hq5284, hq5286, hq5288, hq5290, hq5292, hq5294, hq5296, hq5298, hq5300, hq5302, hq5304⟩ := op_15 hI hG0 List.not_mem_nil
      have hI := th_I.weak (a := h0) hI
      have k5309 : (nI (n % 401)).toInt = ((n % 401 : Nat) : Int) := nI_toInt (by omega)
      refine th_get hx hb hts inT11 hown hK hO rfl 0 (by decide) (hts _ (tb_c wd_345)) rfl rfl dX11_count_172 ?_
      have hI := th_I.close hI hG0 hO (ok_15 hq5283 hq5284 hq5286 hq5288 hq5290 hq5292 hq5294 hq5296 hq5298 hq5300 hq5302 hq5304)
      obtain ⟨a5310, a5312, a5314, a5316, a5318, a5320, a5322, a5324, a5326, a5328, w5330, w5333, w5334, w5335, hO, hq5311, hq5313, hq5315, hq5317, hq5319, hq5321, hq5323, hq5325, hq5327, hq5329, ⟨k5331, k5332⟩⟩ := op_6 hI hq5283 List.not_mem_nil
      have hI := th_I.weak (a := a5282) hI
      refine th_getN hx hb hts inT6 hown hK hN hO rfl 7 (by decide) wn_77 rfl rfl dX11_count_175 ?_
      have hI := th_I.close hI hq5283 hO (ok_6 hq5311 hq5313 hq5315 hq5317 hq5319 hq5321 hq5323 hq5325 hq5327 hq5329 ⟨by omega, by omega⟩)
      obtain ⟨a5337, w5339, hO, hq5338, ⟨k5340, k5341⟩, k5342⟩ := op_4 hI hq5325 List.not_mem_nil
      have hI := th_I.weak (a := a5324) hI
      have k5343 : (nI 6).toInt = ((6 : Nat) : Int) := nI_toInt (by omega)
      refine th_cVs (As := []) (rest := []) (n := 0) (d := 0) ⟨hx, hb, hml, hown, hts⟩ (c_X4_size l E D H a5324 6 a5337 w5339 hO (by omega) (by omega) (by omega)) wd_506 wd_507 wd_508 wd_3 wd_509 (by decide +kernel) ⟨by rw [hR]; exact Nat.le_of_ble_eq_true rfl, by rw [hR]; exact Nat.le_of_ble_eq_true rfl⟩ hN hK hS ⟨_, hO⟩ rfl rfl hl.1 rfl (Nat.le_of_ble_eq_true rfl) dX11_count_178 ⟨Nat.zero_le _, Nat.zero_le _⟩ (fun r5336 locs hp hS => ?_)
      have hp := hp.symm
      subst hp
      have hI := th_I.close hI hq5325 hO (ok_4 hq5338 ⟨by omega, by omega⟩ (by omega))
      have hpost : True := trivial
      rw [hQ]
      exact W.iret (v := w5339) hx hb hr (fun t ht hW => ⟨⟨w5339, (), rfl, hpost, by rw [ht]; exact hI, hN.warm hW, va_K.moved hW.alike hK⟩, hS.F ht⟩) hS.2.2 dX11_count_181
    have k5344 := iv_ne (X := x1.toInt) (Y := 7) rfl (by decide) c5280
    by_cases c5345 : x1 = 8
    · skip
      have k5346 := iv_eq (X := x1.toInt) (Y := 8) rfl (by decide) c5345
      refine lv_tableIn (tgt := 182) (off := 159) hx hb dX11_count_23 (by omega) (by omega) (by rw [k5346]; rfl) (by decide) ?_
      refine lv_aload_n hx hb dX11_count_182 rfl (lv_at hl 0 rfl) ?_
      obtain ⟨a5347, a5350, a5352, a5354, a5356, a5358, a5360, a5362, a5364, a5366, a5368, w5370, w5371, w5372, w5373, hO, hq5348, hq5349, hq5351, hq5353, hq5355, hq5357, hq5359, hq5361, hq5363, hq5365, hq5367, hq5369⟩ := op_15 hI hG0 List.not_mem_nil
      have hI := th_I.weak (a := h0) hI
      have k5374 : (nI (n % 401)).toInt = ((n % 401 : Nat) : Int) := nI_toInt (by omega)
      refine th_get hx hb hts inT11 hown hK hO rfl 0 (by decide) (hts _ (tb_c wd_345)) rfl rfl dX11_count_183 ?_
      have hI := th_I.close hI hG0 hO (ok_15 hq5348 hq5349 hq5351 hq5353 hq5355 hq5357 hq5359 hq5361 hq5363 hq5365 hq5367 hq5369)
      obtain ⟨a5375, a5377, a5379, a5381, a5383, a5385, a5387, a5389, a5391, a5393, w5395, w5398, w5399, w5400, hO, hq5376, hq5378, hq5380, hq5382, hq5384, hq5386, hq5388, hq5390, hq5392, hq5394, ⟨k5396, k5397⟩⟩ := op_6 hI hq5348 List.not_mem_nil
      have hI := th_I.weak (a := a5347) hI
      refine th_getN hx hb hts inT6 hown hK hN hO rfl 8 (by decide) wn_80 rfl rfl dX11_count_186 ?_
      have hI := th_I.close hI hq5348 hO (ok_6 hq5376 hq5378 hq5380 hq5382 hq5384 hq5386 hq5388 hq5390 hq5392 hq5394 ⟨by omega, by omega⟩)
      obtain ⟨a5402, w5404, hO, hq5403, ⟨k5405, k5406⟩, k5407⟩ := op_4 hI hq5392 List.not_mem_nil
      have hI := th_I.weak (a := a5391) hI
      have k5408 : (nI 6).toInt = ((6 : Nat) : Int) := nI_toInt (by omega)
      refine th_cVs (As := []) (rest := []) (n := 0) (d := 0) ⟨hx, hb, hml, hown, hts⟩ (c_X4_size l E D H a5391 6 a5402 w5404 hO (by omega) (by omega) (by omega)) wd_506 wd_507 wd_508 wd_3 wd_509 (by decide +kernel) ⟨by rw [hR]; exact Nat.le_of_ble_eq_true rfl, by rw [hR]; exact Nat.le_of_ble_eq_true rfl⟩ hN hK hS ⟨_, hO⟩ rfl rfl hl.1 rfl (Nat.le_of_ble_eq_true rfl) dX11_count_189 ⟨Nat.zero_le _, Nat.zero_le _⟩ (fun r5401 locs hp hS => ?_)
      have hp := hp.symm
      subst hp
      have hI := th_I.close hI hq5392 hO (ok_4 hq5403 ⟨by omega, by omega⟩ (by omega))
      have hpost : True := trivial
      rw [hQ]
      exact W.iret (v := w5404) hx hb hr (fun t ht hW => ⟨⟨w5404, (), rfl, hpost, by rw [ht]; exact hI, hN.warm hW, va_K.moved hW.alike hK⟩, hS.F ht⟩) hS.2.2 dX11_count_192
    have k5409 := iv_ne (X := x1.toInt) (Y := 8) rfl (by decide) c5345
    by_cases c5410 : x1 = 9
    · skip
      have k5411 := iv_eq (X := x1.toInt) (Y := 9) rfl (by decide) c5410
      refine lv_tableIn (tgt := 193) (off := 170) hx hb dX11_count_23 (by omega) (by omega) (by rw [k5411]; rfl) (by decide) ?_
      refine lv_aload_n hx hb dX11_count_193 rfl (lv_at hl 0 rfl) ?_
      obtain ⟨a5412, a5415, a5417, a5419, a5421, a5423, a5425, a5427, a5429, a5431, a5433, w5435, w5436, w5437, w5438, hO, hq5413, hq5414, hq5416, hq5418, hq5420, hq5422, hq5424, hq5426, hq5428, hq5430, hq5432, hq5434⟩ := op_15 hI hG0 List.not_mem_nil
      have hI := th_I.weak (a := h0) hI
      have k5439 : (nI (n % 401)).toInt = ((n % 401 : Nat) : Int) := nI_toInt (by omega)
      refine th_get hx hb hts inT11 hown hK hO rfl 12 (by decide) (hts _ (tb_c wd_357)) rfl rfl dX11_count_194 ?_
      have hI := th_I.close hI hG0 hO (ok_15 hq5413 hq5414 hq5416 hq5418 hq5420 hq5422 hq5424 hq5426 hq5428 hq5430 hq5432 hq5434)
      have hpost : True := trivial
      rw [hQ]
      exact W.iret (v := (nI (n % 401))) hx hb hr (fun t ht hW => ⟨⟨(nI (n % 401)), (), rfl, hpost, by rw [ht]; exact hI, hN.warm hW, va_K.moved hW.alike hK⟩, hS.F ht⟩) hS.2.2 dX11_count_197
    have k5440 := iv_ne (X := x1.toInt) (Y := 9) rfl (by decide) c5410
    by_cases c5441 : x1 = 10
    · skip
      have k5442 := iv_eq (X := x1.toInt) (Y := 10) rfl (by decide) c5441
      refine lv_tableIn (tgt := 206) (off := 183) hx hb dX11_count_23 (by omega) (by omega) (by rw [k5442]; rfl) (by decide) ?_
      refine lv_iconst (v := (-1)) hx hb dX11_count_206 (by decide) ?_
      have hpost : True := trivial
      rw [hQ]
      exact W.iret (v := (-1)) hx hb hr (fun t ht hW => ⟨⟨(-1), (), rfl, hpost, by rw [ht]; exact hI, hN.warm hW, va_K.moved hW.alike hK⟩, hS.F ht⟩) hS.2.2 dX11_count_207
    have k5443 := iv_ne (X := x1.toInt) (Y := 10) rfl (by decide) c5441
    by_cases c5444 : x1 = 11
    · skip
      have k5445 := iv_eq (X := x1.toInt) (Y := 11) rfl (by decide) c5444
      refine lv_tableIn (tgt := 206) (off := 183) hx hb dX11_count_23 (by omega) (by omega) (by rw [k5445]; rfl) (by decide) ?_
      refine lv_iconst (v := (-1)) hx hb dX11_count_206 (by decide) ?_
      have hpost : True := trivial
      rw [hQ]
      exact W.iret (v := (-1)) hx hb hr (fun t ht hW => ⟨⟨(-1), (), rfl, hpost, by rw [ht]; exact hI, hN.warm hW, va_K.moved hW.alike hK⟩, hS.F ht⟩) hS.2.2 dX11_count_207
    have k5446 := iv_ne (X := x1.toInt) (Y := 11) rfl (by decide) c5444
    by_cases c5447 : x1 = 12
    · skip
      have k5448 := iv_eq (X := x1.toInt) (Y := 12) rfl (by decide) c5447
      refine lv_tableIn (tgt := 206) (off := 183) hx hb dX11_count_23 (by omega) (by omega) (by rw [k5448]; rfl) (by decide) ?_
      refine lv_iconst (v := (-1)) hx hb dX11_count_206 (by decide) ?_
      have hpost : True := trivial
      rw [hQ]
      exact W.iret (v := (-1)) hx hb hr (fun t ht hW => ⟨⟨(-1), (), rfl, hpost, by rw [ht]; exact hI, hN.warm hW, va_K.moved hW.alike hK⟩, hS.F ht⟩) hS.2.2 dX11_count_207
    have k5449 := iv_ne (X := x1.toInt) (Y := 12) rfl (by decide) c5447
    by_cases c5450 : x1 = 13
    · skip
      have k5451 := iv_eq (X := x1.toInt) (Y := 13) rfl (by decide) c5450
      refine lv_tableIn (tgt := 206) (off := 183) hx hb dX11_count_23 (by omega) (by omega) (by rw [k5451]; rfl) (by decide) ?_
      refine lv_iconst (v := (-1)) hx hb dX11_count_206 (by decide) ?_
      have hpost : True := trivial
      rw [hQ]
      exact W.iret (v := (-1)) hx hb hr (fun t ht hW => ⟨⟨(-1), (), rfl, hpost, by rw [ht]; exact hI, hN.warm hW, va_K.moved hW.alike hK⟩, hS.F ht⟩) hS.2.2 dX11_count_207
    have k5452 := iv_ne (X := x1.toInt) (Y := 13) rfl (by decide) c5450
    by_cases c5453 : x1 = 14
    · skip
      have k5454 := iv_eq (X := x1.toInt) (Y := 14) rfl (by decide) c5453
      refine lv_tableIn (tgt := 206) (off := 183) hx hb dX11_count_23 (by omega) (by omega) (by rw [k5454]; rfl) (by decide) ?_
      refine lv_iconst (v := (-1)) hx hb dX11_count_206 (by decide) ?_
      have hpost : True := trivial
      rw [hQ]
      exact W.iret (v := (-1)) hx hb hr (fun t ht hW => ⟨⟨(-1), (), rfl, hpost, by rw [ht]; exact hI, hN.warm hW, va_K.moved hW.alike hK⟩, hS.F ht⟩) hS.2.2 dX11_count_207
    have k5455 := iv_ne (X := x1.toInt) (Y := 14) rfl (by decide) c5453
    by_cases c5456 : x1 = 15
    · skip
      have k5457 := iv_eq (X := x1.toInt) (Y := 15) rfl (by decide) c5456
      refine lv_tableIn (tgt := 198) (off := 175) hx hb dX11_count_23 (by omega) (by omega) (by rw [k5457]; rfl) (by decide) ?_
      refine lv_aload_n hx hb dX11_count_198 rfl (lv_at hl 0 rfl) ?_
      obtain ⟨a5458, a5461, a5463, a5465, a5467, a5469, a5471, a5473, a5475, a5477, a5479, w5481, w5482, w5483, w5484, hO, hq5459, hq5460, hq5462, hq5464, hq5466, hq5468, hq5470, hq5472, hq5474, hq5476, hq5478, hq5480⟩ := op_15 hI hG0 List.not_mem_nil
      have hI := th_I.weak (a := h0) hI
      have k5485 : (nI (n % 401)).toInt = ((n % 401 : Nat) : Int) := nI_toInt (by omega)
      refine th_get hx hb hts inT11 hown hK hO rfl 0 (by decide) (hts _ (tb_c wd_345)) rfl rfl dX11_count_199 ?_
      have hI := th_I.close hI hG0 hO (ok_15 hq5459 hq5460 hq5462 hq5464 hq5466 hq5468 hq5470 hq5472 hq5474 hq5476 hq5478 hq5480)
      obtain ⟨a5486, a5488, a5490, a5492, a5494, a5496, a5498, a5500, a5502, a5504, w5506, w5509, w5510, w5511, hO, hq5487, hq5489, hq5491, hq5493, hq5495, hq5497, hq5499, hq5501, hq5503, hq5505, ⟨k5507, k5508⟩⟩ := op_6 hI hq5459 List.not_mem_nil
      have hI := th_I.weak (a := a5458) hI
      refine th_getN hx hb hts inT6 hown hK hN hO rfl 11 (by decide) wn_85 rfl rfl dX11_count_202 ?_
      have hI := th_I.close hI hq5459 hO (ok_6 hq5487 hq5489 hq5491 hq5493 hq5495 hq5497 hq5499 hq5501 hq5503 hq5505 ⟨by omega, by omega⟩)
      have hpost : True := trivial
      rw [hQ]
      exact W.iret (v := w5509) hx hb hr (fun t ht hW => ⟨⟨w5509, (), rfl, hpost, by rw [ht]; exact hI, hN.warm hW, va_K.moved hW.alike hK⟩, hS.F ht⟩) hS.2.2 dX11_count_205
    have k5512 := iv_ne (X := x1.toInt) (Y := 15) rfl (by decide) c5456
    refine lv_tableOut (tgt := 206) hx hb dX11_count_23 (by omega) (by decide) ?_
    refine lv_iconst (v := (-1)) hx hb dX11_count_206 (by decide) ?_
    have hpost : True := trivial
    rw [hQ]
    exact W.iret (v := (-1)) hx hb hr (fun t ht hW => ⟨⟨(-1), (), rfl, hpost, by rw [ht]; exact hI, hN.warm hW, va_K.moved hW.alike hK⟩, hS.F ht⟩) hS.2.2 dX11_count_207
  refine lv_iload_n hx hb dX11_count_0 rfl (lv_at hl 1 rfl) ?_
  refine lv_bipush (v := 10) hx hb dX11_count_1 (by decide) ?_
  have k5513 := iv_lo x1
  have k5514 := iv_hi x1
  refine lv_icmp_lt (tgt := 22) hx hb dX11_count_3 (by decide) (fun c5515 => ?_) (fun c5515 => ?_)
  · skip
    have k5516 := iv_lt (X := x1.toInt) (Y := (10)) rfl (by decide) c5515
    exact J_22 s.heap [] ls  (lv_sub hl [0, 1] rfl)  hI hS
  · skip
    have k5517 := iv_nlt (X := x1.toInt) (Y := (10)) rfl (by decide) c5515
    refine lv_iload_n hx hb dX11_count_6 rfl (lv_at hl 1 rfl) ?_
    refine lv_bipush (v := 14) hx hb dX11_count_7 (by decide) ?_
    refine lv_icmp_gt (tgt := 22) hx hb dX11_count_9 (by decide) (fun c5518 => ?_) (fun c5518 => ?_)
    · skip
      have k5519 := iv_lt (X := (14)) (Y := x1.toInt) (by decide) rfl c5518
      exact J_22 s.heap [] ls  (lv_sub hl [0, 1] rfl)  hI hS
    · skip
      have k5520 := iv_nlt (X := (14)) (Y := x1.toInt) (by decide) rfl c5518
      refine lv_aload_n hx hb dX11_count_12 rfl (lv_at hl 0 rfl) ?_
      obtain ⟨a5521, a5524, a5526, a5528, a5530, a5532, a5534, a5536, a5538, a5540, a5542, w5544, w5545, w5546, w5547, hO, hq5522, hq5523, hq5525, hq5527, hq5529, hq5531, hq5533, hq5535, hq5537, hq5539, hq5541, hq5543⟩ := op_15 hI hG0 List.not_mem_nil
      have hI := th_I.weak (a := h0) hI
      have k5548 : (nI (n % 401)).toInt = ((n % 401 : Nat) : Int) := nI_toInt (by omega)
      refine th_get hx hb hts inT11 hown hK hO rfl 3 (by decide) (hts _ (tb_c wd_348)) rfl rfl dX11_count_13 ?_
      refine lv_iload_n hx hb dX11_count_16 rfl (lv_at hl 1 rfl) ?_
      refine lv_bipush (v := 10) hx hb dX11_count_17 (by decide) ?_
      refine lv_isub hx hb dX11_count_19 ?_
      refine lv_topi (fun v5549 e5550 => ?_)
      have tv5549 : v5549.toInt = x1.toInt - (10) := iv_sub rfl (by decide) e5550 (by omega) (by omega)
      obtain ⟨_, hA5551⟩ := op_0 hI hq5527 (th_ne hG0 hq5527 (show (15 : Nat) ≠ 0 by decide))
      refine th_iald hx hb hK hA5551 0 rfl (iv_in (X := v5549.toInt) rfl (by omega) (by omega)) dX11_count_20 (fun v5552 _ => ?_)
      have hI := th_I.close hI hG0 hO (ok_15 hq5522 hq5523 hq5525 hq5527 hq5529 hq5531 hq5533 hq5535 hq5537 hq5539 hq5541 hq5543)
      have hpost : True := trivial
      rw [hQ]
      exact W.iret (v := v5552) hx hb hr (fun t ht hW => ⟨⟨v5552, (), rfl, hpost, by rw [ht]; exact hI, hN.warm hW, va_K.moved hW.alike hK⟩, hS.F ht⟩) hS.2.2 dX11_count_21
