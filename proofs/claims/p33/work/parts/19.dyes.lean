theorem wn_70 : (Cond.fieldLinkNest RX1 (50 : Nat) "NineRiver$State" "pours" "LNineRiver$Rows;" "NineRiver") ∈ lw_tbl := List.mem_append_right _ (List.mem_of_getElem? (i := 70) (by decide +kernel))
theorem wn_73 : (Cond.fieldLinkNest RX5 (58 : Nat) "NineRiver$State" "sights" "LNineRiver$Rows;" "NineRiver") ∈ lw_tbl := List.mem_append_right _ (List.mem_of_getElem? (i := 73) (by decide +kernel))
theorem wn_76 : (Cond.fieldLinkNest RX1 (93 : Nat) "NineRiver$State" "jobs" "LNineRiver$Rows;" "NineRiver") ∈ lw_tbl := List.mem_append_right _ (List.mem_of_getElem? (i := 76) (by decide +kernel))
theorem wn_946 : (Cond.methodLinkNest RX1 (86 : Nat) yX11_isCell "NineRiver") ∈ lw_tbl := List.mem_append_right _ (List.mem_of_getElem? (i := 946) (by decide +kernel))
theorem wp_25 : Cond.selects RX1 yX1_placeOf yX1_placeOf ∈ TB := tv 25 (by decide +kernel) (by decide +kernel)
theorem wp_28 : Cond.selects RX5 yX5_look yX5_look ∈ TB := tv 28 (by decide +kernel) (by decide +kernel)
theorem wp_29 : Cond.selects RX5 yX5_mark yX5_mark ∈ TB := tv 29 (by decide +kernel) (by decide +kernel)
theorem wd_1001 : (Jvm.Cond.instanceMethod yX5_look) ∈ TB := tw 1001 (by decide +kernel) (by decide +kernel)
theorem wd_1002 : (Cond.code yX5_look cX5_look 5 (Option.none : Option Jvm.ClassFile.FieldType)) ∈ TB := tw 1002 (by decide +kernel) (by decide +kernel)
theorem wd_1003 : (Cond.methodLink RX5 (55 : Nat) yJ7_fill_53178) ∈ TB := tw 1003 (by decide +kernel) (by decide +kernel)
theorem wd_1004 : (Cond.methodLink RX5 (64 : Nat) yX4_size) ∈ TB := tw 1004 (by decide +kernel) (by decide +kernel)
theorem wd_1005 : (Cond.methodLink RX5 (70 : Nat) yX4_at) ∈ TB := tw 1005 (by decide +kernel) (by decide +kernel)
theorem wd_1006 : (Cond.methodLink RX5 (74 : Nat) yX9_traceBack) ∈ TB := tw 1006 (by decide +kernel) (by decide +kernel)
theorem wd_1007 : (Cond.methodLink RX5 (80 : Nat) yX5_mark) ∈ TB := tw 1007 (by decide +kernel) (by decide +kernel)
theorem wd_1009 : (Jvm.Cond.instanceMethod yX5_mark) ∈ TB := tw 1009 (by decide +kernel) (by decide +kernel)
theorem wd_1010 : (Cond.code yX5_mark cX5_mark 6 (Option.none : Option Jvm.ClassFile.FieldType)) ∈ TB := tw 1010 (by decide +kernel) (by decide +kernel)
theorem wd_1011 : (Cond.methodLink RX5 (84 : Nat) yX9_originsAt) ∈ TB := tw 1011 (by decide +kernel) (by decide +kernel)
theorem wd_1012 : (Jvm.Cond.instanceMethod yX9_originsAt) ∈ TB := tw 1012 (by decide +kernel) (by decide +kernel)
theorem wd_1013 : (Cond.selects RX9 yX9_originsAt yX9_originsAt) ∈ TB := tw 1013 (by decide +kernel) (by decide +kernel)
theorem wd_1014 : (Cond.code yX9_originsAt cX9_originsAt 2 (Option.some Jvm.ClassFile.FieldType.int)) ∈ TB := tw 1014 (by decide +kernel) (by decide +kernel)
theorem wd_1078 : (Cond.methodLink RX1 (118 : Nat) arraycopyName) ∈ TB := tw 1078 (by decide +kernel) (by decide +kernel)
theorem wd_236 : (Cond.fieldLink RX1 (38 : Nat) "NineRiver$Dyes" "state" "LNineRiver$State;") ∈ TB := tw 236 (by decide +kernel) (by decide +kernel)
theorem wd_237 : (Cond.fieldLink RX1 (42 : Nat) "NineRiver$Dyes" "stream" "LNineRiver$Stream;") ∈ TB := tw 237 (by decide +kernel) (by decide +kernel)
theorem wd_238 : (Cond.fieldLink RX1 (46 : Nat) "NineRiver$Dyes" "travel" "LNineRiver$Travel;") ∈ TB := tw 238 (by decide +kernel) (by decide +kernel)
theorem wd_239 : (Cond.fieldLink RX1 (9 : Nat) "NineRiver$Dyes" "amounts" "[I") ∈ TB := tw 239 (by decide +kernel) (by decide +kernel)
theorem wd_240 : (Cond.fieldLink RX1 (15 : Nat) "NineRiver$Dyes" "tints" "[I") ∈ TB := tw 240 (by decide +kernel) (by decide +kernel)
theorem wd_241 : (Cond.fieldLink RX1 (18 : Nat) "NineRiver$Dyes" "begins" "[I") ∈ TB := tw 241 (by decide +kernel) (by decide +kernel)
theorem wd_242 : (Cond.fieldLink RX1 (21 : Nat) "NineRiver$Dyes" "trial" "[I") ∈ TB := tw 242 (by decide +kernel) (by decide +kernel)
theorem wd_243 : (Cond.fieldLink RX1 (24 : Nat) "NineRiver$Dyes" "order" "[I") ∈ TB := tw 243 (by decide +kernel) (by decide +kernel)
theorem wd_244 : (Cond.fieldLink RX1 (27 : Nat) "NineRiver$Dyes" "done" "I") ∈ TB := tw 244 (by decide +kernel) (by decide +kernel)
theorem wd_245 : (Cond.fieldLink RX1 (31 : Nat) "NineRiver$Dyes" "orders" "I") ∈ TB := tw 245 (by decide +kernel) (by decide +kernel)
theorem wd_276 : (Cond.fieldLink RX5 (26 : Nat) "NineRiver$Sleuth" "state" "LNineRiver$State;") ∈ TB := tw 276 (by decide +kernel) (by decide +kernel)
theorem wd_277 : (Cond.fieldLink RX5 (30 : Nat) "NineRiver$Sleuth" "travel" "LNineRiver$Travel;") ∈ TB := tw 277 (by decide +kernel) (by decide +kernel)
theorem wd_278 : (Cond.fieldLink RX5 (11 : Nat) "NineRiver$Sleuth" "signs" "[I") ∈ TB := tw 278 (by decide +kernel) (by decide +kernel)
theorem wd_281 : (Cond.fieldLink RX5 (23 : Nat) "NineRiver$Sleuth" "seen" "I") ∈ TB := tw 281 (by decide +kernel) (by decide +kernel)
theorem wd_851 : (Jvm.Cond.instanceMethod yX9_traceBack) ∈ TB := tw 851 (by decide +kernel) (by decide +kernel)
theorem wd_852 : (Cond.selects RX9 yX9_traceBack yX9_traceBack) ∈ TB := tw 852 (by decide +kernel) (by decide +kernel)
theorem wd_853 : (Cond.code yX9_traceBack cX9_traceBack 8 (Option.some Jvm.ClassFile.FieldType.int)) ∈ TB := tw 853 (by decide +kernel) (by decide +kernel)
theorem wd_920 : (Cond.methodLink RX1 (56 : Nat) yX4_size) ∈ TB := tw 920 (by decide +kernel) (by decide +kernel)
theorem wd_921 : (Cond.methodLink RX1 (62 : Nat) yX1_placeOf) ∈ TB := tw 921 (by decide +kernel) (by decide +kernel)
theorem wd_923 : (Jvm.Cond.instanceMethod yX1_placeOf) ∈ TB := tw 923 (by decide +kernel) (by decide +kernel)
theorem wd_924 : (Cond.code yX1_placeOf cX1_placeOf 5 (Option.some Jvm.ClassFile.FieldType.int)) ∈ TB := tw 924 (by decide +kernel) (by decide +kernel)
theorem wd_925 : (Cond.methodLink RX1 (66 : Nat) yX4_at) ∈ TB := tw 925 (by decide +kernel) (by decide +kernel)
theorem wd_926 : (Cond.methodLink RX1 (96 : Nat) yX9_drift) ∈ TB := tw 926 (by decide +kernel) (by decide +kernel)
theorem wd_935 : (Cond.methodLink RX1 (70 : Nat) Lib.Math.max.name) ∈ TB := tw 935 (by decide +kernel) (by decide +kernel)
theorem wd_936 : (Cond.methodLink RX1 (75 : Nat) yX7_stepFrom) ∈ TB := tw 936 (by decide +kernel) (by decide +kernel)
theorem wd_945 : (Cond.methodLink RX1 (80 : Nat) yJ7_fill_53178) ∈ TB := tw 945 (by decide +kernel) (by decide +kernel)
theorem wd_999 : (Cond.methodLink RX5 (34 : Nat) yX5_look) ∈ TB := tw 999 (by decide +kernel) (by decide +kernel)
theorem dX1_placeOf_0g : (decode cX1_placeOf 0 = .ok (.aload_n 0, 1)) ∧ (decode cX1_placeOf 1 = .ok (.getfield 38, 3)) ∧ (decode cX1_placeOf 4 = .ok (.getfield 50, 3)) ∧ (decode cX1_placeOf 7 = .ok (.iload_n 1, 1)) ∧ (decode cX1_placeOf 8 = .ok (.iconst 1, 1)) ∧ (decode cX1_placeOf 9 = .ok (.invokevirtual 66, 3)) ∧ (decode cX1_placeOf 12 = .ok (.istore 4, 2)) ∧ (decode cX1_placeOf 14 = .ok (.aload_n 0, 1)) ∧ (decode cX1_placeOf 15 = .ok (.getfield 38, 3)) ∧ (decode cX1_placeOf 18 = .ok (.getfield 50, 3)) := by decide +kernel
theorem dX1_placeOf_0 : decode cX1_placeOf 0 = .ok (.aload_n 0, 1) := dX1_placeOf_0g.1
theorem dX1_placeOf_1 : decode cX1_placeOf 1 = .ok (.getfield 38, 3) := dX1_placeOf_0g.2.1
theorem dX1_placeOf_4 : decode cX1_placeOf 4 = .ok (.getfield 50, 3) := dX1_placeOf_0g.2.2.1
theorem dX1_placeOf_7 : decode cX1_placeOf 7 = .ok (.iload_n 1, 1) := dX1_placeOf_0g.2.2.2.1
theorem dX1_placeOf_8 : decode cX1_placeOf 8 = .ok (.iconst 1, 1) := dX1_placeOf_0g.2.2.2.2.1
theorem dX1_placeOf_9 : decode cX1_placeOf 9 = .ok (.invokevirtual 66, 3) := dX1_placeOf_0g.2.2.2.2.2.1
theorem dX1_placeOf_12 : decode cX1_placeOf 12 = .ok (.istore 4, 2) := dX1_placeOf_0g.2.2.2.2.2.2.1
theorem dX1_placeOf_14 : decode cX1_placeOf 14 = .ok (.aload_n 0, 1) := dX1_placeOf_0g.2.2.2.2.2.2.2.1
theorem dX1_placeOf_15 : decode cX1_placeOf 15 = .ok (.getfield 38, 3) := dX1_placeOf_0g.2.2.2.2.2.2.2.2.1
theorem dX1_placeOf_18 : decode cX1_placeOf 18 = .ok (.getfield 50, 3) := dX1_placeOf_0g.2.2.2.2.2.2.2.2.2
theorem dX1_placeOf_21g : (decode cX1_placeOf 21 = .ok (.iload_n 1, 1)) ∧ (decode cX1_placeOf 22 = .ok (.iconst 2, 1)) ∧ (decode cX1_placeOf 23 = .ok (.invokevirtual 66, 3)) ∧ (decode cX1_placeOf 26 = .ok (.iload_n 3, 1)) ∧ (decode cX1_placeOf 27 = .ok (.if_icmp .ne 9, 3)) ∧ (decode cX1_placeOf 30 = .ok (.iload 4, 2)) ∧ (decode cX1_placeOf 32 = .ok (.iload_n 2, 1)) ∧ (decode cX1_placeOf 33 = .ok (.if_icmp .le 5, 3)) ∧ (decode cX1_placeOf 36 = .ok (.iconst (-1), 1)) ∧ (decode cX1_placeOf 37 = .ok (.ireturn, 1)) := by decide +kernel
theorem dX1_placeOf_21 : decode cX1_placeOf 21 = .ok (.iload_n 1, 1) := dX1_placeOf_21g.1
theorem dX1_placeOf_22 : decode cX1_placeOf 22 = .ok (.iconst 2, 1) := dX1_placeOf_21g.2.1
theorem dX1_placeOf_23 : decode cX1_placeOf 23 = .ok (.invokevirtual 66, 3) := dX1_placeOf_21g.2.2.1
theorem dX1_placeOf_26 : decode cX1_placeOf 26 = .ok (.iload_n 3, 1) := dX1_placeOf_21g.2.2.2.1
theorem dX1_placeOf_27 : decode cX1_placeOf 27 = .ok (.if_icmp .ne 9, 3) := dX1_placeOf_21g.2.2.2.2.1
theorem dX1_placeOf_30 : decode cX1_placeOf 30 = .ok (.iload 4, 2) := dX1_placeOf_21g.2.2.2.2.2.1
theorem dX1_placeOf_32 : decode cX1_placeOf 32 = .ok (.iload_n 2, 1) := dX1_placeOf_21g.2.2.2.2.2.2.1
theorem dX1_placeOf_33 : decode cX1_placeOf 33 = .ok (.if_icmp .le 5, 3) := dX1_placeOf_21g.2.2.2.2.2.2.2.1
theorem dX1_placeOf_36 : decode cX1_placeOf 36 = .ok (.iconst (-1), 1) := dX1_placeOf_21g.2.2.2.2.2.2.2.2.1
theorem dX1_placeOf_37 : decode cX1_placeOf 37 = .ok (.ireturn, 1) := dX1_placeOf_21g.2.2.2.2.2.2.2.2.2
theorem dX1_placeOf_38g : (decode cX1_placeOf 38 = .ok (.aload_n 0, 1)) ∧ (decode cX1_placeOf 39 = .ok (.getfield 46, 3)) ∧ (decode cX1_placeOf 42 = .ok (.aload_n 0, 1)) ∧ (decode cX1_placeOf 43 = .ok (.getfield 38, 3)) ∧ (decode cX1_placeOf 46 = .ok (.getfield 50, 3)) ∧ (decode cX1_placeOf 49 = .ok (.iload_n 1, 1)) ∧ (decode cX1_placeOf 50 = .ok (.iconst 0, 1)) ∧ (decode cX1_placeOf 51 = .ok (.invokevirtual 66, 3)) ∧ (decode cX1_placeOf 54 = .ok (.iload 4, 2)) ∧ (decode cX1_placeOf 56 = .ok (.iload_n 2, 1)) := by decide +kernel
theorem dX1_placeOf_38 : decode cX1_placeOf 38 = .ok (.aload_n 0, 1) := dX1_placeOf_38g.1
theorem dX1_placeOf_39 : decode cX1_placeOf 39 = .ok (.getfield 46, 3) := dX1_placeOf_38g.2.1
theorem dX1_placeOf_42 : decode cX1_placeOf 42 = .ok (.aload_n 0, 1) := dX1_placeOf_38g.2.2.1
theorem dX1_placeOf_43 : decode cX1_placeOf 43 = .ok (.getfield 38, 3) := dX1_placeOf_38g.2.2.2.1
theorem dX1_placeOf_46 : decode cX1_placeOf 46 = .ok (.getfield 50, 3) := dX1_placeOf_38g.2.2.2.2.1
theorem dX1_placeOf_49 : decode cX1_placeOf 49 = .ok (.iload_n 1, 1) := dX1_placeOf_38g.2.2.2.2.2.1
theorem dX1_placeOf_50 : decode cX1_placeOf 50 = .ok (.iconst 0, 1) := dX1_placeOf_38g.2.2.2.2.2.2.1
theorem dX1_placeOf_51 : decode cX1_placeOf 51 = .ok (.invokevirtual 66, 3) := dX1_placeOf_38g.2.2.2.2.2.2.2.1
theorem dX1_placeOf_54 : decode cX1_placeOf 54 = .ok (.iload 4, 2) := dX1_placeOf_38g.2.2.2.2.2.2.2.2.1
theorem dX1_placeOf_56 : decode cX1_placeOf 56 = .ok (.iload_n 2, 1) := dX1_placeOf_38g.2.2.2.2.2.2.2.2.2
theorem dX1_placeOf_57g : (decode cX1_placeOf 57 = .ok (.invokevirtual 96, 3)) ∧ (decode cX1_placeOf 60 = .ok (.ireturn, 1)) := by decide +kernel
theorem dX1_placeOf_57 : decode cX1_placeOf 57 = .ok (.invokevirtual 96, 3) := dX1_placeOf_57g.1
theorem dX1_placeOf_60 : decode cX1_placeOf 60 = .ok (.ireturn, 1) := dX1_placeOf_57g.2
set_option maxHeartbeats 4000000 in
set_option maxRecDepth 100000 in
theorem c_X1_placeOf (l : Launch) (E : Nat → Nat) (D : va_G) (G : th_G) (h0 : Nat) (hG0 : G h0 = some (11, 0)) (x1 x2 x3 : Int32) : Met l yX1_placeOf (tb (.code yX1_placeOf cX1_placeOf 5 (some .int))) (rm 6) (va_Pc [.ref h0, .int x1, .int x2, .int x3] (th_P E D G)) (QI E D G (fun r => True)) 0 0 (th_A G) := by
  refine Met.ofW (cc := cX1_placeOf) (maxL := 5) (ret := (some .int)) (by decide) rfl ?_
  intro p e s m args below meth c s₁ B hml hv
  obtain ⟨hav, hI, hN, hK⟩ := hv
  have hx := B.exec
  have hb := B.bytes
  have hr := B.returns
  have hts := atoms_spec (ws := tb (.code yX1_placeOf cX1_placeOf 5 (some .int))) B.pre
  have hown : s.vm.findClass RX1 = some m.cls := findClass_of_methodNamed B.named
  have hlocks := B.notSynchronized
  have hS : va_S (th_A G) s.heap s.heap [] := va_S.rf
  have hl := lv_entry ([.ref h0, .int x1, .int x2, .int x3]) (n := 5) (Nat.le_of_ble_eq_true rfl)
  rw [show entryFrame m args 5 = entryFrame m ([.ref h0, .int x1, .int x2, .int x3] : List Value).toArray 5 from by rw [hav], lg_entry_eq]
  generalize (lg_sl ([.ref h0, .int x1, .int x2, .int x3]) ++ List.replicate (5 - (lg_sl ([.ref h0, .int x1, .int x2, .int x3])).length) Slot.unset).toArray = ls at hl ⊢
  have hl : lv_has ls 5 [(0, .ref h0), (1, .int x1), (2, .int x2), (3, .int x3)] := hl
  generalize hR : (headSpec (tb (.code yX1_placeOf cX1_placeOf 5 (some .int))) (rm 6)).room = R
  have hR := hR.symm
  generalize hQ : MQ below (QI E D G (fun r => True)) args s 0 0 (th_A G) = QF
  have hQ := hQ.symm
  have J_36 : ∀ (H : Heap) (locs : List Loc) (ls : Array Slot) (v1256 : Int32), lv_has ls 5 [(4, .int v1256), (0, .ref h0), (1, .int x1), (2, .int x2), (3, .int x3)] → th_I (okC E) D G [] H → va_S (th_A G) s.heap H locs → W p l e R s m args below meth c H locs 0 0 QF (F0 m 36 ls []) := by
    intro H locs ls v1256 hl  hI hS
    refine lv_iconst (v := (-1)) hx hb dX1_placeOf_36 (by decide) ?_
    have hpost : True := trivial
    rw [hQ]
    exact W.iret (v := (-1)) hx hb hr (fun t ht hW => ⟨⟨(-1), (), rfl, hpost, by rw [ht]; exact hI, hN.warm hW, va_K.moved hW.alike hK⟩, hS.F ht⟩) hS.2.2 dX1_placeOf_37
  refine lv_aload_n hx hb dX1_placeOf_0 rfl (lv_at hl 0 rfl) ?_
  obtain ⟨a1257, a1259, a1261, a1263, a1265, a1267, a1269, a1271, w1273, w1274, w1275, hO, hq1258, hq1260, hq1262, hq1264, hq1266, hq1268, hq1270, hq1272⟩ := op_11 hI hG0 List.not_mem_nil
  have hI := th_I.weak (a := h0) hI
  refine th_get hx hb hts inT1 hown hK hO rfl 0 (by decide) (hts _ (tb_c wd_236)) rfl rfl dX1_placeOf_1 ?_
  have hI := th_I.close hI hG0 hO (ok_11 hq1258 hq1260 hq1262 hq1264 hq1266 hq1268 hq1270 hq1272)
  obtain ⟨a1276, a1278, a1280, a1282, a1284, a1286, a1288, a1290, a1292, a1294, w1296, w1299, w1300, w1301, hO, hq1277, hq1279, hq1281, hq1283, hq1285, hq1287, hq1289, hq1291, hq1293, hq1295, ⟨k1297, k1298⟩, k1302⟩ := op_6 hI hq1258 List.not_mem_nil
  have hI := th_I.weak (a := a1257) hI
  refine th_getN hx hb hts inT6 hown hK hN hO rfl 5 (by decide) wn_70 rfl rfl dX1_placeOf_4 ?_
  refine lv_iload_n hx hb dX1_placeOf_7 rfl (lv_at hl 1 rfl) ?_
  refine lv_iconst (v := 1) hx hb dX1_placeOf_8 (by decide) ?_
  have hI := th_I.close hI hq1258 hO (ok_6 hq1277 hq1279 hq1281 hq1283 hq1285 hq1287 hq1289 hq1291 hq1293 hq1295 ⟨by omega, by omega⟩ k1302)
  refine th_cVi (As := [.int x1, .int 1]) (rest := []) (n := 2) (d := 0) ⟨hx, hb, hml, hown, hts⟩ (c_X4_at l E D G a1286 (16) hq1287 x1 1) wd_925 wd_519 wd_520 wd_3 wd_521 (by decide +kernel) ⟨by rw [hR]; exact Nat.le_of_ble_eq_true rfl, by rw [hR]; exact Nat.le_of_ble_eq_true rfl⟩ hI hN hK hS (rc_4 hI hq1287 List.not_mem_nil) rfl rfl hl.1 rfl (Nat.le_of_ble_eq_true rfl) dX1_placeOf_9 ⟨Nat.zero_le _, Nat.zero_le _⟩ (fun r1303 H locs hp hI hS => ?_)
  refine lv_istore (lv' := [(4, .int r1303), (0, .ref h0), (1, .int x1), (2, .int x2), (3, .int x3)]) hx hb dX1_placeOf_12 hl (by decide) rfl (fun ls hl => ?_)
  refine lv_aload_n hx hb dX1_placeOf_14 rfl (lv_at hl 1 rfl) ?_
  obtain ⟨a1304, a1306, a1308, a1310, a1312, a1314, a1316, a1318, w1320, w1321, w1322, hO, hq1305, hq1307, hq1309, hq1311, hq1313, hq1315, hq1317, hq1319⟩ := op_11 hI hG0 List.not_mem_nil
  have hI := th_I.weak (a := h0) hI
  refine th_get hx hb hts inT1 hown hK hO rfl 0 (by decide) (hts _ (tb_c wd_236)) rfl rfl dX1_placeOf_15 ?_
  have hI := th_I.close hI hG0 hO (ok_11 hq1305 hq1307 hq1309 hq1311 hq1313 hq1315 hq1317 hq1319)
  obtain ⟨a1323, a1325, a1327, a1329, a1331, a1333, a1335, a1337, a1339, a1341, w1343, w1346, w1347, w1348, hO, hq1324, hq1326, hq1328, hq1330, hq1332, hq1334, hq1336, hq1338, hq1340, hq1342, ⟨k1344, k1345⟩, k1349⟩ := op_6 hI hq1305 List.not_mem_nil
  have hI := th_I.weak (a := a1304) hI
  refine th_getN hx hb hts inT6 hown hK hN hO rfl 5 (by decide) wn_70 rfl rfl dX1_placeOf_18 ?_
  refine lv_iload_n hx hb dX1_placeOf_21 rfl (lv_at hl 2 rfl) ?_
  refine lv_iconst (v := 2) hx hb dX1_placeOf_22 (by decide) ?_
  have hI := th_I.close hI hq1305 hO (ok_6 hq1324 hq1326 hq1328 hq1330 hq1332 hq1334 hq1336 hq1338 hq1340 hq1342 ⟨by omega, by omega⟩ k1349)
  refine th_cVi (As := [.int x1, .int 2]) (rest := []) (n := 2) (d := 0) ⟨hx, hb, hml, hown, hts⟩ (c_X4_at l E D G a1333 (16) hq1334 x1 2) wd_925 wd_519 wd_520 wd_3 wd_521 (by decide +kernel) ⟨by rw [hR]; exact Nat.le_of_ble_eq_true rfl, by rw [hR]; exact Nat.le_of_ble_eq_true rfl⟩ hI hN hK hS (rc_4 hI hq1334 List.not_mem_nil) rfl rfl hl.1 rfl (Nat.le_of_ble_eq_true rfl) dX1_placeOf_23 ⟨Nat.zero_le _, Nat.zero_le _⟩ (fun r1350 H locs hp hI hS => ?_)
  refine lv_iload_n hx hb dX1_placeOf_26 rfl (lv_at hl 4 rfl) ?_
  have k1351 := iv_lo r1350
  have k1352 := iv_hi r1350
  have k1353 := iv_lo x3
  have k1354 := iv_hi x3
  refine lv_icmp_ne (tgt := 36) hx hb dX1_placeOf_27 (by decide) (fun c1355 => ?_) (fun c1355 => ?_)
  · skip
    have k1356 := iv_ne (X := r1350.toInt) (Y := x3.toInt) rfl rfl c1355
    exact J_36 H locs ls r1303 (lv_sub hl [0, 1, 2, 3, 4] rfl)  hI hS
  · skip
    have k1357 := iv_eq (X := r1350.toInt) (Y := x3.toInt) rfl rfl c1355
    refine lv_iload hx hb dX1_placeOf_30 (lv_at hl 0 rfl) ?_
    refine lv_iload_n hx hb dX1_placeOf_32 rfl (lv_at hl 3 rfl) ?_
    have k1358 := iv_lo r1303
    have k1359 := iv_hi r1303
    have k1360 := iv_lo x2
    have k1361 := iv_hi x2
    refine lv_icmp_le (tgt := 38) hx hb dX1_placeOf_33 (by decide) (fun c1362 => ?_) (fun c1362 => ?_)
    · skip
      have k1363 := iv_le (X := r1303.toInt) (Y := x2.toInt) rfl rfl c1362
      refine lv_aload_n hx hb dX1_placeOf_38 rfl (lv_at hl 1 rfl) ?_
      obtain ⟨a1364, a1366, a1368, a1370, a1372, a1374, a1376, a1378, w1380, w1381, w1382, hO, hq1365, hq1367, hq1369, hq1371, hq1373, hq1375, hq1377, hq1379⟩ := op_11 hI hG0 List.not_mem_nil
      have hI := th_I.weak (a := h0) hI
      refine th_get hx hb hts inT1 hown hK hO rfl 2 (by decide) (hts _ (tb_c wd_238)) rfl rfl dX1_placeOf_39 ?_
      refine lv_aload_n hx hb dX1_placeOf_42 rfl (lv_at hl 1 rfl) ?_
      refine th_get hx hb hts inT1 hown hK hO rfl 0 (by decide) (hts _ (tb_c wd_236)) rfl rfl dX1_placeOf_43 ?_
      have hI := th_I.close hI hG0 hO (ok_11 hq1365 hq1367 hq1369 hq1371 hq1373 hq1375 hq1377 hq1379)
      obtain ⟨a1383, a1385, a1387, a1389, a1391, a1393, a1395, a1397, a1399, a1401, w1403, w1406, w1407, w1408, hO, hq1384, hq1386, hq1388, hq1390, hq1392, hq1394, hq1396, hq1398, hq1400, hq1402, ⟨k1404, k1405⟩, k1409⟩ := op_6 hI hq1365 List.not_mem_nil
      have hI := th_I.weak (a := a1364) hI
      refine th_getN hx hb hts inT6 hown hK hN hO rfl 5 (by decide) wn_70 rfl rfl dX1_placeOf_46 ?_
      refine lv_iload_n hx hb dX1_placeOf_49 rfl (lv_at hl 2 rfl) ?_
      refine lv_iconst (v := 0) hx hb dX1_placeOf_50 (by decide) ?_
      have hI := th_I.close hI hq1365 hO (ok_6 hq1384 hq1386 hq1388 hq1390 hq1392 hq1394 hq1396 hq1398 hq1400 hq1402 ⟨by omega, by omega⟩ k1409)
      refine th_cVi (As := [.int x1, .int 0]) (rest := [.ref a1368]) (n := 2) (d := 0) ⟨hx, hb, hml, hown, hts⟩ (c_X4_at l E D G a1393 (16) hq1394 x1 0) wd_925 wd_519 wd_520 wd_3 wd_521 (by decide +kernel) ⟨by rw [hR]; exact Nat.le_of_ble_eq_true rfl, by rw [hR]; exact Nat.le_of_ble_eq_true rfl⟩ hI hN hK hS (rc_4 hI hq1394 List.not_mem_nil) rfl rfl hl.1 rfl (Nat.le_of_ble_eq_true rfl) dX1_placeOf_51 ⟨Nat.zero_le _, Nat.zero_le _⟩ (fun r1410 H locs hp hI hS => ?_)
      refine lv_iload hx hb dX1_placeOf_54 (lv_at hl 0 rfl) ?_
      refine lv_iload_n hx hb dX1_placeOf_56 rfl (lv_at hl 3 rfl) ?_
      refine th_cVi (As := [.int r1410, .int r1303, .int x2]) (rest := []) (n := 3) (d := 5) ⟨hx, hb, hml, hown, hts⟩ (c_X9_drift l E D G a1368 hq1369 r1410 r1303 x2) wd_926 wd_830 wd_831 wd_8 wd_832 (by decide +kernel) ⟨by rw [hR]; exact Nat.le_of_ble_eq_true rfl, by rw [hR]; exact Nat.le_of_ble_eq_true rfl⟩ hI hN hK hS (rc_10 hI hq1369 List.not_mem_nil) rfl rfl hl.1 rfl (Nat.le_of_ble_eq_true rfl) dX1_placeOf_57 ⟨Nat.zero_le _, Nat.zero_le _⟩ (fun r1411 H locs hp hI hS => ?_)
      have hpost : True := trivial
      rw [hQ]
      exact W.iret (v := r1411) hx hb hr (fun t ht hW => ⟨⟨r1411, (), rfl, hpost, by rw [ht]; exact hI, hN.warm hW, va_K.moved hW.alike hK⟩, hS.F ht⟩) hS.2.2 dX1_placeOf_60
    · skip
      have k1412 := iv_nle (X := r1303.toInt) (Y := x2.toInt) rfl rfl c1362
      exact J_36 H locs ls r1303 (lv_sub hl [0, 1, 2, 3, 4] rfl)  hI hS
theorem dX1_amountAt_0g : (decode cX1_amountAt 0 = .ok (.iconst 0, 1)) ∧ (decode cX1_amountAt 1 = .ok (.istore 4, 2)) ∧ (decode cX1_amountAt 3 = .ok (.iconst 0, 1)) ∧ (decode cX1_amountAt 4 = .ok (.istore 5, 2)) ∧ (decode cX1_amountAt 6 = .ok (.iload 5, 2)) ∧ (decode cX1_amountAt 8 = .ok (.aload_n 0, 1)) ∧ (decode cX1_amountAt 9 = .ok (.getfield 38, 3)) ∧ (decode cX1_amountAt 12 = .ok (.getfield 50, 3)) ∧ (decode cX1_amountAt 15 = .ok (.invokevirtual 56, 3)) ∧ (decode cX1_amountAt 18 = .ok (.if_icmp .ge 39, 3)) := by decide +kernel
theorem dX1_amountAt_0 : decode cX1_amountAt 0 = .ok (.iconst 0, 1) := dX1_amountAt_0g.1
theorem dX1_amountAt_1 : decode cX1_amountAt 1 = .ok (.istore 4, 2) := dX1_amountAt_0g.2.1
theorem dX1_amountAt_3 : decode cX1_amountAt 3 = .ok (.iconst 0, 1) := dX1_amountAt_0g.2.2.1
theorem dX1_amountAt_4 : decode cX1_amountAt 4 = .ok (.istore 5, 2) := dX1_amountAt_0g.2.2.2.1
theorem dX1_amountAt_6 : decode cX1_amountAt 6 = .ok (.iload 5, 2) := dX1_amountAt_0g.2.2.2.2.1
theorem dX1_amountAt_8 : decode cX1_amountAt 8 = .ok (.aload_n 0, 1) := dX1_amountAt_0g.2.2.2.2.2.1
theorem dX1_amountAt_9 : decode cX1_amountAt 9 = .ok (.getfield 38, 3) := dX1_amountAt_0g.2.2.2.2.2.2.1
theorem dX1_amountAt_12 : decode cX1_amountAt 12 = .ok (.getfield 50, 3) := dX1_amountAt_0g.2.2.2.2.2.2.2.1
theorem dX1_amountAt_15 : decode cX1_amountAt 15 = .ok (.invokevirtual 56, 3) := dX1_amountAt_0g.2.2.2.2.2.2.2.2.1
theorem dX1_amountAt_18 : decode cX1_amountAt 18 = .ok (.if_icmp .ge 39, 3) := dX1_amountAt_0g.2.2.2.2.2.2.2.2.2
theorem dX1_amountAt_21g : (decode cX1_amountAt 21 = .ok (.aload_n 0, 1)) ∧ (decode cX1_amountAt 22 = .ok (.iload 5, 2)) ∧ (decode cX1_amountAt 24 = .ok (.iload_n 2, 1)) ∧ (decode cX1_amountAt 25 = .ok (.iload_n 3, 1)) ∧ (decode cX1_amountAt 26 = .ok (.invokevirtual 62, 3)) ∧ (decode cX1_amountAt 29 = .ok (.iload_n 1, 1)) ∧ (decode cX1_amountAt 30 = .ok (.if_icmp .ne 21, 3)) ∧ (decode cX1_amountAt 33 = .ok (.iload 4, 2)) ∧ (decode cX1_amountAt 35 = .ok (.aload_n 0, 1)) ∧ (decode cX1_amountAt 36 = .ok (.getfield 38, 3)) := by decide +kernel
theorem dX1_amountAt_21 : decode cX1_amountAt 21 = .ok (.aload_n 0, 1) := dX1_amountAt_21g.1
theorem dX1_amountAt_22 : decode cX1_amountAt 22 = .ok (.iload 5, 2) := dX1_amountAt_21g.2.1
theorem dX1_amountAt_24 : decode cX1_amountAt 24 = .ok (.iload_n 2, 1) := dX1_amountAt_21g.2.2.1
theorem dX1_amountAt_25 : decode cX1_amountAt 25 = .ok (.iload_n 3, 1) := dX1_amountAt_21g.2.2.2.1
theorem dX1_amountAt_26 : decode cX1_amountAt 26 = .ok (.invokevirtual 62, 3) := dX1_amountAt_21g.2.2.2.2.1
theorem dX1_amountAt_29 : decode cX1_amountAt 29 = .ok (.iload_n 1, 1) := dX1_amountAt_21g.2.2.2.2.2.1
theorem dX1_amountAt_30 : decode cX1_amountAt 30 = .ok (.if_icmp .ne 21, 3) := dX1_amountAt_21g.2.2.2.2.2.2.1
theorem dX1_amountAt_33 : decode cX1_amountAt 33 = .ok (.iload 4, 2) := dX1_amountAt_21g.2.2.2.2.2.2.2.1
theorem dX1_amountAt_35 : decode cX1_amountAt 35 = .ok (.aload_n 0, 1) := dX1_amountAt_21g.2.2.2.2.2.2.2.2.1
theorem dX1_amountAt_36 : decode cX1_amountAt 36 = .ok (.getfield 38, 3) := dX1_amountAt_21g.2.2.2.2.2.2.2.2.2
theorem dX1_amountAt_39g : (decode cX1_amountAt 39 = .ok (.getfield 50, 3)) ∧ (decode cX1_amountAt 42 = .ok (.iload 5, 2)) ∧ (decode cX1_amountAt 44 = .ok (.iconst 3, 1)) ∧ (decode cX1_amountAt 45 = .ok (.invokevirtual 66, 3)) ∧ (decode cX1_amountAt 48 = .ok (.iadd, 1)) ∧ (decode cX1_amountAt 49 = .ok (.istore 4, 2)) ∧ (decode cX1_amountAt 51 = .ok (.iinc 5 1, 3)) ∧ (decode cX1_amountAt 54 = .ok (.goto (-48), 3)) ∧ (decode cX1_amountAt 57 = .ok (.iload 4, 2)) ∧ (decode cX1_amountAt 59 = .ok (.ireturn, 1)) := by decide +kernel
theorem dX1_amountAt_39 : decode cX1_amountAt 39 = .ok (.getfield 50, 3) := dX1_amountAt_39g.1
theorem dX1_amountAt_42 : decode cX1_amountAt 42 = .ok (.iload 5, 2) := dX1_amountAt_39g.2.1
theorem dX1_amountAt_44 : decode cX1_amountAt 44 = .ok (.iconst 3, 1) := dX1_amountAt_39g.2.2.1
theorem dX1_amountAt_45 : decode cX1_amountAt 45 = .ok (.invokevirtual 66, 3) := dX1_amountAt_39g.2.2.2.1
theorem dX1_amountAt_48 : decode cX1_amountAt 48 = .ok (.iadd, 1) := dX1_amountAt_39g.2.2.2.2.1
theorem dX1_amountAt_49 : decode cX1_amountAt 49 = .ok (.istore 4, 2) := dX1_amountAt_39g.2.2.2.2.2.1
theorem dX1_amountAt_51 : decode cX1_amountAt 51 = .ok (.iinc 5 1, 3) := dX1_amountAt_39g.2.2.2.2.2.2.1
theorem dX1_amountAt_54 : decode cX1_amountAt 54 = .ok (.goto (-48), 3) := dX1_amountAt_39g.2.2.2.2.2.2.2.1
theorem dX1_amountAt_57 : decode cX1_amountAt 57 = .ok (.iload 4, 2) := dX1_amountAt_39g.2.2.2.2.2.2.2.2.1
theorem dX1_amountAt_59 : decode cX1_amountAt 59 = .ok (.ireturn, 1) := dX1_amountAt_39g.2.2.2.2.2.2.2.2.2
set_option maxHeartbeats 4000000 in
set_option maxRecDepth 100000 in
theorem c_X1_amountAt (l : Launch) (E : Nat → Nat) (D : va_G) (G : th_G) (h0 : Nat) (hG0 : G h0 = some (11, 0)) (x1 x2 x3 : Int32) : Met l yX1_amountAt (tb (.code yX1_amountAt cX1_amountAt 6 (some .int))) (rm 7) (va_Pc [.ref h0, .int x1, .int x2, .int x3] (th_P E D G)) (QI E D G (fun r => True)) 0 0 (th_A G) := by
  refine Met.ofW (cc := cX1_amountAt) (maxL := 6) (ret := (some .int)) (by decide) rfl ?_
  intro p e s m args below meth c s₁ B hml hv
  obtain ⟨hav, hI, hN, hK⟩ := hv
  have hx := B.exec
  have hb := B.bytes
  have hr := B.returns
  have hts := atoms_spec (ws := tb (.code yX1_amountAt cX1_amountAt 6 (some .int))) B.pre
  have hown : s.vm.findClass RX1 = some m.cls := findClass_of_methodNamed B.named
  have hlocks := B.notSynchronized
  have hS : va_S (th_A G) s.heap s.heap [] := va_S.rf
  have hl := lv_entry ([.ref h0, .int x1, .int x2, .int x3]) (n := 6) (Nat.le_of_ble_eq_true rfl)
  rw [show entryFrame m args 6 = entryFrame m ([.ref h0, .int x1, .int x2, .int x3] : List Value).toArray 6 from by rw [hav], lg_entry_eq]
  generalize (lg_sl ([.ref h0, .int x1, .int x2, .int x3]) ++ List.replicate (6 - (lg_sl ([.ref h0, .int x1, .int x2, .int x3])).length) Slot.unset).toArray = ls at hl ⊢
  have hl : lv_has ls 6 [(0, .ref h0), (1, .int x1), (2, .int x2), (3, .int x3)] := hl
  generalize hR : (headSpec (tb (.code yX1_amountAt cX1_amountAt 6 (some .int))) (rm 7)).room = R
  have hR := hR.symm
  generalize hQ : MQ below (QI E D G (fun r => True)) args s 0 0 (th_A G) = QF
  have hQ := hQ.symm
  have J_6 : ∀ (nn : Nat) (H : Heap) (locs : List Loc) (ls : Array Slot) (v2179 : Int32) (v2180 : Int32), (Int.toNat (16 - v2179.toInt) = nn) → lv_has ls 6 [(5, .int v2179), (4, .int v2180), (0, .ref h0), (1, .int x1), (2, .int x2), (3, .int x3)] → ((0 : Int) ≤ v2179.toInt ∧ v2179.toInt ≤ 16) → th_I (okC E) D G [] H → va_S (th_A G) s.heap H locs → W p l e R s m args below meth c H locs 0 0 QF (F0 m 6 ls []) := by
    intro nn
    induction nn using Nat.strongRecOn with
    | ind nn ih_6 =>
      intro H locs ls v2179 v2180 hm hl k2181 hI hS
      refine lv_iload hx hb dX1_amountAt_6 (lv_at hl 0 rfl) ?_
      refine lv_aload_n hx hb dX1_amountAt_8 rfl (lv_at hl 2 rfl) ?_
      obtain ⟨a2182, a2184, a2186, a2188, a2190, a2192, a2194, a2196, w2198, w2199, w2200, hO, hq2183, hq2185, hq2187, hq2189, hq2191, hq2193, hq2195, hq2197⟩ := op_11 hI hG0 List.not_mem_nil
      have hI := th_I.weak (a := h0) hI
      refine th_get hx hb hts inT1 hown hK hO rfl 0 (by decide) (hts _ (tb_c wd_236)) rfl rfl dX1_amountAt_9 ?_
      have hI := th_I.close hI hG0 hO (ok_11 hq2183 hq2185 hq2187 hq2189 hq2191 hq2193 hq2195 hq2197)
      obtain ⟨a2201, a2203, a2205, a2207, a2209, a2211, a2213, a2215, a2217, a2219, w2221, w2224, w2225, w2226, hO, hq2202, hq2204, hq2206, hq2208, hq2210, hq2212, hq2214, hq2216, hq2218, hq2220, ⟨k2222, k2223⟩, k2227⟩ := op_6 hI hq2183 List.not_mem_nil
      have hI := th_I.weak (a := a2182) hI
      refine th_getN hx hb hts inT6 hown hK hN hO rfl 5 (by decide) wn_70 rfl rfl dX1_amountAt_12 ?_
      have hI := th_I.close hI hq2183 hO (ok_6 hq2202 hq2204 hq2206 hq2208 hq2210 hq2212 hq2214 hq2216 hq2218 hq2220 ⟨by omega, by omega⟩ k2227)
      obtain ⟨a2229, w2231, hO, hq2230, ⟨k2232, k2233⟩, k2234⟩ := op_4 hI hq2212 List.not_mem_nil
      have hI := th_I.weak (a := a2211) hI
      have k2235 : (nI (16 % 32)).toInt = ((16 % 32 : Nat) : Int) := nI_toInt (by omega)
      have k2236 := k2234.1
      refine th_cVs (As := []) (rest := [.int v2179]) (n := 0) (d := 0) ⟨hx, hb, hml, hown, hts⟩ (c_X4_size l E D H a2211 (16 % 32) a2229 w2231 hO (by omega) (by omega) (by omega)) wd_920 wd_507 wd_508 wd_3 wd_509 (by decide +kernel) ⟨by rw [hR]; exact Nat.le_of_ble_eq_true rfl, by rw [hR]; exact Nat.le_of_ble_eq_true rfl⟩ hN hK hS ⟨_, hO⟩ rfl rfl hl.1 rfl (Nat.le_of_ble_eq_true rfl) dX1_amountAt_15 ⟨Nat.zero_le _, Nat.zero_le _⟩ (fun r2228 locs hp hS => ?_)
      have hp := hp.symm
      subst hp
      refine lv_icmp_ge (tgt := 57) hx hb dX1_amountAt_18 (by decide) (fun c2237 => ?_) (fun c2237 => ?_)
      · skip
        have k2238 := iv_le (X := w2231.toInt) (Y := v2179.toInt) rfl rfl c2237
        refine lv_iload hx hb dX1_amountAt_57 (lv_at hl 1 rfl) ?_
        have hI := th_I.close hI hq2212 hO (ok_4 hq2230 ⟨by omega, by omega⟩ k2234)
        have hpost : True := trivial
        rw [hQ]
        exact W.iret (v := v2180) hx hb hr (fun t ht hW => ⟨⟨v2180, (), rfl, hpost, by rw [ht]; exact hI, hN.warm hW, va_K.moved hW.alike hK⟩, hS.F ht⟩) hS.2.2 dX1_amountAt_59
      · skip
        have k2239 := iv_nle (X := w2231.toInt) (Y := v2179.toInt) rfl rfl c2237
        refine lv_aload_n hx hb dX1_amountAt_21 rfl (lv_at hl 2 rfl) ?_
        refine lv_iload hx hb dX1_amountAt_22 (lv_at hl 0 rfl) ?_
        refine lv_iload_n hx hb dX1_amountAt_24 rfl (lv_at hl 4 rfl) ?_
        refine lv_iload_n hx hb dX1_amountAt_25 rfl (lv_at hl 5 rfl) ?_
        have hI := th_I.close hI hq2212 hO (ok_4 hq2230 ⟨by omega, by omega⟩ k2234)
        refine th_cVi (As := [.int v2179, .int x2, .int x3]) (rest := []) (n := 3) (d := 6) ⟨hx, hb, hml, hown, hts⟩ (c_X1_placeOf l E D G h0 hG0 v2179 x2 x3) wd_921 wd_923 wp_25 wd_9 wd_924 (by decide +kernel) ⟨by rw [hR]; exact Nat.le_of_ble_eq_true rfl, by rw [hR]; exact Nat.le_of_ble_eq_true rfl⟩ hI hN hK hS (rc_11 hI hG0 List.not_mem_nil) rfl rfl hl.1 rfl (Nat.le_of_ble_eq_true rfl) dX1_amountAt_26 ⟨Nat.zero_le _, Nat.zero_le _⟩ (fun r2240 H locs hp hI hS => ?_)
        refine lv_iload_n hx hb dX1_amountAt_29 rfl (lv_at hl 3 rfl) ?_
        have k2241 := iv_lo r2240
        have k2242 := iv_hi r2240
        have k2243 := iv_lo x1
        have k2244 := iv_hi x1
        refine lv_icmp_ne (tgt := 51) hx hb dX1_amountAt_30 (by decide) (fun c2245 => ?_) (fun c2245 => ?_)
        · skip
          have k2246 := iv_ne (X := r2240.toInt) (Y := x1.toInt) rfl rfl c2245
          obtain ⟨v2247, e2248⟩ : ∃ y : Int32, y = v2179 + (1) := ⟨_, rfl⟩
          have tv2247 : v2247.toInt = v2179.toInt + (1) := iv_add rfl (by decide) e2248 (by omega) (by omega)
          refine lv_iinc (v := v2247) (lv' := [(5, .int v2247), (4, .int v2180), (0, .ref h0), (1, .int x1), (2, .int x2), (3, .int x3)]) hx hb dX1_amountAt_51 hl (k := 0) rfl (by rw [e2248]; rfl) (by decide) rfl (fun ls hl => ?_)
          refine lv_goto (tgt := 6) hx hb dX1_amountAt_54 (by decide) ?_
          exact ih_6 _ (by omega) H locs ls v2247 v2180 rfl (lv_sub hl [0, 1, 2, 3, 4, 5] rfl) ⟨by omega, by omega⟩ hI hS
        · skip
          have k2249 := iv_eq (X := r2240.toInt) (Y := x1.toInt) rfl rfl c2245
          refine lv_iload hx hb dX1_amountAt_33 (lv_at hl 1 rfl) ?_
          refine lv_aload_n hx hb dX1_amountAt_35 rfl (lv_at hl 2 rfl) ?_
          obtain ⟨a2250, a2252, a2254, a2256, a2258, a2260, a2262, a2264, w2266, w2267, w2268, hO, hq2251, hq2253, hq2255, hq2257, hq2259, hq2261, hq2263, hq2265⟩ := op_11 hI hG0 List.not_mem_nil
          have hI := th_I.weak (a := h0) hI
          refine th_get hx hb hts inT1 hown hK hO rfl 0 (by decide) (hts _ (tb_c wd_236)) rfl rfl dX1_amountAt_36 ?_
          have hI := th_I.close hI hG0 hO (ok_11 hq2251 hq2253 hq2255 hq2257 hq2259 hq2261 hq2263 hq2265)
          obtain ⟨a2269, a2271, a2273, a2275, a2277, a2279, a2281, a2283, a2285, a2287, w2289, w2292, w2293, w2294, hO, hq2270, hq2272, hq2274, hq2276, hq2278, hq2280, hq2282, hq2284, hq2286, hq2288, ⟨k2290, k2291⟩, k2295⟩ := op_6 hI hq2251 List.not_mem_nil
          have hI := th_I.weak (a := a2250) hI
          refine th_getN hx hb hts inT6 hown hK hN hO rfl 5 (by decide) wn_70 rfl rfl dX1_amountAt_39 ?_
          refine lv_iload hx hb dX1_amountAt_42 (lv_at hl 0 rfl) ?_
          refine lv_iconst (v := 3) hx hb dX1_amountAt_44 (by decide) ?_
          have hI := th_I.close hI hq2251 hO (ok_6 hq2270 hq2272 hq2274 hq2276 hq2278 hq2280 hq2282 hq2284 hq2286 hq2288 ⟨by omega, by omega⟩ k2295)
          refine th_cVi (As := [.int v2179, .int 3]) (rest := [.int v2180]) (n := 2) (d := 0) ⟨hx, hb, hml, hown, hts⟩ (c_X4_at l E D G a2279 (16) hq2280 v2179 3) wd_925 wd_519 wd_520 wd_3 wd_521 (by decide +kernel) ⟨by rw [hR]; exact Nat.le_of_ble_eq_true rfl, by rw [hR]; exact Nat.le_of_ble_eq_true rfl⟩ hI hN hK hS (rc_4 hI hq2280 List.not_mem_nil) rfl rfl hl.1 rfl (Nat.le_of_ble_eq_true rfl) dX1_amountAt_45 ⟨Nat.zero_le _, Nat.zero_le _⟩ (fun r2296 H locs hp hI hS => ?_)
          refine lv_iadd hx hb dX1_amountAt_48 ?_
          refine lv_topi (fun v2297 e2298 => ?_)
          try have tv2297 : v2297.toInt = v2180.toInt + r2296.toInt := iv_add rfl rfl e2298 (by omega) (by omega)
          refine lv_istore (lv' := [(4, .int v2297), (5, .int v2179), (0, .ref h0), (1, .int x1), (2, .int x2), (3, .int x3)]) hx hb dX1_amountAt_49 hl (by decide) rfl (fun ls hl => ?_)
          obtain ⟨v2299, e2300⟩ : ∃ y : Int32, y = v2179 + (1) := ⟨_, rfl⟩
          have tv2299 : v2299.toInt = v2179.toInt + (1) := iv_add rfl (by decide) e2300 (by omega) (by omega)
          refine lv_iinc (v := v2299) (lv' := [(5, .int v2299), (4, .int v2297), (0, .ref h0), (1, .int x1), (2, .int x2), (3, .int x3)]) hx hb dX1_amountAt_51 hl (k := 1) rfl (by rw [e2300]; rfl) (by decide) rfl (fun ls hl => ?_)
          refine lv_goto (tgt := 6) hx hb dX1_amountAt_54 (by decide) ?_
          exact ih_6 _ (by omega) H locs ls v2299 v2297 rfl (lv_sub hl [0, 1, 2, 3, 4, 5] rfl) ⟨by omega, by omega⟩ hI hS
  refine lv_iconst (v := 0) hx hb dX1_amountAt_0 (by decide) ?_
  refine lv_istore (lv' := [(4, .int 0), (0, .ref h0), (1, .int x1), (2, .int x2), (3, .int x3)]) hx hb dX1_amountAt_1 hl (by decide) rfl (fun ls hl => ?_)
  refine lv_iconst (v := 0) hx hb dX1_amountAt_3 (by decide) ?_
  refine lv_istore (lv' := [(5, .int 0), (4, .int 0), (0, .ref h0), (1, .int x1), (2, .int x2), (3, .int x3)]) hx hb dX1_amountAt_4 hl (by decide) rfl (fun ls hl => ?_)
  have zl : (0 : Int32).toInt = 0 := by decide
  exact J_6 _ s.heap [] ls 0 0 rfl (lv_sub hl [0, 1, 2, 3, 4, 5] rfl) ⟨by decide, by decide⟩ hI hS
theorem dX1_firstComing_0g : (decode cX1_firstComing 0 = .ok (.iconst (-1), 1)) ∧ (decode cX1_firstComing 1 = .ok (.istore 4, 2)) ∧ (decode cX1_firstComing 3 = .ok (.iconst 0, 1)) ∧ (decode cX1_firstComing 4 = .ok (.istore 5, 2)) ∧ (decode cX1_firstComing 6 = .ok (.iload 5, 2)) ∧ (decode cX1_firstComing 8 = .ok (.aload_n 0, 1)) ∧ (decode cX1_firstComing 9 = .ok (.getfield 38, 3)) ∧ (decode cX1_firstComing 12 = .ok (.getfield 50, 3)) ∧ (decode cX1_firstComing 15 = .ok (.invokevirtual 56, 3)) ∧ (decode cX1_firstComing 18 = .ok (.if_icmp .ge 100, 3)) := by decide +kernel
theorem dX1_firstComing_0 : decode cX1_firstComing 0 = .ok (.iconst (-1), 1) := dX1_firstComing_0g.1
theorem dX1_firstComing_1 : decode cX1_firstComing 1 = .ok (.istore 4, 2) := dX1_firstComing_0g.2.1
theorem dX1_firstComing_3 : decode cX1_firstComing 3 = .ok (.iconst 0, 1) := dX1_firstComing_0g.2.2.1
theorem dX1_firstComing_4 : decode cX1_firstComing 4 = .ok (.istore 5, 2) := dX1_firstComing_0g.2.2.2.1
theorem dX1_firstComing_6 : decode cX1_firstComing 6 = .ok (.iload 5, 2) := dX1_firstComing_0g.2.2.2.2.1
theorem dX1_firstComing_8 : decode cX1_firstComing 8 = .ok (.aload_n 0, 1) := dX1_firstComing_0g.2.2.2.2.2.1
theorem dX1_firstComing_9 : decode cX1_firstComing 9 = .ok (.getfield 38, 3) := dX1_firstComing_0g.2.2.2.2.2.2.1
theorem dX1_firstComing_12 : decode cX1_firstComing 12 = .ok (.getfield 50, 3) := dX1_firstComing_0g.2.2.2.2.2.2.2.1
theorem dX1_firstComing_15 : decode cX1_firstComing 15 = .ok (.invokevirtual 56, 3) := dX1_firstComing_0g.2.2.2.2.2.2.2.2.1
theorem dX1_firstComing_18 : decode cX1_firstComing 18 = .ok (.if_icmp .ge 100, 3) := dX1_firstComing_0g.2.2.2.2.2.2.2.2.2
theorem dX1_firstComing_21g : (decode cX1_firstComing 21 = .ok (.iload_n 3, 1)) ∧ (decode cX1_firstComing 22 = .ok (.aload_n 0, 1)) ∧ (decode cX1_firstComing 23 = .ok (.getfield 38, 3)) ∧ (decode cX1_firstComing 26 = .ok (.getfield 50, 3)) ∧ (decode cX1_firstComing 29 = .ok (.iload 5, 2)) ∧ (decode cX1_firstComing 31 = .ok (.iconst 1, 1)) ∧ (decode cX1_firstComing 32 = .ok (.invokevirtual 66, 3)) ∧ (decode cX1_firstComing 35 = .ok (.invokestatic 70, 3)) ∧ (decode cX1_firstComing 38 = .ok (.istore 6, 2)) ∧ (decode cX1_firstComing 40 = .ok (.aload_n 0, 1)) := by decide +kernel
theorem dX1_firstComing_21 : decode cX1_firstComing 21 = .ok (.iload_n 3, 1) := dX1_firstComing_21g.1
theorem dX1_firstComing_22 : decode cX1_firstComing 22 = .ok (.aload_n 0, 1) := dX1_firstComing_21g.2.1
theorem dX1_firstComing_23 : decode cX1_firstComing 23 = .ok (.getfield 38, 3) := dX1_firstComing_21g.2.2.1
theorem dX1_firstComing_26 : decode cX1_firstComing 26 = .ok (.getfield 50, 3) := dX1_firstComing_21g.2.2.2.1
theorem dX1_firstComing_29 : decode cX1_firstComing 29 = .ok (.iload 5, 2) := dX1_firstComing_21g.2.2.2.2.1
theorem dX1_firstComing_31 : decode cX1_firstComing 31 = .ok (.iconst 1, 1) := dX1_firstComing_21g.2.2.2.2.2.1
theorem dX1_firstComing_32 : decode cX1_firstComing 32 = .ok (.invokevirtual 66, 3) := dX1_firstComing_21g.2.2.2.2.2.2.1
theorem dX1_firstComing_35 : decode cX1_firstComing 35 = .ok (.invokestatic 70, 3) := dX1_firstComing_21g.2.2.2.2.2.2.2.1
theorem dX1_firstComing_38 : decode cX1_firstComing 38 = .ok (.istore 6, 2) := dX1_firstComing_21g.2.2.2.2.2.2.2.2.1
theorem dX1_firstComing_40 : decode cX1_firstComing 40 = .ok (.aload_n 0, 1) := dX1_firstComing_21g.2.2.2.2.2.2.2.2.2
theorem dX1_firstComing_41g : (decode cX1_firstComing 41 = .ok (.iload 5, 2)) ∧ (decode cX1_firstComing 43 = .ok (.iload 6, 2)) ∧ (decode cX1_firstComing 45 = .ok (.iload_n 2, 1)) ∧ (decode cX1_firstComing 46 = .ok (.invokevirtual 62, 3)) ∧ (decode cX1_firstComing 49 = .ok (.istore 7, 2)) ∧ (decode cX1_firstComing 51 = .ok (.iload 7, 2)) ∧ (decode cX1_firstComing 53 = .ok (.iconst (-1), 1)) ∧ (decode cX1_firstComing 54 = .ok (.if_icmp .eq 35, 3)) ∧ (decode cX1_firstComing 57 = .ok (.iload 7, 2)) ∧ (decode cX1_firstComing 59 = .ok (.iload_n 1, 1)) := by decide +kernel
theorem dX1_firstComing_41 : decode cX1_firstComing 41 = .ok (.iload 5, 2) := dX1_firstComing_41g.1
theorem dX1_firstComing_43 : decode cX1_firstComing 43 = .ok (.iload 6, 2) := dX1_firstComing_41g.2.1
theorem dX1_firstComing_45 : decode cX1_firstComing 45 = .ok (.iload_n 2, 1) := dX1_firstComing_41g.2.2.1
theorem dX1_firstComing_46 : decode cX1_firstComing 46 = .ok (.invokevirtual 62, 3) := dX1_firstComing_41g.2.2.2.1
theorem dX1_firstComing_49 : decode cX1_firstComing 49 = .ok (.istore 7, 2) := dX1_firstComing_41g.2.2.2.2.1
theorem dX1_firstComing_51 : decode cX1_firstComing 51 = .ok (.iload 7, 2) := dX1_firstComing_41g.2.2.2.2.2.1
theorem dX1_firstComing_53 : decode cX1_firstComing 53 = .ok (.iconst (-1), 1) := dX1_firstComing_41g.2.2.2.2.2.2.1
theorem dX1_firstComing_54 : decode cX1_firstComing 54 = .ok (.if_icmp .eq 35, 3) := dX1_firstComing_41g.2.2.2.2.2.2.2.1
theorem dX1_firstComing_57 : decode cX1_firstComing 57 = .ok (.iload 7, 2) := dX1_firstComing_41g.2.2.2.2.2.2.2.2.1
theorem dX1_firstComing_59 : decode cX1_firstComing 59 = .ok (.iload_n 1, 1) := dX1_firstComing_41g.2.2.2.2.2.2.2.2.2
theorem dX1_firstComing_60g : (decode cX1_firstComing 60 = .ok (.if_icmp .eq 29, 3)) ∧ (decode cX1_firstComing 63 = .ok (.iload 6, 2)) ∧ (decode cX1_firstComing 65 = .ok (.bipush 96, 2)) ∧ (decode cX1_firstComing 67 = .ok (.if_icmp .ge 22, 3)) ∧ (decode cX1_firstComing 70 = .ok (.aload_n 0, 1)) ∧ (decode cX1_firstComing 71 = .ok (.getfield 42, 3)) ∧ (decode cX1_firstComing 74 = .ok (.iload 7, 2)) ∧ (decode cX1_firstComing 76 = .ok (.iload 6, 2)) ∧ (decode cX1_firstComing 78 = .ok (.invokevirtual 75, 3)) ∧ (decode cX1_firstComing 81 = .ok (.istore 7, 2)) := by decide +kernel
theorem dX1_firstComing_60 : decode cX1_firstComing 60 = .ok (.if_icmp .eq 29, 3) := dX1_firstComing_60g.1
theorem dX1_firstComing_63 : decode cX1_firstComing 63 = .ok (.iload 6, 2) := dX1_firstComing_60g.2.1
theorem dX1_firstComing_65 : decode cX1_firstComing 65 = .ok (.bipush 96, 2) := dX1_firstComing_60g.2.2.1
theorem dX1_firstComing_67 : decode cX1_firstComing 67 = .ok (.if_icmp .ge 22, 3) := dX1_firstComing_60g.2.2.2.1
theorem dX1_firstComing_70 : decode cX1_firstComing 70 = .ok (.aload_n 0, 1) := dX1_firstComing_60g.2.2.2.2.1
theorem dX1_firstComing_71 : decode cX1_firstComing 71 = .ok (.getfield 42, 3) := dX1_firstComing_60g.2.2.2.2.2.1
theorem dX1_firstComing_74 : decode cX1_firstComing 74 = .ok (.iload 7, 2) := dX1_firstComing_60g.2.2.2.2.2.2.1
theorem dX1_firstComing_76 : decode cX1_firstComing 76 = .ok (.iload 6, 2) := dX1_firstComing_60g.2.2.2.2.2.2.2.1
theorem dX1_firstComing_78 : decode cX1_firstComing 78 = .ok (.invokevirtual 75, 3) := dX1_firstComing_60g.2.2.2.2.2.2.2.2.1
theorem dX1_firstComing_81 : decode cX1_firstComing 81 = .ok (.istore 7, 2) := dX1_firstComing_60g.2.2.2.2.2.2.2.2.2
theorem dX1_firstComing_83g : (decode cX1_firstComing 83 = .ok (.iinc 6 1, 3)) ∧ (decode cX1_firstComing 86 = .ok (.goto (-35), 3)) ∧ (decode cX1_firstComing 89 = .ok (.iload 7, 2)) ∧ (decode cX1_firstComing 91 = .ok (.iload_n 1, 1)) ∧ (decode cX1_firstComing 92 = .ok (.if_icmp .ne 20, 3)) ∧ (decode cX1_firstComing 95 = .ok (.iload 4, 2)) ∧ (decode cX1_firstComing 97 = .ok (.iconst (-1), 1)) ∧ (decode cX1_firstComing 98 = .ok (.if_icmp .eq 10, 3)) ∧ (decode cX1_firstComing 101 = .ok (.iload 6, 2)) ∧ (decode cX1_firstComing 103 = .ok (.iload 4, 2)) := by decide +kernel
theorem dX1_firstComing_83 : decode cX1_firstComing 83 = .ok (.iinc 6 1, 3) := dX1_firstComing_83g.1
theorem dX1_firstComing_86 : decode cX1_firstComing 86 = .ok (.goto (-35), 3) := dX1_firstComing_83g.2.1
theorem dX1_firstComing_89 : decode cX1_firstComing 89 = .ok (.iload 7, 2) := dX1_firstComing_83g.2.2.1
theorem dX1_firstComing_91 : decode cX1_firstComing 91 = .ok (.iload_n 1, 1) := dX1_firstComing_83g.2.2.2.1
theorem dX1_firstComing_92 : decode cX1_firstComing 92 = .ok (.if_icmp .ne 20, 3) := dX1_firstComing_83g.2.2.2.2.1
theorem dX1_firstComing_95 : decode cX1_firstComing 95 = .ok (.iload 4, 2) := dX1_firstComing_83g.2.2.2.2.2.1
theorem dX1_firstComing_97 : decode cX1_firstComing 97 = .ok (.iconst (-1), 1) := dX1_firstComing_83g.2.2.2.2.2.2.1
theorem dX1_firstComing_98 : decode cX1_firstComing 98 = .ok (.if_icmp .eq 10, 3) := dX1_firstComing_83g.2.2.2.2.2.2.2.1
theorem dX1_firstComing_101 : decode cX1_firstComing 101 = .ok (.iload 6, 2) := dX1_firstComing_83g.2.2.2.2.2.2.2.2.1
theorem dX1_firstComing_103 : decode cX1_firstComing 103 = .ok (.iload 4, 2) := dX1_firstComing_83g.2.2.2.2.2.2.2.2.2
theorem dX1_firstComing_105g : (decode cX1_firstComing 105 = .ok (.if_icmp .ge 7, 3)) ∧ (decode cX1_firstComing 108 = .ok (.iload 6, 2)) ∧ (decode cX1_firstComing 110 = .ok (.istore 4, 2)) ∧ (decode cX1_firstComing 112 = .ok (.iinc 5 1, 3)) ∧ (decode cX1_firstComing 115 = .ok (.goto (-109), 3)) ∧ (decode cX1_firstComing 118 = .ok (.iload 4, 2)) ∧ (decode cX1_firstComing 120 = .ok (.ireturn, 1)) := by decide +kernel
theorem dX1_firstComing_105 : decode cX1_firstComing 105 = .ok (.if_icmp .ge 7, 3) := dX1_firstComing_105g.1
theorem dX1_firstComing_108 : decode cX1_firstComing 108 = .ok (.iload 6, 2) := dX1_firstComing_105g.2.1
theorem dX1_firstComing_110 : decode cX1_firstComing 110 = .ok (.istore 4, 2) := dX1_firstComing_105g.2.2.1
theorem dX1_firstComing_112 : decode cX1_firstComing 112 = .ok (.iinc 5 1, 3) := dX1_firstComing_105g.2.2.2.1
theorem dX1_firstComing_115 : decode cX1_firstComing 115 = .ok (.goto (-109), 3) := dX1_firstComing_105g.2.2.2.2.1
theorem dX1_firstComing_118 : decode cX1_firstComing 118 = .ok (.iload 4, 2) := dX1_firstComing_105g.2.2.2.2.2.1
theorem dX1_firstComing_120 : decode cX1_firstComing 120 = .ok (.ireturn, 1) := dX1_firstComing_105g.2.2.2.2.2.2
set_option maxHeartbeats 4000000 in
set_option maxRecDepth 100000 in
theorem c_X1_firstComing (l : Launch) (E : Nat → Nat) (D : va_G) (G : th_G) (h0 : Nat) (hG0 : G h0 = some (11, 0)) (x1 x2 x3 : Int32) : Met l yX1_firstComing (tb (.code yX1_firstComing cX1_firstComing 8 (some .int))) (rm 7) (va_Pc [.ref h0, .int x1, .int x2, .int x3] (th_P E D G)) (QI E D G (fun r => True)) 0 0 (th_A G) := by
  refine Met.ofW (cc := cX1_firstComing) (maxL := 8) (ret := (some .int)) (by decide) rfl ?_
  intro p e s m args below meth c s₁ B hml hv
  obtain ⟨hav, hI, hN, hK⟩ := hv
  have hx := B.exec
  have hb := B.bytes
  have hr := B.returns
  have hts := atoms_spec (ws := tb (.code yX1_firstComing cX1_firstComing 8 (some .int))) B.pre
  have hown : s.vm.findClass RX1 = some m.cls := findClass_of_methodNamed B.named
  have hlocks := B.notSynchronized
  have hS : va_S (th_A G) s.heap s.heap [] := va_S.rf
  have hl := lv_entry ([.ref h0, .int x1, .int x2, .int x3]) (n := 8) (Nat.le_of_ble_eq_true rfl)
  rw [show entryFrame m args 8 = entryFrame m ([.ref h0, .int x1, .int x2, .int x3] : List Value).toArray 8 from by rw [hav], lg_entry_eq]
  generalize (lg_sl ([.ref h0, .int x1, .int x2, .int x3]) ++ List.replicate (8 - (lg_sl ([.ref h0, .int x1, .int x2, .int x3])).length) Slot.unset).toArray = ls at hl ⊢
  have hl : lv_has ls 8 [(0, .ref h0), (1, .int x1), (2, .int x2), (3, .int x3)] := hl
  generalize hR : (headSpec (tb (.code yX1_firstComing cX1_firstComing 8 (some .int))) (rm 7)).room = R
  have hR := hR.symm
  generalize hQ : MQ below (QI E D G (fun r => True)) args s 0 0 (th_A G) = QF
  have hQ := hQ.symm
  have J_6 : ∀ (nn : Nat) (H : Heap) (locs : List Loc) (ls : Array Slot) (v7591 : Int32) (v7592 : Int32), (Int.toNat (17 - v7591.toInt) = nn) → lv_has ls 8 [(5, .int v7591), (4, .int v7592), (0, .ref h0), (1, .int x1), (2, .int x2), (3, .int x3)] → ((0 : Int) ≤ v7591.toInt ∧ v7591.toInt ≤ 17) → th_I (okC E) D G [] H → va_S (th_A G) s.heap H locs → W p l e R s m args below meth c H locs 0 0 QF (F0 m 6 ls []) := by
    intro nn
    induction nn using Nat.strongRecOn with
    | ind nn ih_6 =>
      intro H locs ls v7591 v7592 hm hl k7593 hI hS
      have J_89 : ∀ (H : Heap) (locs : List Loc) (ls : Array Slot) (v7594 : Int32) (v7595 : Int32), lv_has ls 8 [(7, .int v7594), (6, .int v7595), (5, .int v7591), (4, .int v7592), (0, .ref h0), (1, .int x1), (2, .int x2), (3, .int x3)] → ((0 : Int) ≤ v7591.toInt ∧ v7591.toInt ≤ 16) → th_I (okC E) D G [] H → va_S (th_A G) s.heap H locs → W p l e R s m args below meth c H locs 0 0 QF (F0 m 89 ls []) := by
        intro H locs ls v7594 v7595 hl k7598 hI hS
        refine lv_iload hx hb dX1_firstComing_89 (lv_at hl 0 rfl) ?_
        refine lv_iload_n hx hb dX1_firstComing_91 rfl (lv_at hl 5 rfl) ?_
        have k7599 := iv_lo v7594
        have k7600 := iv_hi v7594
        have k7601 := iv_lo x1
        have k7602 := iv_hi x1
        refine lv_icmp_ne (tgt := 112) hx hb dX1_firstComing_92 (by decide) (fun c7603 => ?_) (fun c7603 => ?_)
        · skip
          have k7604 := iv_ne (X := v7594.toInt) (Y := x1.toInt) rfl rfl c7603
          obtain ⟨v7605, e7606⟩ : ∃ y : Int32, y = v7591 + (1) := ⟨_, rfl⟩
          have tv7605 : v7605.toInt = v7591.toInt + (1) := iv_add rfl (by decide) e7606 (by omega) (by omega)
          refine lv_iinc (v := v7605) (lv' := [(5, .int v7605), (7, .int v7594), (6, .int v7595), (4, .int v7592), (0, .ref h0), (1, .int x1), (2, .int x2), (3, .int x3)]) hx hb dX1_firstComing_112 hl (k := 2) rfl (by rw [e7606]; rfl) (by decide) rfl (fun ls hl => ?_)
          refine lv_goto (tgt := 6) hx hb dX1_firstComing_115 (by decide) ?_
          exact ih_6 _ (by omega) H locs ls v7605 v7592 rfl (lv_sub hl [0, 3, 4, 5, 6, 7] rfl) ⟨by omega, by omega⟩ hI hS
        · skip
          have k7607 := iv_eq (X := v7594.toInt) (Y := x1.toInt) rfl rfl c7603
          refine lv_iload hx hb dX1_firstComing_95 (lv_at hl 3 rfl) ?_
          refine lv_iconst (v := (-1)) hx hb dX1_firstComing_97 (by decide) ?_
          have k7608 := iv_lo v7592
          have k7609 := iv_hi v7592
          refine lv_icmp_eq (tgt := 108) hx hb dX1_firstComing_98 (by decide) (fun c7610 => ?_) (fun c7610 => ?_)
          · skip
            have k7611 := iv_eq (X := v7592.toInt) (Y := (-1)) rfl (by decide) c7610
            refine lv_iload hx hb dX1_firstComing_108 (lv_at hl 1 rfl) ?_
            refine lv_istore (lv' := [(4, .int v7595), (7, .int v7594), (6, .int v7595), (5, .int v7591), (0, .ref h0), (1, .int x1), (2, .int x2), (3, .int x3)]) hx hb dX1_firstComing_110 hl (by decide) rfl (fun ls hl => ?_)
            obtain ⟨v7612, e7613⟩ : ∃ y : Int32, y = v7591 + (1) := ⟨_, rfl⟩
            have tv7612 : v7612.toInt = v7591.toInt + (1) := iv_add rfl (by decide) e7613 (by omega) (by omega)
            refine lv_iinc (v := v7612) (lv' := [(5, .int v7612), (4, .int v7595), (7, .int v7594), (6, .int v7595), (0, .ref h0), (1, .int x1), (2, .int x2), (3, .int x3)]) hx hb dX1_firstComing_112 hl (k := 3) rfl (by rw [e7613]; rfl) (by decide) rfl (fun ls hl => ?_)
            refine lv_goto (tgt := 6) hx hb dX1_firstComing_115 (by decide) ?_
            exact ih_6 _ (by omega) H locs ls v7612 v7595 rfl (lv_sub hl [0, 1, 4, 5, 6, 7] rfl) ⟨by omega, by omega⟩ hI hS
          · skip
            have k7614 := iv_ne (X := v7592.toInt) (Y := (-1)) rfl (by decide) c7610
            refine lv_iload hx hb dX1_firstComing_101 (lv_at hl 1 rfl) ?_
            refine lv_iload hx hb dX1_firstComing_103 (lv_at hl 3 rfl) ?_
            have k7615 := iv_lo v7595
            have k7616 := iv_hi v7595
            refine lv_icmp_ge (tgt := 112) hx hb dX1_firstComing_105 (by decide) (fun c7617 => ?_) (fun c7617 => ?_)
            · skip
              have k7618 := iv_le (X := v7592.toInt) (Y := v7595.toInt) rfl rfl c7617
              obtain ⟨v7619, e7620⟩ : ∃ y : Int32, y = v7591 + (1) := ⟨_, rfl⟩
              have tv7619 : v7619.toInt = v7591.toInt + (1) := iv_add rfl (by decide) e7620 (by omega) (by omega)
              refine lv_iinc (v := v7619) (lv' := [(5, .int v7619), (7, .int v7594), (6, .int v7595), (4, .int v7592), (0, .ref h0), (1, .int x1), (2, .int x2), (3, .int x3)]) hx hb dX1_firstComing_112 hl (k := 2) rfl (by rw [e7620]; rfl) (by decide) rfl (fun ls hl => ?_)
              refine lv_goto (tgt := 6) hx hb dX1_firstComing_115 (by decide) ?_
              exact ih_6 _ (by omega) H locs ls v7619 v7592 rfl (lv_sub hl [0, 3, 4, 5, 6, 7] rfl) ⟨by omega, by omega⟩ hI hS
            · skip
              have k7621 := iv_nle (X := v7592.toInt) (Y := v7595.toInt) rfl rfl c7617
              refine lv_iload hx hb dX1_firstComing_108 (lv_at hl 1 rfl) ?_
              refine lv_istore (lv' := [(4, .int v7595), (7, .int v7594), (6, .int v7595), (5, .int v7591), (0, .ref h0), (1, .int x1), (2, .int x2), (3, .int x3)]) hx hb dX1_firstComing_110 hl (by decide) rfl (fun ls hl => ?_)
              obtain ⟨v7622, e7623⟩ : ∃ y : Int32, y = v7591 + (1) := ⟨_, rfl⟩
              have tv7622 : v7622.toInt = v7591.toInt + (1) := iv_add rfl (by decide) e7623 (by omega) (by omega)
              refine lv_iinc (v := v7622) (lv' := [(5, .int v7622), (4, .int v7595), (7, .int v7594), (6, .int v7595), (0, .ref h0), (1, .int x1), (2, .int x2), (3, .int x3)]) hx hb dX1_firstComing_112 hl (k := 3) rfl (by rw [e7623]; rfl) (by decide) rfl (fun ls hl => ?_)
              refine lv_goto (tgt := 6) hx hb dX1_firstComing_115 (by decide) ?_
              exact ih_6 _ (by omega) H locs ls v7622 v7595 rfl (lv_sub hl [0, 1, 4, 5, 6, 7] rfl) ⟨by omega, by omega⟩ hI hS
      have J_51 : ∀ (nn : Nat) (H : Heap) (locs : List Loc) (ls : Array Slot) (v7624 : Int32) (v7625 : Int32), (Int.toNat (96 - v7625.toInt) = nn) → lv_has ls 8 [(7, .int v7624), (6, .int v7625), (5, .int v7591), (4, .int v7592), (0, .ref h0), (1, .int x1), (2, .int x2), (3, .int x3)] → ((0 : Int) ≤ v7591.toInt ∧ v7591.toInt ≤ 16) → th_I (okC E) D G [] H → va_S (th_A G) s.heap H locs → W p l e R s m args below meth c H locs 0 0 QF (F0 m 51 ls []) := by
        intro nn
        induction nn using Nat.strongRecOn with
        | ind nn ih_51 =>
          intro H locs ls v7624 v7625 hm hl k7628 hI hS
          refine lv_iload hx hb dX1_firstComing_51 (lv_at hl 0 rfl) ?_
          refine lv_iconst (v := (-1)) hx hb dX1_firstComing_53 (by decide) ?_
          have k7629 := iv_lo v7624
          have k7630 := iv_hi v7624
          refine lv_icmp_eq (tgt := 89) hx hb dX1_firstComing_54 (by decide) (fun c7631 => ?_) (fun c7631 => ?_)
          · skip
            have k7632 := iv_eq (X := v7624.toInt) (Y := (-1)) rfl (by decide) c7631
            exact J_89 H locs ls v7624 v7625 (lv_sub hl [0, 1, 2, 3, 4, 5, 6, 7] rfl) ⟨by omega, by omega⟩ hI hS
          · skip
            have k7633 := iv_ne (X := v7624.toInt) (Y := (-1)) rfl (by decide) c7631
            refine lv_iload hx hb dX1_firstComing_57 (lv_at hl 0 rfl) ?_
            refine lv_iload_n hx hb dX1_firstComing_59 rfl (lv_at hl 5 rfl) ?_
            have k7634 := iv_lo x1
            have k7635 := iv_hi x1
            refine lv_icmp_eq (tgt := 89) hx hb dX1_firstComing_60 (by decide) (fun c7636 => ?_) (fun c7636 => ?_)
            · skip
              have k7637 := iv_eq (X := v7624.toInt) (Y := x1.toInt) rfl rfl c7636
              exact J_89 H locs ls v7624 v7625 (lv_sub hl [0, 1, 2, 3, 4, 5, 6, 7] rfl) ⟨by omega, by omega⟩ hI hS
            · skip
              have k7638 := iv_ne (X := v7624.toInt) (Y := x1.toInt) rfl rfl c7636
              refine lv_iload hx hb dX1_firstComing_63 (lv_at hl 1 rfl) ?_
              refine lv_bipush (v := 96) hx hb dX1_firstComing_65 (by decide) ?_
              have k7639 := iv_lo v7625
              have k7640 := iv_hi v7625
              refine lv_icmp_ge (tgt := 89) hx hb dX1_firstComing_67 (by decide) (fun c7641 => ?_) (fun c7641 => ?_)
              · skip
                have k7642 := iv_le (X := (96)) (Y := v7625.toInt) (by decide) rfl c7641
                exact J_89 H locs ls v7624 v7625 (lv_sub hl [0, 1, 2, 3, 4, 5, 6, 7] rfl) ⟨by omega, by omega⟩ hI hS
              · skip
                have k7643 := iv_nle (X := (96)) (Y := v7625.toInt) (by decide) rfl c7641
                refine lv_aload_n hx hb dX1_firstComing_70 rfl (lv_at hl 4 rfl) ?_
                obtain ⟨a7644, a7646, a7648, a7650, a7652, a7654, a7656, a7658, w7660, w7661, w7662, hO, hq7645, hq7647, hq7649, hq7651, hq7653, hq7655, hq7657, hq7659⟩ := op_11 hI hG0 List.not_mem_nil
                have hI := th_I.weak (a := h0) hI
                refine th_get hx hb hts inT1 hown hK hO rfl 1 (by decide) (hts _ (tb_c wd_237)) rfl rfl dX1_firstComing_71 ?_
                refine lv_iload hx hb dX1_firstComing_74 (lv_at hl 0 rfl) ?_
                refine lv_iload hx hb dX1_firstComing_76 (lv_at hl 1 rfl) ?_
                have hI := th_I.close hI hG0 hO (ok_11 hq7645 hq7647 hq7649 hq7651 hq7653 hq7655 hq7657 hq7659)
                refine th_cVi (As := [.int v7624, .int v7625]) (rest := []) (n := 2) (d := 4) ⟨hx, hb, hml, hown, hts⟩ (c_X7_stepFrom l E D G a7646 hq7647 v7624 v7625) wd_936 wd_531 wd_532 wd_6 wd_533 (by decide +kernel) ⟨by rw [hR]; exact Nat.le_of_ble_eq_true rfl, by rw [hR]; exact Nat.le_of_ble_eq_true rfl⟩ hI hN hK hS (rc_9 hI hq7647 List.not_mem_nil) rfl rfl hl.1 rfl (Nat.le_of_ble_eq_true rfl) dX1_firstComing_78 ⟨Nat.zero_le _, Nat.zero_le _⟩ (fun r7663 H locs hp hI hS => ?_)
                refine lv_istore (lv' := [(7, .int r7663), (6, .int v7625), (5, .int v7591), (4, .int v7592), (0, .ref h0), (1, .int x1), (2, .int x2), (3, .int x3)]) hx hb dX1_firstComing_81 hl (by decide) rfl (fun ls hl => ?_)
                obtain ⟨v7664, e7665⟩ : ∃ y : Int32, y = v7625 + (1) := ⟨_, rfl⟩
                have tv7664 : v7664.toInt = v7625.toInt + (1) := iv_add rfl (by decide) e7665 (by omega) (by omega)
                refine lv_iinc (v := v7664) (lv' := [(6, .int v7664), (7, .int r7663), (5, .int v7591), (4, .int v7592), (0, .ref h0), (1, .int x1), (2, .int x2), (3, .int x3)]) hx hb dX1_firstComing_83 hl (k := 1) rfl (by rw [e7665]; rfl) (by decide) rfl (fun ls hl => ?_)
                refine lv_goto (tgt := 51) hx hb dX1_firstComing_86 (by decide) ?_
                exact ih_51 _ (by omega) H locs ls r7663 v7664 rfl (lv_sub hl [1, 0, 2, 3, 4, 5, 6, 7] rfl) ⟨by omega, by omega⟩ hI hS
      refine lv_iload hx hb dX1_firstComing_6 (lv_at hl 0 rfl) ?_
      refine lv_aload_n hx hb dX1_firstComing_8 rfl (lv_at hl 2 rfl) ?_
      obtain ⟨a7666, a7668, a7670, a7672, a7674, a7676, a7678, a7680, w7682, w7683, w7684, hO, hq7667, hq7669, hq7671, hq7673, hq7675, hq7677, hq7679, hq7681⟩ := op_11 hI hG0 List.not_mem_nil
      have hI := th_I.weak (a := h0) hI
      refine th_get hx hb hts inT1 hown hK hO rfl 0 (by decide) (hts _ (tb_c wd_236)) rfl rfl dX1_firstComing_9 ?_
      have hI := th_I.close hI hG0 hO (ok_11 hq7667 hq7669 hq7671 hq7673 hq7675 hq7677 hq7679 hq7681)
      obtain ⟨a7685, a7687, a7689, a7691, a7693, a7695, a7697, a7699, a7701, a7703, w7705, w7708, w7709, w7710, hO, hq7686, hq7688, hq7690, hq7692, hq7694, hq7696, hq7698, hq7700, hq7702, hq7704, ⟨k7706, k7707⟩, k7711⟩ := op_6 hI hq7667 List.not_mem_nil
      have hI := th_I.weak (a := a7666) hI
      refine th_getN hx hb hts inT6 hown hK hN hO rfl 5 (by decide) wn_70 rfl rfl dX1_firstComing_12 ?_
      have hI := th_I.close hI hq7667 hO (ok_6 hq7686 hq7688 hq7690 hq7692 hq7694 hq7696 hq7698 hq7700 hq7702 hq7704 ⟨by omega, by omega⟩ k7711)
      obtain ⟨a7713, w7715, hO, hq7714, ⟨k7716, k7717⟩, k7718⟩ := op_4 hI hq7696 List.not_mem_nil
      have hI := th_I.weak (a := a7695) hI
      have k7719 : (nI (16 % 32)).toInt = ((16 % 32 : Nat) : Int) := nI_toInt (by omega)
      have k7720 := k7718.1
      refine th_cVs (As := []) (rest := [.int v7591]) (n := 0) (d := 0) ⟨hx, hb, hml, hown, hts⟩ (c_X4_size l E D H a7695 (16 % 32) a7713 w7715 hO (by omega) (by omega) (by omega)) wd_920 wd_507 wd_508 wd_3 wd_509 (by decide +kernel) ⟨by rw [hR]; exact Nat.le_of_ble_eq_true rfl, by rw [hR]; exact Nat.le_of_ble_eq_true rfl⟩ hN hK hS ⟨_, hO⟩ rfl rfl hl.1 rfl (Nat.le_of_ble_eq_true rfl) dX1_firstComing_15 ⟨Nat.zero_le _, Nat.zero_le _⟩ (fun r7712 locs hp hS => ?_)
      have hp := hp.symm
      subst hp
      refine lv_icmp_ge (tgt := 118) hx hb dX1_firstComing_18 (by decide) (fun c7721 => ?_) (fun c7721 => ?_)
      · skip
        have k7722 := iv_le (X := w7715.toInt) (Y := v7591.toInt) rfl rfl c7721
        refine lv_iload hx hb dX1_firstComing_118 (lv_at hl 1 rfl) ?_
        have hI := th_I.close hI hq7696 hO (ok_4 hq7714 ⟨by omega, by omega⟩ k7718)
        have hpost : True := trivial
        rw [hQ]
        exact W.iret (v := v7592) hx hb hr (fun t ht hW => ⟨⟨v7592, (), rfl, hpost, by rw [ht]; exact hI, hN.warm hW, va_K.moved hW.alike hK⟩, hS.F ht⟩) hS.2.2 dX1_firstComing_120
      · skip
        have k7723 := iv_nle (X := w7715.toInt) (Y := v7591.toInt) rfl rfl c7721
        refine lv_iload_n hx hb dX1_firstComing_21 rfl (lv_at hl 5 rfl) ?_
        refine lv_aload_n hx hb dX1_firstComing_22 rfl (lv_at hl 2 rfl) ?_
        have hI := th_I.close hI hq7696 hO (ok_4 hq7714 ⟨by omega, by omega⟩ k7718)
        obtain ⟨a7724, a7726, a7728, a7730, a7732, a7734, a7736, a7738, w7740, w7741, w7742, hO, hq7725, hq7727, hq7729, hq7731, hq7733, hq7735, hq7737, hq7739⟩ := op_11 hI hG0 List.not_mem_nil
        have hI := th_I.weak (a := h0) hI
        refine th_get hx hb hts inT1 hown hK hO rfl 0 (by decide) (hts _ (tb_c wd_236)) rfl rfl dX1_firstComing_23 ?_
        have hI := th_I.close hI hG0 hO (ok_11 hq7725 hq7727 hq7729 hq7731 hq7733 hq7735 hq7737 hq7739)
        obtain ⟨a7743, a7745, a7747, a7749, a7751, a7753, a7755, a7757, a7759, a7761, w7763, w7766, w7767, w7768, hO, hq7744, hq7746, hq7748, hq7750, hq7752, hq7754, hq7756, hq7758, hq7760, hq7762, ⟨k7764, k7765⟩, k7769⟩ := op_6 hI hq7725 List.not_mem_nil
        have hI := th_I.weak (a := a7724) hI
        refine th_getN hx hb hts inT6 hown hK hN hO rfl 5 (by decide) wn_70 rfl rfl dX1_firstComing_26 ?_
        refine lv_iload hx hb dX1_firstComing_29 (lv_at hl 0 rfl) ?_
        refine lv_iconst (v := 1) hx hb dX1_firstComing_31 (by decide) ?_
        have hI := th_I.close hI hq7725 hO (ok_6 hq7744 hq7746 hq7748 hq7750 hq7752 hq7754 hq7756 hq7758 hq7760 hq7762 ⟨by omega, by omega⟩ k7769)
        refine th_cVi (As := [.int v7591, .int 1]) (rest := [.int x3]) (n := 2) (d := 0) ⟨hx, hb, hml, hown, hts⟩ (c_X4_at l E D G a7753 (16) hq7754 v7591 1) wd_925 wd_519 wd_520 wd_3 wd_521 (by decide +kernel) ⟨by rw [hR]; exact Nat.le_of_ble_eq_true rfl, by rw [hR]; exact Nat.le_of_ble_eq_true rfl⟩ hI hN hK hS (rc_4 hI hq7754 List.not_mem_nil) rfl rfl hl.1 rfl (Nat.le_of_ble_eq_true rfl) dX1_firstComing_32 ⟨Nat.zero_le _, Nat.zero_le _⟩ (fun r7770 H locs hp hI hS => ?_)
        refine va_mmax hx hb (hml.trans hl.1.symm) hown (hts _ (tb_c wd_935)) (hts _ (tb_c wd_43)) (hts _ (tb_c wd_4)) (hts _ (tb_c wd_44)) (by rw [hR]; exact Nat.le_of_ble_eq_true rfl) (by rw [hR]; exact Nat.le_of_ble_eq_true rfl) (Nat.zero_le _) (Nat.zero_le _) dX1_firstComing_35 ?_
        refine lv_topi (fun v7771 e7772 => ?_)
        have tv7771 := iv_max e7772
        refine lv_istore (lv' := [(6, .int v7771), (5, .int v7591), (4, .int v7592), (0, .ref h0), (1, .int x1), (2, .int x2), (3, .int x3)]) hx hb dX1_firstComing_38 hl (by decide) rfl (fun ls hl => ?_)
        refine lv_aload_n hx hb dX1_firstComing_40 rfl (lv_at hl 3 rfl) ?_
        refine lv_iload hx hb dX1_firstComing_41 (lv_at hl 1 rfl) ?_
        refine lv_iload hx hb dX1_firstComing_43 (lv_at hl 0 rfl) ?_
        refine lv_iload_n hx hb dX1_firstComing_45 rfl (lv_at hl 5 rfl) ?_
        refine th_cVi (As := [.int v7591, .int v7771, .int x2]) (rest := []) (n := 3) (d := 6) ⟨hx, hb, hml, hown, hts⟩ (c_X1_placeOf l E D G h0 hG0 v7591 v7771 x2) wd_921 wd_923 wp_25 wd_9 wd_924 (by decide +kernel) ⟨by rw [hR]; exact Nat.le_of_ble_eq_true rfl, by rw [hR]; exact Nat.le_of_ble_eq_true rfl⟩ hI hN hK hS (rc_11 hI hG0 List.not_mem_nil) rfl rfl hl.1 rfl (Nat.le_of_ble_eq_true rfl) dX1_firstComing_46 ⟨Nat.zero_le _, Nat.zero_le _⟩ (fun r7773 H locs hp hI hS => ?_)
        refine lv_istore (lv' := [(7, .int r7773), (6, .int v7771), (5, .int v7591), (4, .int v7592), (0, .ref h0), (1, .int x1), (2, .int x2), (3, .int x3)]) hx hb dX1_firstComing_49 hl (by decide) rfl (fun ls hl => ?_)
        exact J_51 _ H locs ls r7773 v7771 rfl (lv_sub hl [0, 1, 2, 3, 4, 5, 6, 7] rfl) ⟨by omega, by omega⟩ hI hS
  refine lv_iconst (v := (-1)) hx hb dX1_firstComing_0 (by decide) ?_
  refine lv_istore (lv' := [(4, .int (-1)), (0, .ref h0), (1, .int x1), (2, .int x2), (3, .int x3)]) hx hb dX1_firstComing_1 hl (by decide) rfl (fun ls hl => ?_)
  refine lv_iconst (v := 0) hx hb dX1_firstComing_3 (by decide) ?_
  refine lv_istore (lv' := [(5, .int 0), (4, .int (-1)), (0, .ref h0), (1, .int x1), (2, .int x2), (3, .int x3)]) hx hb dX1_firstComing_4 hl (by decide) rfl (fun ls hl => ?_)
  have zl : (0 : Int32).toInt = 0 := by decide
  exact J_6 _ s.heap [] ls 0 (-1) rfl (lv_sub hl [0, 1, 2, 3, 4, 5] rfl) ⟨by decide, by decide⟩ hI hS
theorem dX1_spread_0g : (decode cX1_spread 0 = .ok (.aload_n 0, 1)) ∧ (decode cX1_spread 1 = .ok (.getfield 9, 3)) ∧ (decode cX1_spread 4 = .ok (.iconst 0, 1)) ∧ (decode cX1_spread 5 = .ok (.invokestatic 80, 3)) ∧ (decode cX1_spread 8 = .ok (.iconst 0, 1)) ∧ (decode cX1_spread 9 = .ok (.istore_n 3, 1)) ∧ (decode cX1_spread 10 = .ok (.iload_n 3, 1)) ∧ (decode cX1_spread 11 = .ok (.aload_n 0, 1)) ∧ (decode cX1_spread 12 = .ok (.getfield 38, 3)) ∧ (decode cX1_spread 15 = .ok (.getfield 50, 3)) := by decide +kernel
theorem dX1_spread_0 : decode cX1_spread 0 = .ok (.aload_n 0, 1) := dX1_spread_0g.1
theorem dX1_spread_1 : decode cX1_spread 1 = .ok (.getfield 9, 3) := dX1_spread_0g.2.1
theorem dX1_spread_4 : decode cX1_spread 4 = .ok (.iconst 0, 1) := dX1_spread_0g.2.2.1
theorem dX1_spread_5 : decode cX1_spread 5 = .ok (.invokestatic 80, 3) := dX1_spread_0g.2.2.2.1
theorem dX1_spread_8 : decode cX1_spread 8 = .ok (.iconst 0, 1) := dX1_spread_0g.2.2.2.2.1
theorem dX1_spread_9 : decode cX1_spread 9 = .ok (.istore_n 3, 1) := dX1_spread_0g.2.2.2.2.2.1
theorem dX1_spread_10 : decode cX1_spread 10 = .ok (.iload_n 3, 1) := dX1_spread_0g.2.2.2.2.2.2.1
theorem dX1_spread_11 : decode cX1_spread 11 = .ok (.aload_n 0, 1) := dX1_spread_0g.2.2.2.2.2.2.2.1
theorem dX1_spread_12 : decode cX1_spread 12 = .ok (.getfield 38, 3) := dX1_spread_0g.2.2.2.2.2.2.2.2.1
theorem dX1_spread_15 : decode cX1_spread 15 = .ok (.getfield 50, 3) := dX1_spread_0g.2.2.2.2.2.2.2.2.2
theorem dX1_spread_18g : (decode cX1_spread 18 = .ok (.invokevirtual 56, 3)) ∧ (decode cX1_spread 21 = .ok (.if_icmp .ge 48, 3)) ∧ (decode cX1_spread 24 = .ok (.aload_n 0, 1)) ∧ (decode cX1_spread 25 = .ok (.iload_n 3, 1)) ∧ (decode cX1_spread 26 = .ok (.iload_n 1, 1)) ∧ (decode cX1_spread 27 = .ok (.iload_n 2, 1)) ∧ (decode cX1_spread 28 = .ok (.invokevirtual 62, 3)) ∧ (decode cX1_spread 31 = .ok (.istore 4, 2)) ∧ (decode cX1_spread 33 = .ok (.iload 4, 2)) ∧ (decode cX1_spread 35 = .ok (.invokestatic 86, 3)) := by decide +kernel
theorem dX1_spread_18 : decode cX1_spread 18 = .ok (.invokevirtual 56, 3) := dX1_spread_18g.1
theorem dX1_spread_21 : decode cX1_spread 21 = .ok (.if_icmp .ge 48, 3) := dX1_spread_18g.2.1
theorem dX1_spread_24 : decode cX1_spread 24 = .ok (.aload_n 0, 1) := dX1_spread_18g.2.2.1
theorem dX1_spread_25 : decode cX1_spread 25 = .ok (.iload_n 3, 1) := dX1_spread_18g.2.2.2.1
theorem dX1_spread_26 : decode cX1_spread 26 = .ok (.iload_n 1, 1) := dX1_spread_18g.2.2.2.2.1
theorem dX1_spread_27 : decode cX1_spread 27 = .ok (.iload_n 2, 1) := dX1_spread_18g.2.2.2.2.2.1
theorem dX1_spread_28 : decode cX1_spread 28 = .ok (.invokevirtual 62, 3) := dX1_spread_18g.2.2.2.2.2.2.1
theorem dX1_spread_31 : decode cX1_spread 31 = .ok (.istore 4, 2) := dX1_spread_18g.2.2.2.2.2.2.2.1
theorem dX1_spread_33 : decode cX1_spread 33 = .ok (.iload 4, 2) := dX1_spread_18g.2.2.2.2.2.2.2.2.1
theorem dX1_spread_35 : decode cX1_spread 35 = .ok (.invokestatic 86, 3) := dX1_spread_18g.2.2.2.2.2.2.2.2.2
theorem dX1_spread_38g : (decode cX1_spread 38 = .ok (.ifCond .eq 25, 3)) ∧ (decode cX1_spread 41 = .ok (.aload_n 0, 1)) ∧ (decode cX1_spread 42 = .ok (.getfield 9, 3)) ∧ (decode cX1_spread 45 = .ok (.iload 4, 2)) ∧ (decode cX1_spread 47 = .ok (.dup2, 1)) ∧ (decode cX1_spread 48 = .ok (.iaload, 1)) ∧ (decode cX1_spread 49 = .ok (.aload_n 0, 1)) ∧ (decode cX1_spread 50 = .ok (.getfield 38, 3)) ∧ (decode cX1_spread 53 = .ok (.getfield 50, 3)) ∧ (decode cX1_spread 56 = .ok (.iload_n 3, 1)) := by decide +kernel
theorem dX1_spread_38 : decode cX1_spread 38 = .ok (.ifCond .eq 25, 3) := dX1_spread_38g.1
theorem dX1_spread_41 : decode cX1_spread 41 = .ok (.aload_n 0, 1) := dX1_spread_38g.2.1
theorem dX1_spread_42 : decode cX1_spread 42 = .ok (.getfield 9, 3) := dX1_spread_38g.2.2.1
theorem dX1_spread_45 : decode cX1_spread 45 = .ok (.iload 4, 2) := dX1_spread_38g.2.2.2.1
theorem dX1_spread_47 : decode cX1_spread 47 = .ok (.dup2, 1) := dX1_spread_38g.2.2.2.2.1
theorem dX1_spread_48 : decode cX1_spread 48 = .ok (.iaload, 1) := dX1_spread_38g.2.2.2.2.2.1
theorem dX1_spread_49 : decode cX1_spread 49 = .ok (.aload_n 0, 1) := dX1_spread_38g.2.2.2.2.2.2.1
theorem dX1_spread_50 : decode cX1_spread 50 = .ok (.getfield 38, 3) := dX1_spread_38g.2.2.2.2.2.2.2.1
theorem dX1_spread_53 : decode cX1_spread 53 = .ok (.getfield 50, 3) := dX1_spread_38g.2.2.2.2.2.2.2.2.1
theorem dX1_spread_56 : decode cX1_spread 56 = .ok (.iload_n 3, 1) := dX1_spread_38g.2.2.2.2.2.2.2.2.2
theorem dX1_spread_57g : (decode cX1_spread 57 = .ok (.iconst 3, 1)) ∧ (decode cX1_spread 58 = .ok (.invokevirtual 66, 3)) ∧ (decode cX1_spread 61 = .ok (.iadd, 1)) ∧ (decode cX1_spread 62 = .ok (.iastore, 1)) ∧ (decode cX1_spread 63 = .ok (.iinc 3 1, 3)) ∧ (decode cX1_spread 66 = .ok (.goto (-56), 3)) ∧ (decode cX1_spread 69 = .ok (.return_, 1)) := by decide +kernel
theorem dX1_spread_57 : decode cX1_spread 57 = .ok (.iconst 3, 1) := dX1_spread_57g.1
theorem dX1_spread_58 : decode cX1_spread 58 = .ok (.invokevirtual 66, 3) := dX1_spread_57g.2.1
theorem dX1_spread_61 : decode cX1_spread 61 = .ok (.iadd, 1) := dX1_spread_57g.2.2.1
theorem dX1_spread_62 : decode cX1_spread 62 = .ok (.iastore, 1) := dX1_spread_57g.2.2.2.1
theorem dX1_spread_63 : decode cX1_spread 63 = .ok (.iinc 3 1, 3) := dX1_spread_57g.2.2.2.2.1
theorem dX1_spread_66 : decode cX1_spread 66 = .ok (.goto (-56), 3) := dX1_spread_57g.2.2.2.2.2.1
theorem dX1_spread_69 : decode cX1_spread 69 = .ok (.return_, 1) := dX1_spread_57g.2.2.2.2.2.2
set_option maxHeartbeats 4000000 in
set_option maxRecDepth 100000 in
theorem c_X1_spread (l : Launch) (E : Nat → Nat) (D : va_G) (G : th_G) (h0 : Nat) (hG0 : G h0 = some (11, 0)) (x1 x2 : Int32) : Met l yX1_spread (tb (.code yX1_spread cX1_spread 5 none)) (rm 7) (va_Pc [.ref h0, .int x1, .int x2] (th_P E D G)) (QV E D G) 0 0 (th_A G) := by
  refine Met.ofW (cc := cX1_spread) (maxL := 5) (ret := none) (by decide) rfl ?_
  intro p e s m args below meth c s₁ B hml hv
  obtain ⟨hav, hI, hN, hK⟩ := hv
  have hx := B.exec
  have hb := B.bytes
  have hr := B.returns
  have hts := atoms_spec (ws := tb (.code yX1_spread cX1_spread 5 none)) B.pre
  have hown : s.vm.findClass RX1 = some m.cls := findClass_of_methodNamed B.named
  have hlocks := B.notSynchronized
  have hS : va_S (th_A G) s.heap s.heap [] := va_S.rf
  have hl := lv_entry ([.ref h0, .int x1, .int x2]) (n := 5) (Nat.le_of_ble_eq_true rfl)
  rw [show entryFrame m args 5 = entryFrame m ([.ref h0, .int x1, .int x2] : List Value).toArray 5 from by rw [hav], lg_entry_eq]
  generalize (lg_sl ([.ref h0, .int x1, .int x2]) ++ List.replicate (5 - (lg_sl ([.ref h0, .int x1, .int x2])).length) Slot.unset).toArray = ls at hl ⊢
  have hl : lv_has ls 5 [(0, .ref h0), (1, .int x1), (2, .int x2)] := hl
  generalize hR : (headSpec (tb (.code yX1_spread cX1_spread 5 none)) (rm 7)).room = R
  have hR := hR.symm
  generalize hQ : MQ below (QV E D G) args s 0 0 (th_A G) = QF
  have hQ := hQ.symm
  have J_10 : ∀ (nn : Nat) (H : Heap) (locs : List Loc) (ls : Array Slot) (v2522 : Int32), (Int.toNat (16 - v2522.toInt) = nn) → lv_has ls 5 [(3, .int v2522), (0, .ref h0), (1, .int x1), (2, .int x2)] → ((0 : Int) ≤ v2522.toInt ∧ v2522.toInt ≤ 16) → th_I (okC E) D G [] H → va_S (th_A G) s.heap H locs → W p l e R s m args below meth c H locs 0 0 QF (F0 m 10 ls []) := by
    intro nn
    induction nn using Nat.strongRecOn with
    | ind nn ih_10 =>
      intro H locs ls v2522 hm hl k2523 hI hS
      refine lv_iload_n hx hb dX1_spread_10 rfl (lv_at hl 0 rfl) ?_
      refine lv_aload_n hx hb dX1_spread_11 rfl (lv_at hl 1 rfl) ?_
      obtain ⟨a2524, a2526, a2528, a2530, a2532, a2534, a2536, a2538, w2540, w2541, w2542, hO, hq2525, hq2527, hq2529, hq2531, hq2533, hq2535, hq2537, hq2539⟩ := op_11 hI hG0 List.not_mem_nil
      have hI := th_I.weak (a := h0) hI
      refine th_get hx hb hts inT1 hown hK hO rfl 0 (by decide) (hts _ (tb_c wd_236)) rfl rfl dX1_spread_12 ?_
      have hI := th_I.close hI hG0 hO (ok_11 hq2525 hq2527 hq2529 hq2531 hq2533 hq2535 hq2537 hq2539)
      obtain ⟨a2543, a2545, a2547, a2549, a2551, a2553, a2555, a2557, a2559, a2561, w2563, w2566, w2567, w2568, hO, hq2544, hq2546, hq2548, hq2550, hq2552, hq2554, hq2556, hq2558, hq2560, hq2562, ⟨k2564, k2565⟩, k2569⟩ := op_6 hI hq2525 List.not_mem_nil
      have hI := th_I.weak (a := a2524) hI
      refine th_getN hx hb hts inT6 hown hK hN hO rfl 5 (by decide) wn_70 rfl rfl dX1_spread_15 ?_
      have hI := th_I.close hI hq2525 hO (ok_6 hq2544 hq2546 hq2548 hq2550 hq2552 hq2554 hq2556 hq2558 hq2560 hq2562 ⟨by omega, by omega⟩ k2569)
      obtain ⟨a2571, w2573, hO, hq2572, ⟨k2574, k2575⟩, k2576⟩ := op_4 hI hq2554 List.not_mem_nil
      have hI := th_I.weak (a := a2553) hI
      have k2577 : (nI (16 % 32)).toInt = ((16 % 32 : Nat) : Int) := nI_toInt (by omega)
      have k2578 := k2576.1
      refine th_cVs (As := []) (rest := [.int v2522]) (n := 0) (d := 0) ⟨hx, hb, hml, hown, hts⟩ (c_X4_size l E D H a2553 (16 % 32) a2571 w2573 hO (by omega) (by omega) (by omega)) wd_920 wd_507 wd_508 wd_3 wd_509 (by decide +kernel) ⟨by rw [hR]; exact Nat.le_of_ble_eq_true rfl, by rw [hR]; exact Nat.le_of_ble_eq_true rfl⟩ hN hK hS ⟨_, hO⟩ rfl rfl hl.1 rfl (Nat.le_of_ble_eq_true rfl) dX1_spread_18 ⟨Nat.zero_le _, Nat.zero_le _⟩ (fun r2570 locs hp hS => ?_)
      have hp := hp.symm
      subst hp
      refine lv_icmp_ge (tgt := 69) hx hb dX1_spread_21 (by decide) (fun c2579 => ?_) (fun c2579 => ?_)
      · skip
        have k2580 := iv_le (X := w2573.toInt) (Y := v2522.toInt) rfl rfl c2579
        have hI := th_I.close hI hq2554 hO (ok_4 hq2572 ⟨by omega, by omega⟩ k2576)
        rw [hQ]
        exact W.vret hx hb hr (fun t ht hW => ⟨⟨(), rfl, trivial, by rw [ht]; exact hI, hN.warm hW, va_K.moved hW.alike hK⟩, hS.F ht⟩) hS.2.2 dX1_spread_69
      · skip
        have k2581 := iv_nle (X := w2573.toInt) (Y := v2522.toInt) rfl rfl c2579
        refine lv_aload_n hx hb dX1_spread_24 rfl (lv_at hl 1 rfl) ?_
        refine lv_iload_n hx hb dX1_spread_25 rfl (lv_at hl 0 rfl) ?_
        refine lv_iload_n hx hb dX1_spread_26 rfl (lv_at hl 2 rfl) ?_
        refine lv_iload_n hx hb dX1_spread_27 rfl (lv_at hl 3 rfl) ?_
        have hI := th_I.close hI hq2554 hO (ok_4 hq2572 ⟨by omega, by omega⟩ k2576)
        refine th_cVi (As := [.int v2522, .int x1, .int x2]) (rest := []) (n := 3) (d := 6) ⟨hx, hb, hml, hown, hts⟩ (c_X1_placeOf l E D G h0 hG0 v2522 x1 x2) wd_921 wd_923 wp_25 wd_9 wd_924 (by decide +kernel) ⟨by rw [hR]; exact Nat.le_of_ble_eq_true rfl, by rw [hR]; exact Nat.le_of_ble_eq_true rfl⟩ hI hN hK hS (rc_11 hI hG0 List.not_mem_nil) rfl rfl hl.1 rfl (Nat.le_of_ble_eq_true rfl) dX1_spread_28 ⟨Nat.zero_le _, Nat.zero_le _⟩ (fun r2582 H locs hp hI hS => ?_)
        refine lv_istore (lv' := [(4, .int r2582), (3, .int v2522), (0, .ref h0), (1, .int x1), (2, .int x2)]) hx hb dX1_spread_31 hl (by decide) rfl (fun ls hl => ?_)
        refine lv_iload hx hb dX1_spread_33 (lv_at hl 0 rfl) ?_
        refine th_cSN (As := [.int r2582]) (rest := []) (n := 1) (d := 0) ⟨hx, hb, hml, hown, hts⟩ (c_X11_isCell l H r2582) wn_946 wd_402 wd_1 wd_403 (by decide +kernel) ⟨by rw [hR]; exact Nat.le_of_ble_eq_true rfl, by rw [hR]; exact Nat.le_of_ble_eq_true rfl⟩ hN hS rfl hl.1 rfl (Nat.le_of_ble_eq_true rfl) dX1_spread_35 ⟨Nat.zero_le _, Nat.zero_le _⟩ (fun r2583 locs hp hS => ?_)
        rcases hp with ⟨rfl, hp⟩ | ⟨rfl, hp⟩
        · skip
          try simp only [rg, not_and, Int.not_le] at hp
          have hp2584 := hp
          refine lv_if_eq (tgt := 63) hx hb dX1_spread_38 (by decide) (fun c => absurd c (by decide)) (fun _ => ?_)
          refine lv_aload_n hx hb dX1_spread_41 rfl (lv_at hl 2 rfl) ?_
          obtain ⟨a2585, a2587, a2589, a2591, a2593, a2595, a2597, a2599, w2601, w2602, w2603, hO, hq2586, hq2588, hq2590, hq2592, hq2594, hq2596, hq2598, hq2600⟩ := op_11 hI hG0 List.not_mem_nil
          have hI := th_I.weak (a := h0) hI
          refine th_get hx hb hts inT1 hown hK hO rfl 3 (by decide) (hts _ (tb_c wd_239)) rfl rfl dX1_spread_42 ?_
          refine lv_iload hx hb dX1_spread_45 (lv_at hl 0 rfl) ?_
          refine lv_dup2_11 hx hb dX1_spread_47 rfl rfl ?_
          obtain ⟨_, hA2604⟩ := op_0 hI hq2592 (th_ne hG0 hq2592 (show (11 : Nat) ≠ 0 by decide))
          refine th_iald hx hb hK hA2604 0 rfl (iv_in (X := r2582.toInt) rfl (by omega) (by omega)) dX1_spread_48 (fun v2605 _ => ?_)
          refine lv_aload_n hx hb dX1_spread_49 rfl (lv_at hl 2 rfl) ?_
          refine th_get hx hb hts inT1 hown hK hO rfl 0 (by decide) (hts _ (tb_c wd_236)) rfl rfl dX1_spread_50 ?_
          have hI := th_I.close hI hG0 hO (ok_11 hq2586 hq2588 hq2590 hq2592 hq2594 hq2596 hq2598 hq2600)
          obtain ⟨a2606, a2608, a2610, a2612, a2614, a2616, a2618, a2620, a2622, a2624, w2626, w2629, w2630, w2631, hO, hq2607, hq2609, hq2611, hq2613, hq2615, hq2617, hq2619, hq2621, hq2623, hq2625, ⟨k2627, k2628⟩, k2632⟩ := op_6 hI hq2586 List.not_mem_nil
          have hI := th_I.weak (a := a2585) hI
          refine th_getN hx hb hts inT6 hown hK hN hO rfl 5 (by decide) wn_70 rfl rfl dX1_spread_53 ?_
          refine lv_iload_n hx hb dX1_spread_56 rfl (lv_at hl 1 rfl) ?_
          refine lv_iconst (v := 3) hx hb dX1_spread_57 (by decide) ?_
          have hI := th_I.close hI hq2586 hO (ok_6 hq2607 hq2609 hq2611 hq2613 hq2615 hq2617 hq2619 hq2621 hq2623 hq2625 ⟨by omega, by omega⟩ k2632)
          refine th_cVi (As := [.int v2522, .int 3]) (rest := [.int v2605, .int r2582, .ref a2591]) (n := 2) (d := 0) ⟨hx, hb, hml, hown, hts⟩ (c_X4_at l E D G a2616 (16) hq2617 v2522 3) wd_925 wd_519 wd_520 wd_3 wd_521 (by decide +kernel) ⟨by rw [hR]; exact Nat.le_of_ble_eq_true rfl, by rw [hR]; exact Nat.le_of_ble_eq_true rfl⟩ hI hN hK hS (rc_4 hI hq2617 List.not_mem_nil) rfl rfl hl.1 rfl (Nat.le_of_ble_eq_true rfl) dX1_spread_58 ⟨Nat.zero_le _, Nat.zero_le _⟩ (fun r2633 H locs hp hI hS => ?_)
          refine lv_iadd hx hb dX1_spread_61 ?_
          refine lv_topi (fun v2634 e2635 => ?_)
          try have tv2634 : v2634.toInt = v2605.toInt + r2633.toInt := iv_add rfl rfl e2635 (by omega) (by omega)
          obtain ⟨_, hA2636⟩ := op_0 hI hq2592 List.not_mem_nil
          refine th_iast hx hb hK hA2636 0 rfl hS ⟨_, hq2592⟩ (iv_in (X := r2582.toInt) rfl (by omega) (by omega)) dX1_spread_62 (fun H locs hA2636 oq hS => ?_)
          have hI := th_I.put hI hq2592 hA2636 ok_0 oq
          obtain ⟨v2637, e2638⟩ : ∃ y : Int32, y = v2522 + (1) := ⟨_, rfl⟩
          have tv2637 : v2637.toInt = v2522.toInt + (1) := iv_add rfl (by decide) e2638 (by omega) (by omega)
          refine lv_iinc (v := v2637) (lv' := [(3, .int v2637), (4, .int r2582), (0, .ref h0), (1, .int x1), (2, .int x2)]) hx hb dX1_spread_63 hl (k := 1) rfl (by rw [e2638]; rfl) (by decide) rfl (fun ls hl => ?_)
          refine lv_goto (tgt := 10) hx hb dX1_spread_66 (by decide) ?_
          exact ih_10 _ (by omega) H locs ls v2637 rfl (lv_sub hl [0, 2, 3, 4] rfl) ⟨by omega, by omega⟩ hI hS
        · skip
          try simp only [rg, not_and, Int.not_le] at hp
          have hp2639 := hp
          refine lv_if_eq (tgt := 63) hx hb dX1_spread_38 (by decide) (fun _ => ?_) (fun c => absurd c (by decide))
          obtain ⟨v2640, e2641⟩ : ∃ y : Int32, y = v2522 + (1) := ⟨_, rfl⟩
          have tv2640 : v2640.toInt = v2522.toInt + (1) := iv_add rfl (by decide) e2641 (by omega) (by omega)
          refine lv_iinc (v := v2640) (lv' := [(3, .int v2640), (4, .int r2582), (0, .ref h0), (1, .int x1), (2, .int x2)]) hx hb dX1_spread_63 hl (k := 1) rfl (by rw [e2641]; rfl) (by decide) rfl (fun ls hl => ?_)
          refine lv_goto (tgt := 10) hx hb dX1_spread_66 (by decide) ?_
          exact ih_10 _ (by omega) H locs ls v2640 rfl (lv_sub hl [0, 2, 3, 4] rfl) ⟨by omega, by omega⟩ hI hS
  refine lv_aload_n hx hb dX1_spread_0 rfl (lv_at hl 0 rfl) ?_
  obtain ⟨a2642, a2644, a2646, a2648, a2650, a2652, a2654, a2656, w2658, w2659, w2660, hO, hq2643, hq2645, hq2647, hq2649, hq2651, hq2653, hq2655, hq2657⟩ := op_11 hI hG0 List.not_mem_nil
  have hI := th_I.weak (a := h0) hI
  refine th_get hx hb hts inT1 hown hK hO rfl 3 (by decide) (hts _ (tb_c wd_239)) rfl rfl dX1_spread_1 ?_
  refine lv_iconst (v := 0) hx hb dX1_spread_4 (by decide) ?_
  have hI := th_I.close hI hG0 hO (ok_11 hq2643 hq2645 hq2647 hq2649 hq2651 hq2653 hq2655 hq2657)
  refine th_cSv (As := [.ref a2648, .int 0]) (rest := []) (n := 2) (d := 0) ⟨hx, hb, hml, hown, hts⟩ (c_J7_fill_53178 l E D G a2648 (24) hq2649 (by omega) 0) wd_945 wd_541 wd_15 wd_542 (by decide +kernel) ⟨by rw [hR]; exact Nat.le_of_ble_eq_true rfl, by rw [hR]; exact Nat.le_of_ble_eq_true rfl⟩ hI hN hK hS rfl hl.1 rfl (Nat.le_of_ble_eq_true rfl) dX1_spread_5 ⟨Nat.zero_le _, Nat.zero_le _⟩ (fun H locs hI hS => ?_)
  refine lv_iconst (v := 0) hx hb dX1_spread_8 (by decide) ?_
  refine lv_istore_n (lv' := [(3, .int 0), (0, .ref h0), (1, .int x1), (2, .int x2)]) hx hb dX1_spread_9 rfl hl (by decide) rfl (fun ls hl => ?_)
  have zl : (0 : Int32).toInt = 0 := by decide
  exact J_10 _ H locs ls 0 rfl (lv_sub hl [0, 1, 2, 3] rfl) ⟨by decide, by decide⟩ hI hS
theorem dX1_fullest_0g : (decode cX1_fullest 0 = .ok (.iconst (-1), 1)) ∧ (decode cX1_fullest 1 = .ok (.istore_n 1, 1)) ∧ (decode cX1_fullest 2 = .ok (.iconst 0, 1)) ∧ (decode cX1_fullest 3 = .ok (.istore_n 2, 1)) ∧ (decode cX1_fullest 4 = .ok (.iconst 0, 1)) ∧ (decode cX1_fullest 5 = .ok (.istore_n 3, 1)) ∧ (decode cX1_fullest 6 = .ok (.iload_n 3, 1)) ∧ (decode cX1_fullest 7 = .ok (.bipush 24, 2)) ∧ (decode cX1_fullest 9 = .ok (.if_icmp .ge 28, 3)) ∧ (decode cX1_fullest 12 = .ok (.aload_n 0, 1)) := by decide +kernel
theorem dX1_fullest_0 : decode cX1_fullest 0 = .ok (.iconst (-1), 1) := dX1_fullest_0g.1
theorem dX1_fullest_1 : decode cX1_fullest 1 = .ok (.istore_n 1, 1) := dX1_fullest_0g.2.1
theorem dX1_fullest_2 : decode cX1_fullest 2 = .ok (.iconst 0, 1) := dX1_fullest_0g.2.2.1
theorem dX1_fullest_3 : decode cX1_fullest 3 = .ok (.istore_n 2, 1) := dX1_fullest_0g.2.2.2.1
theorem dX1_fullest_4 : decode cX1_fullest 4 = .ok (.iconst 0, 1) := dX1_fullest_0g.2.2.2.2.1
theorem dX1_fullest_5 : decode cX1_fullest 5 = .ok (.istore_n 3, 1) := dX1_fullest_0g.2.2.2.2.2.1
theorem dX1_fullest_6 : decode cX1_fullest 6 = .ok (.iload_n 3, 1) := dX1_fullest_0g.2.2.2.2.2.2.1
theorem dX1_fullest_7 : decode cX1_fullest 7 = .ok (.bipush 24, 2) := dX1_fullest_0g.2.2.2.2.2.2.2.1
theorem dX1_fullest_9 : decode cX1_fullest 9 = .ok (.if_icmp .ge 28, 3) := dX1_fullest_0g.2.2.2.2.2.2.2.2.1
theorem dX1_fullest_12 : decode cX1_fullest 12 = .ok (.aload_n 0, 1) := dX1_fullest_0g.2.2.2.2.2.2.2.2.2
theorem dX1_fullest_13g : (decode cX1_fullest 13 = .ok (.getfield 9, 3)) ∧ (decode cX1_fullest 16 = .ok (.iload_n 3, 1)) ∧ (decode cX1_fullest 17 = .ok (.iaload, 1)) ∧ (decode cX1_fullest 18 = .ok (.iload_n 2, 1)) ∧ (decode cX1_fullest 19 = .ok (.if_icmp .le 12, 3)) ∧ (decode cX1_fullest 22 = .ok (.aload_n 0, 1)) ∧ (decode cX1_fullest 23 = .ok (.getfield 9, 3)) ∧ (decode cX1_fullest 26 = .ok (.iload_n 3, 1)) ∧ (decode cX1_fullest 27 = .ok (.iaload, 1)) ∧ (decode cX1_fullest 28 = .ok (.istore_n 2, 1)) := by decide +kernel
theorem dX1_fullest_13 : decode cX1_fullest 13 = .ok (.getfield 9, 3) := dX1_fullest_13g.1
theorem dX1_fullest_16 : decode cX1_fullest 16 = .ok (.iload_n 3, 1) := dX1_fullest_13g.2.1
theorem dX1_fullest_17 : decode cX1_fullest 17 = .ok (.iaload, 1) := dX1_fullest_13g.2.2.1
theorem dX1_fullest_18 : decode cX1_fullest 18 = .ok (.iload_n 2, 1) := dX1_fullest_13g.2.2.2.1
theorem dX1_fullest_19 : decode cX1_fullest 19 = .ok (.if_icmp .le 12, 3) := dX1_fullest_13g.2.2.2.2.1
theorem dX1_fullest_22 : decode cX1_fullest 22 = .ok (.aload_n 0, 1) := dX1_fullest_13g.2.2.2.2.2.1
theorem dX1_fullest_23 : decode cX1_fullest 23 = .ok (.getfield 9, 3) := dX1_fullest_13g.2.2.2.2.2.2.1
theorem dX1_fullest_26 : decode cX1_fullest 26 = .ok (.iload_n 3, 1) := dX1_fullest_13g.2.2.2.2.2.2.2.1
theorem dX1_fullest_27 : decode cX1_fullest 27 = .ok (.iaload, 1) := dX1_fullest_13g.2.2.2.2.2.2.2.2.1
theorem dX1_fullest_28 : decode cX1_fullest 28 = .ok (.istore_n 2, 1) := dX1_fullest_13g.2.2.2.2.2.2.2.2.2
theorem dX1_fullest_29g : (decode cX1_fullest 29 = .ok (.iload_n 3, 1)) ∧ (decode cX1_fullest 30 = .ok (.istore_n 1, 1)) ∧ (decode cX1_fullest 31 = .ok (.iinc 3 1, 3)) ∧ (decode cX1_fullest 34 = .ok (.goto (-28), 3)) ∧ (decode cX1_fullest 37 = .ok (.iload_n 1, 1)) ∧ (decode cX1_fullest 38 = .ok (.ireturn, 1)) := by decide +kernel
theorem dX1_fullest_29 : decode cX1_fullest 29 = .ok (.iload_n 3, 1) := dX1_fullest_29g.1
theorem dX1_fullest_30 : decode cX1_fullest 30 = .ok (.istore_n 1, 1) := dX1_fullest_29g.2.1
theorem dX1_fullest_31 : decode cX1_fullest 31 = .ok (.iinc 3 1, 3) := dX1_fullest_29g.2.2.1
theorem dX1_fullest_34 : decode cX1_fullest 34 = .ok (.goto (-28), 3) := dX1_fullest_29g.2.2.2.1
theorem dX1_fullest_37 : decode cX1_fullest 37 = .ok (.iload_n 1, 1) := dX1_fullest_29g.2.2.2.2.1
theorem dX1_fullest_38 : decode cX1_fullest 38 = .ok (.ireturn, 1) := dX1_fullest_29g.2.2.2.2.2
set_option maxHeartbeats 4000000 in
set_option maxRecDepth 100000 in
theorem c_X1_fullest (l : Launch) (E : Nat → Nat) (D : va_G) (G : th_G) (h0 : Nat) (hG0 : G h0 = some (11, 0)) : Met l yX1_fullest (tb (.code yX1_fullest cX1_fullest 4 (some .int))) (rm 0) (va_Pc [.ref h0] (th_P E D G)) (QI E D G (fun r => True)) 0 0 (th_A G) := by
  refine Met.ofW (cc := cX1_fullest) (maxL := 4) (ret := (some .int)) (by decide) rfl ?_
  intro p e s m args below meth c s₁ B hml hv
  obtain ⟨hav, hI, hN, hK⟩ := hv
  have hx := B.exec
  have hb := B.bytes
  have hr := B.returns
  have hts := atoms_spec (ws := tb (.code yX1_fullest cX1_fullest 4 (some .int))) B.pre
  have hown : s.vm.findClass RX1 = some m.cls := findClass_of_methodNamed B.named
  have hlocks := B.notSynchronized
  have hS : va_S (th_A G) s.heap s.heap [] := va_S.rf
  have hl := lv_entry ([.ref h0]) (n := 4) (Nat.le_of_ble_eq_true rfl)
  rw [show entryFrame m args 4 = entryFrame m ([.ref h0] : List Value).toArray 4 from by rw [hav], lg_entry_eq]
  generalize (lg_sl ([.ref h0]) ++ List.replicate (4 - (lg_sl ([.ref h0])).length) Slot.unset).toArray = ls at hl ⊢
  have hl : lv_has ls 4 [(0, .ref h0)] := hl
  generalize hR : (headSpec (tb (.code yX1_fullest cX1_fullest 4 (some .int))) (rm 0)).room = R
  have hR := hR.symm
  generalize hQ : MQ below (QI E D G (fun r => True)) args s 0 0 (th_A G) = QF
  have hQ := hQ.symm
  have J_6 : ∀ (nn : Nat) (H : Heap) (locs : List Loc) (ls : Array Slot) (v796 : Int32) (v797 : Int32) (v798 : Int32), (Int.toNat (24 - v796.toInt) = nn) → lv_has ls 4 [(3, .int v796), (2, .int v797), (1, .int v798), (0, .ref h0)] → ((0 : Int) ≤ v796.toInt ∧ v796.toInt ≤ 24) → ((-1 : Int) ≤ v798.toInt ∧ v798.toInt ≤ 23) → th_I (okC E) D G [] H → va_S (th_A G) s.heap H locs → W p l e R s m args below meth c H locs 0 0 QF (F0 m 6 ls []) := by
    intro nn
    induction nn using Nat.strongRecOn with
    | ind nn ih_6 =>
      intro H locs ls v796 v797 v798 hm hl k799 k800 hI hS
      refine lv_iload_n hx hb dX1_fullest_6 rfl (lv_at hl 0 rfl) ?_
      refine lv_bipush (v := 24) hx hb dX1_fullest_7 (by decide) ?_
      refine lv_icmp_ge (tgt := 37) hx hb dX1_fullest_9 (by decide) (fun c801 => ?_) (fun c801 => ?_)
      · skip
        have k802 := iv_le (X := (24)) (Y := v796.toInt) (by decide) rfl c801
        refine lv_iload_n hx hb dX1_fullest_37 rfl (lv_at hl 2 rfl) ?_
        have hpost : True := trivial
        rw [hQ]
        exact W.iret (v := v798) hx hb hr (fun t ht hW => ⟨⟨v798, (), rfl, hpost, by rw [ht]; exact hI, hN.warm hW, va_K.moved hW.alike hK⟩, hS.F ht⟩) hS.2.2 dX1_fullest_38
      · skip
        have k803 := iv_nle (X := (24)) (Y := v796.toInt) (by decide) rfl c801
        refine lv_aload_n hx hb dX1_fullest_12 rfl (lv_at hl 3 rfl) ?_
        obtain ⟨a804, a806, a808, a810, a812, a814, a816, a818, w820, w821, w822, hO, hq805, hq807, hq809, hq811, hq813, hq815, hq817, hq819⟩ := op_11 hI hG0 List.not_mem_nil
        have hI := th_I.weak (a := h0) hI
        refine th_get hx hb hts inT1 hown hK hO rfl 3 (by decide) (hts _ (tb_c wd_239)) rfl rfl dX1_fullest_13 ?_
        refine lv_iload_n hx hb dX1_fullest_16 rfl (lv_at hl 0 rfl) ?_
        obtain ⟨_, hA823⟩ := op_0 hI hq811 (th_ne hG0 hq811 (show (11 : Nat) ≠ 0 by decide))
        refine th_iald hx hb hK hA823 0 rfl (iv_in (X := v796.toInt) rfl (by omega) (by omega)) dX1_fullest_17 (fun v824 _ => ?_)
        refine lv_iload_n hx hb dX1_fullest_18 rfl (lv_at hl 1 rfl) ?_
        have k825 := iv_lo v824
        have k826 := iv_hi v824
        have k827 := iv_lo v797
        have k828 := iv_hi v797
        refine lv_icmp_le (tgt := 31) hx hb dX1_fullest_19 (by decide) (fun c829 => ?_) (fun c829 => ?_)
        · skip
          have k830 := iv_le (X := v824.toInt) (Y := v797.toInt) rfl rfl c829
          obtain ⟨v831, e832⟩ : ∃ y : Int32, y = v796 + (1) := ⟨_, rfl⟩
          have tv831 : v831.toInt = v796.toInt + (1) := iv_add rfl (by decide) e832 (by omega) (by omega)
          refine lv_iinc (v := v831) (lv' := [(3, .int v831), (2, .int v797), (1, .int v798), (0, .ref h0)]) hx hb dX1_fullest_31 hl (k := 0) rfl (by rw [e832]; rfl) (by decide) rfl (fun ls hl => ?_)
          refine lv_goto (tgt := 6) hx hb dX1_fullest_34 (by decide) ?_
          have hI := th_I.close hI hG0 hO (ok_11 hq805 hq807 hq809 hq811 hq813 hq815 hq817 hq819)
          exact ih_6 _ (by omega) H locs ls v831 v797 v798 rfl (lv_sub hl [0, 1, 2, 3] rfl) ⟨by omega, by omega⟩ ⟨by omega, by omega⟩ hI hS
        · skip
          have k833 := iv_nle (X := v824.toInt) (Y := v797.toInt) rfl rfl c829
          refine lv_aload_n hx hb dX1_fullest_22 rfl (lv_at hl 3 rfl) ?_
          refine th_get hx hb hts inT1 hown hK hO rfl 3 (by decide) (hts _ (tb_c wd_239)) rfl rfl dX1_fullest_23 ?_
          refine lv_iload_n hx hb dX1_fullest_26 rfl (lv_at hl 0 rfl) ?_
          obtain ⟨_, hA834⟩ := op_0 hI hq811 (th_ne hG0 hq811 (show (11 : Nat) ≠ 0 by decide))
          refine th_iald hx hb hK hA834 0 rfl (iv_in (X := v796.toInt) rfl (by omega) (by omega)) dX1_fullest_27 (fun v835 _ => ?_)
          refine lv_istore_n (lv' := [(2, .int v835), (3, .int v796), (1, .int v798), (0, .ref h0)]) hx hb dX1_fullest_28 rfl hl (by decide) rfl (fun ls hl => ?_)
          refine lv_iload_n hx hb dX1_fullest_29 rfl (lv_at hl 1 rfl) ?_
          refine lv_istore_n (lv' := [(1, .int v796), (2, .int v835), (3, .int v796), (0, .ref h0)]) hx hb dX1_fullest_30 rfl hl (by decide) rfl (fun ls hl => ?_)
          obtain ⟨v836, e837⟩ : ∃ y : Int32, y = v796 + (1) := ⟨_, rfl⟩
          have tv836 : v836.toInt = v796.toInt + (1) := iv_add rfl (by decide) e837 (by omega) (by omega)
          refine lv_iinc (v := v836) (lv' := [(3, .int v836), (1, .int v796), (2, .int v835), (0, .ref h0)]) hx hb dX1_fullest_31 hl (k := 2) rfl (by rw [e837]; rfl) (by decide) rfl (fun ls hl => ?_)
          refine lv_goto (tgt := 6) hx hb dX1_fullest_34 (by decide) ?_
          have hI := th_I.close hI hG0 hO (ok_11 hq805 hq807 hq809 hq811 hq813 hq815 hq817 hq819)
          exact ih_6 _ (by omega) H locs ls v836 v835 v796 rfl (lv_sub hl [0, 2, 1, 3] rfl) ⟨by omega, by omega⟩ ⟨by omega, by omega⟩ hI hS
  refine lv_iconst (v := (-1)) hx hb dX1_fullest_0 (by decide) ?_
  refine lv_istore_n (lv' := [(1, .int (-1)), (0, .ref h0)]) hx hb dX1_fullest_1 rfl hl (by decide) rfl (fun ls hl => ?_)
  refine lv_iconst (v := 0) hx hb dX1_fullest_2 (by decide) ?_
  refine lv_istore_n (lv' := [(2, .int 0), (1, .int (-1)), (0, .ref h0)]) hx hb dX1_fullest_3 rfl hl (by decide) rfl (fun ls hl => ?_)
  refine lv_iconst (v := 0) hx hb dX1_fullest_4 (by decide) ?_
  refine lv_istore_n (lv' := [(3, .int 0), (2, .int 0), (1, .int (-1)), (0, .ref h0)]) hx hb dX1_fullest_5 rfl hl (by decide) rfl (fun ls hl => ?_)
  have zl : (0 : Int32).toInt = 0 := by decide
  exact J_6 _ s.heap [] ls 0 0 (-1) rfl (lv_sub hl [0, 1, 2, 3] rfl) ⟨by decide, by decide⟩ ⟨by decide, by decide⟩ hI hS
theorem dX1_coloured_0g : (decode cX1_coloured 0 = .ok (.iconst 0, 1)) ∧ (decode cX1_coloured 1 = .ok (.istore_n 1, 1)) ∧ (decode cX1_coloured 2 = .ok (.aload_n 0, 1)) ∧ (decode cX1_coloured 3 = .ok (.getfield 9, 3)) ∧ (decode cX1_coloured 6 = .ok (.astore_n 2, 1)) ∧ (decode cX1_coloured 7 = .ok (.aload_n 2, 1)) ∧ (decode cX1_coloured 8 = .ok (.arraylength, 1)) ∧ (decode cX1_coloured 9 = .ok (.istore_n 3, 1)) ∧ (decode cX1_coloured 10 = .ok (.iconst 0, 1)) ∧ (decode cX1_coloured 11 = .ok (.istore 4, 2)) := by decide +kernel
theorem dX1_coloured_0 : decode cX1_coloured 0 = .ok (.iconst 0, 1) := dX1_coloured_0g.1
theorem dX1_coloured_1 : decode cX1_coloured 1 = .ok (.istore_n 1, 1) := dX1_coloured_0g.2.1
theorem dX1_coloured_2 : decode cX1_coloured 2 = .ok (.aload_n 0, 1) := dX1_coloured_0g.2.2.1
theorem dX1_coloured_3 : decode cX1_coloured 3 = .ok (.getfield 9, 3) := dX1_coloured_0g.2.2.2.1
theorem dX1_coloured_6 : decode cX1_coloured 6 = .ok (.astore_n 2, 1) := dX1_coloured_0g.2.2.2.2.1
theorem dX1_coloured_7 : decode cX1_coloured 7 = .ok (.aload_n 2, 1) := dX1_coloured_0g.2.2.2.2.2.1
theorem dX1_coloured_8 : decode cX1_coloured 8 = .ok (.arraylength, 1) := dX1_coloured_0g.2.2.2.2.2.2.1
theorem dX1_coloured_9 : decode cX1_coloured 9 = .ok (.istore_n 3, 1) := dX1_coloured_0g.2.2.2.2.2.2.2.1
theorem dX1_coloured_10 : decode cX1_coloured 10 = .ok (.iconst 0, 1) := dX1_coloured_0g.2.2.2.2.2.2.2.2.1
theorem dX1_coloured_11 : decode cX1_coloured 11 = .ok (.istore 4, 2) := dX1_coloured_0g.2.2.2.2.2.2.2.2.2
theorem dX1_coloured_13g : (decode cX1_coloured 13 = .ok (.iload 4, 2)) ∧ (decode cX1_coloured 15 = .ok (.iload_n 3, 1)) ∧ (decode cX1_coloured 16 = .ok (.if_icmp .ge 28, 3)) ∧ (decode cX1_coloured 19 = .ok (.aload_n 2, 1)) ∧ (decode cX1_coloured 20 = .ok (.iload 4, 2)) ∧ (decode cX1_coloured 22 = .ok (.iaload, 1)) ∧ (decode cX1_coloured 23 = .ok (.istore 5, 2)) ∧ (decode cX1_coloured 25 = .ok (.iload_n 1, 1)) ∧ (decode cX1_coloured 26 = .ok (.iload 5, 2)) ∧ (decode cX1_coloured 28 = .ok (.ifCond .le 7, 3)) := by decide +kernel
theorem dX1_coloured_13 : decode cX1_coloured 13 = .ok (.iload 4, 2) := dX1_coloured_13g.1
theorem dX1_coloured_15 : decode cX1_coloured 15 = .ok (.iload_n 3, 1) := dX1_coloured_13g.2.1
theorem dX1_coloured_16 : decode cX1_coloured 16 = .ok (.if_icmp .ge 28, 3) := dX1_coloured_13g.2.2.1
theorem dX1_coloured_19 : decode cX1_coloured 19 = .ok (.aload_n 2, 1) := dX1_coloured_13g.2.2.2.1
theorem dX1_coloured_20 : decode cX1_coloured 20 = .ok (.iload 4, 2) := dX1_coloured_13g.2.2.2.2.1
theorem dX1_coloured_22 : decode cX1_coloured 22 = .ok (.iaload, 1) := dX1_coloured_13g.2.2.2.2.2.1
theorem dX1_coloured_23 : decode cX1_coloured 23 = .ok (.istore 5, 2) := dX1_coloured_13g.2.2.2.2.2.2.1
theorem dX1_coloured_25 : decode cX1_coloured 25 = .ok (.iload_n 1, 1) := dX1_coloured_13g.2.2.2.2.2.2.2.1
theorem dX1_coloured_26 : decode cX1_coloured 26 = .ok (.iload 5, 2) := dX1_coloured_13g.2.2.2.2.2.2.2.2.1
theorem dX1_coloured_28 : decode cX1_coloured 28 = .ok (.ifCond .le 7, 3) := dX1_coloured_13g.2.2.2.2.2.2.2.2.2
theorem dX1_coloured_31g : (decode cX1_coloured 31 = .ok (.iconst 1, 1)) ∧ (decode cX1_coloured 32 = .ok (.goto 4, 3)) ∧ (decode cX1_coloured 35 = .ok (.iconst 0, 1)) ∧ (decode cX1_coloured 36 = .ok (.iadd, 1)) ∧ (decode cX1_coloured 37 = .ok (.istore_n 1, 1)) ∧ (decode cX1_coloured 38 = .ok (.iinc 4 1, 3)) ∧ (decode cX1_coloured 41 = .ok (.goto (-28), 3)) ∧ (decode cX1_coloured 44 = .ok (.iload_n 1, 1)) ∧ (decode cX1_coloured 45 = .ok (.ireturn, 1)) := by decide +kernel
theorem dX1_coloured_31 : decode cX1_coloured 31 = .ok (.iconst 1, 1) := dX1_coloured_31g.1
theorem dX1_coloured_32 : decode cX1_coloured 32 = .ok (.goto 4, 3) := dX1_coloured_31g.2.1
theorem dX1_coloured_35 : decode cX1_coloured 35 = .ok (.iconst 0, 1) := dX1_coloured_31g.2.2.1
theorem dX1_coloured_36 : decode cX1_coloured 36 = .ok (.iadd, 1) := dX1_coloured_31g.2.2.2.1
theorem dX1_coloured_37 : decode cX1_coloured 37 = .ok (.istore_n 1, 1) := dX1_coloured_31g.2.2.2.2.1
theorem dX1_coloured_38 : decode cX1_coloured 38 = .ok (.iinc 4 1, 3) := dX1_coloured_31g.2.2.2.2.2.1
theorem dX1_coloured_41 : decode cX1_coloured 41 = .ok (.goto (-28), 3) := dX1_coloured_31g.2.2.2.2.2.2.1
theorem dX1_coloured_44 : decode cX1_coloured 44 = .ok (.iload_n 1, 1) := dX1_coloured_31g.2.2.2.2.2.2.2.1
theorem dX1_coloured_45 : decode cX1_coloured 45 = .ok (.ireturn, 1) := dX1_coloured_31g.2.2.2.2.2.2.2.2
set_option maxHeartbeats 4000000 in
set_option maxRecDepth 100000 in
theorem c_X1_coloured (l : Launch) (E : Nat → Nat) (D : va_G) (G : th_G) (h0 : Nat) (hG0 : G h0 = some (11, 0)) : Met l yX1_coloured (tb (.code yX1_coloured cX1_coloured 6 (some .int))) (rm 0) (va_Pc [.ref h0] (th_P E D G)) (QI E D G (fun r => True)) 0 0 (th_A G) := by
  refine Met.ofW (cc := cX1_coloured) (maxL := 6) (ret := (some .int)) (by decide) rfl ?_
  intro p e s m args below meth c s₁ B hml hv
  obtain ⟨hav, hI, hN, hK⟩ := hv
  have hx := B.exec
  have hb := B.bytes
  have hr := B.returns
  have hts := atoms_spec (ws := tb (.code yX1_coloured cX1_coloured 6 (some .int))) B.pre
  have hown : s.vm.findClass RX1 = some m.cls := findClass_of_methodNamed B.named
  have hlocks := B.notSynchronized
  have hS : va_S (th_A G) s.heap s.heap [] := va_S.rf
  have hl := lv_entry ([.ref h0]) (n := 6) (Nat.le_of_ble_eq_true rfl)
  rw [show entryFrame m args 6 = entryFrame m ([.ref h0] : List Value).toArray 6 from by rw [hav], lg_entry_eq]
  generalize (lg_sl ([.ref h0]) ++ List.replicate (6 - (lg_sl ([.ref h0])).length) Slot.unset).toArray = ls at hl ⊢
  have hl : lv_has ls 6 [(0, .ref h0)] := hl
  generalize hR : (headSpec (tb (.code yX1_coloured cX1_coloured 6 (some .int))) (rm 0)).room = R
  have hR := hR.symm
  generalize hQ : MQ below (QI E D G (fun r => True)) args s 0 0 (th_A G) = QF
  have hQ := hQ.symm
  have J_13 : ∀ (nn : Nat) (H : Heap) (locs : List Loc) (ls : Array Slot) (v1388 : Int32) (a1389 : Nat) (v1390 : Int32), (Int.toNat (24 - v1388.toInt) = nn) → lv_has ls 6 [(4, .int v1388), (3, .int 24), (2, .ref a1389), (1, .int v1390), (0, .ref h0)] → ((0 : Int) ≤ v1388.toInt ∧ v1388.toInt ≤ 24) → G a1389 = some (0, 24) → th_I (okC E) D G [] H → va_S (th_A G) s.heap H locs → W p l e R s m args below meth c H locs 0 0 QF (F0 m 13 ls []) := by
    intro nn
    induction nn using Nat.strongRecOn with
    | ind nn ih_13 =>
      intro H locs ls v1388 a1389 v1390 hm hl k1391 ha1389 hI hS
      refine lv_iload hx hb dX1_coloured_13 (lv_at hl 0 rfl) ?_
      refine lv_iload_n hx hb dX1_coloured_15 rfl (lv_at hl 1 rfl) ?_
      refine lv_icmp_ge (tgt := 44) hx hb dX1_coloured_16 (by decide) (fun c1392 => ?_) (fun c1392 => ?_)
      · skip
        have k1393 := iv_le (X := (24)) (Y := v1388.toInt) (by decide) rfl c1392
        refine lv_iload_n hx hb dX1_coloured_44 rfl (lv_at hl 3 rfl) ?_
        have hpost : True := trivial
        rw [hQ]
        exact W.iret (v := v1390) hx hb hr (fun t ht hW => ⟨⟨v1390, (), rfl, hpost, by rw [ht]; exact hI, hN.warm hW, va_K.moved hW.alike hK⟩, hS.F ht⟩) hS.2.2 dX1_coloured_45
      · skip
        have k1394 := iv_nle (X := (24)) (Y := v1388.toInt) (by decide) rfl c1392
        refine lv_aload_n hx hb dX1_coloured_19 rfl (lv_at hl 2 rfl) ?_
        refine lv_iload hx hb dX1_coloured_20 (lv_at hl 0 rfl) ?_
        obtain ⟨_, hA1395⟩ := op_0 hI ha1389 List.not_mem_nil
        refine th_iald hx hb hK hA1395 0 rfl (iv_in (X := v1388.toInt) rfl (by omega) (by omega)) dX1_coloured_22 (fun v1396 _ => ?_)
        refine lv_istore (lv' := [(5, .int v1396), (4, .int v1388), (3, .int 24), (2, .ref a1389), (1, .int v1390), (0, .ref h0)]) hx hb dX1_coloured_23 hl (by decide) rfl (fun ls hl => ?_)
        refine lv_iload_n hx hb dX1_coloured_25 rfl (lv_at hl 4 rfl) ?_
        refine lv_iload hx hb dX1_coloured_26 (lv_at hl 0 rfl) ?_
        have k1397 := iv_lo v1396
        have k1398 := iv_hi v1396
        refine lv_if_le (tgt := 35) hx hb dX1_coloured_28 (by decide) (fun c1399 => ?_) (fun c1399 => ?_)
        · skip
          have k1400 := iv_le (X := v1396.toInt) (Y := (0)) rfl (by decide) c1399
          refine lv_iconst (v := 0) hx hb dX1_coloured_35 (by decide) ?_
          refine lv_iadd hx hb dX1_coloured_36 ?_
          refine lv_topi (fun v1401 e1402 => ?_)
          have k1403 := iv_lo v1390
          have k1404 := iv_hi v1390
          have tv1401 : v1401.toInt = v1390.toInt + (0) := iv_add rfl (by decide) e1402 (by omega) (by omega)
          refine lv_istore_n (lv' := [(1, .int v1401), (5, .int v1396), (4, .int v1388), (3, .int 24), (2, .ref a1389), (0, .ref h0)]) hx hb dX1_coloured_37 rfl hl (by decide) rfl (fun ls hl => ?_)
          obtain ⟨v1405, e1406⟩ : ∃ y : Int32, y = v1388 + (1) := ⟨_, rfl⟩
          have tv1405 : v1405.toInt = v1388.toInt + (1) := iv_add rfl (by decide) e1406 (by omega) (by omega)
          refine lv_iinc (v := v1405) (lv' := [(4, .int v1405), (1, .int v1401), (5, .int v1396), (3, .int 24), (2, .ref a1389), (0, .ref h0)]) hx hb dX1_coloured_38 hl (k := 2) rfl (by rw [e1406]; rfl) (by decide) rfl (fun ls hl => ?_)
          refine lv_goto (tgt := 13) hx hb dX1_coloured_41 (by decide) ?_
          exact ih_13 _ (by omega) H locs ls v1405 a1389 v1401 rfl (lv_sub hl [0, 3, 4, 1, 5] rfl) ⟨by omega, by omega⟩ ha1389 hI hS
        · skip
          have k1407 := iv_nle (X := v1396.toInt) (Y := (0)) rfl (by decide) c1399
          refine lv_iconst (v := 1) hx hb dX1_coloured_31 (by decide) ?_
          refine lv_goto (tgt := 36) hx hb dX1_coloured_32 (by decide) ?_
          refine lv_iadd hx hb dX1_coloured_36 ?_
          refine lv_topi (fun v1408 e1409 => ?_)
          try have tv1408 : v1408.toInt = v1390.toInt + (1) := iv_add rfl (by decide) e1409 (by omega) (by omega)
          refine lv_istore_n (lv' := [(1, .int v1408), (5, .int v1396), (4, .int v1388), (3, .int 24), (2, .ref a1389), (0, .ref h0)]) hx hb dX1_coloured_37 rfl hl (by decide) rfl (fun ls hl => ?_)
          obtain ⟨v1410, e1411⟩ : ∃ y : Int32, y = v1388 + (1) := ⟨_, rfl⟩
          have tv1410 : v1410.toInt = v1388.toInt + (1) := iv_add rfl (by decide) e1411 (by omega) (by omega)
          refine lv_iinc (v := v1410) (lv' := [(4, .int v1410), (1, .int v1408), (5, .int v1396), (3, .int 24), (2, .ref a1389), (0, .ref h0)]) hx hb dX1_coloured_38 hl (k := 2) rfl (by rw [e1411]; rfl) (by decide) rfl (fun ls hl => ?_)
          refine lv_goto (tgt := 13) hx hb dX1_coloured_41 (by decide) ?_
          exact ih_13 _ (by omega) H locs ls v1410 a1389 v1408 rfl (lv_sub hl [0, 3, 4, 1, 5] rfl) ⟨by omega, by omega⟩ ha1389 hI hS
  refine lv_iconst (v := 0) hx hb dX1_coloured_0 (by decide) ?_
  refine lv_istore_n (lv' := [(1, .int 0), (0, .ref h0)]) hx hb dX1_coloured_1 rfl hl (by decide) rfl (fun ls hl => ?_)
  refine lv_aload_n hx hb dX1_coloured_2 rfl (lv_at hl 1 rfl) ?_
  obtain ⟨a1412, a1414, a1416, a1418, a1420, a1422, a1424, a1426, w1428, w1429, w1430, hO, hq1413, hq1415, hq1417, hq1419, hq1421, hq1423, hq1425, hq1427⟩ := op_11 hI hG0 List.not_mem_nil
  have hI := th_I.weak (a := h0) hI
  refine th_get hx hb hts inT1 hown hK hO rfl 3 (by decide) (hts _ (tb_c wd_239)) rfl rfl dX1_coloured_3 ?_
  refine lv_astore_n (lv' := [(2, .ref a1418), (1, .int 0), (0, .ref h0)]) hx hb dX1_coloured_6 rfl hl (by decide) rfl (fun ls hl => ?_)
  refine lv_aload_n hx hb dX1_coloured_7 rfl (lv_at hl 0 rfl) ?_
  obtain ⟨_, hA1431⟩ := op_0 hI hq1419 (th_ne hG0 hq1419 (show (11 : Nat) ≠ 0 by decide))
  refine va_alen hx hb hK (th_one hA1431) 0 0 rfl (v := 24) rfl (show Int32.ofNat 24 = (24 : Int32) from by decide) dX1_coloured_8 ?_
  refine lv_istore_n (lv' := [(3, .int 24), (2, .ref a1418), (1, .int 0), (0, .ref h0)]) hx hb dX1_coloured_9 rfl hl (by decide) rfl (fun ls hl => ?_)
  refine lv_iconst (v := 0) hx hb dX1_coloured_10 (by decide) ?_
  refine lv_istore (lv' := [(4, .int 0), (3, .int 24), (2, .ref a1418), (1, .int 0), (0, .ref h0)]) hx hb dX1_coloured_11 hl (by decide) rfl (fun ls hl => ?_)
  have hI := th_I.close hI hG0 hO (ok_11 hq1413 hq1415 hq1417 hq1419 hq1421 hq1423 hq1425 hq1427)
  have zl : (0 : Int32).toInt = 0 := by decide
  exact J_13 _ s.heap [] ls 0 a1418 0 rfl (lv_sub hl [0, 1, 2, 3, 4] rfl) ⟨by decide, by decide⟩ hq1419 hI hS
theorem dX1_tint_0g : (decode cX1_tint 0 = .ok (.aload_n 0, 1)) ∧ (decode cX1_tint 1 = .ok (.getfield 15, 3)) ∧ (decode cX1_tint 4 = .ok (.iconst 0, 1)) ∧ (decode cX1_tint 5 = .ok (.invokestatic 80, 3)) ∧ (decode cX1_tint 8 = .ok (.iconst 0, 1)) ∧ (decode cX1_tint 9 = .ok (.istore_n 1, 1)) ∧ (decode cX1_tint 10 = .ok (.iload_n 1, 1)) ∧ (decode cX1_tint 11 = .ok (.aload_n 0, 1)) ∧ (decode cX1_tint 12 = .ok (.getfield 38, 3)) ∧ (decode cX1_tint 15 = .ok (.getfield 50, 3)) := by decide +kernel
theorem dX1_tint_0 : decode cX1_tint 0 = .ok (.aload_n 0, 1) := dX1_tint_0g.1
theorem dX1_tint_1 : decode cX1_tint 1 = .ok (.getfield 15, 3) := dX1_tint_0g.2.1
theorem dX1_tint_4 : decode cX1_tint 4 = .ok (.iconst 0, 1) := dX1_tint_0g.2.2.1
theorem dX1_tint_5 : decode cX1_tint 5 = .ok (.invokestatic 80, 3) := dX1_tint_0g.2.2.2.1
theorem dX1_tint_8 : decode cX1_tint 8 = .ok (.iconst 0, 1) := dX1_tint_0g.2.2.2.2.1
theorem dX1_tint_9 : decode cX1_tint 9 = .ok (.istore_n 1, 1) := dX1_tint_0g.2.2.2.2.2.1
theorem dX1_tint_10 : decode cX1_tint 10 = .ok (.iload_n 1, 1) := dX1_tint_0g.2.2.2.2.2.2.1
theorem dX1_tint_11 : decode cX1_tint 11 = .ok (.aload_n 0, 1) := dX1_tint_0g.2.2.2.2.2.2.2.1
theorem dX1_tint_12 : decode cX1_tint 12 = .ok (.getfield 38, 3) := dX1_tint_0g.2.2.2.2.2.2.2.2.1
theorem dX1_tint_15 : decode cX1_tint 15 = .ok (.getfield 50, 3) := dX1_tint_0g.2.2.2.2.2.2.2.2.2
theorem dX1_tint_18g : (decode cX1_tint 18 = .ok (.invokevirtual 56, 3)) ∧ (decode cX1_tint 21 = .ok (.if_icmp .ge 80, 3)) ∧ (decode cX1_tint 24 = .ok (.aload_n 0, 1)) ∧ (decode cX1_tint 25 = .ok (.getfield 38, 3)) ∧ (decode cX1_tint 28 = .ok (.getfield 50, 3)) ∧ (decode cX1_tint 31 = .ok (.iload_n 1, 1)) ∧ (decode cX1_tint 32 = .ok (.iconst 0, 1)) ∧ (decode cX1_tint 33 = .ok (.invokevirtual 66, 3)) ∧ (decode cX1_tint 36 = .ok (.istore_n 2, 1)) ∧ (decode cX1_tint 37 = .ok (.aload_n 0, 1)) := by decide +kernel
theorem dX1_tint_18 : decode cX1_tint 18 = .ok (.invokevirtual 56, 3) := dX1_tint_18g.1
theorem dX1_tint_21 : decode cX1_tint 21 = .ok (.if_icmp .ge 80, 3) := dX1_tint_18g.2.1
theorem dX1_tint_24 : decode cX1_tint 24 = .ok (.aload_n 0, 1) := dX1_tint_18g.2.2.1
theorem dX1_tint_25 : decode cX1_tint 25 = .ok (.getfield 38, 3) := dX1_tint_18g.2.2.2.1
theorem dX1_tint_28 : decode cX1_tint 28 = .ok (.getfield 50, 3) := dX1_tint_18g.2.2.2.2.1
theorem dX1_tint_31 : decode cX1_tint 31 = .ok (.iload_n 1, 1) := dX1_tint_18g.2.2.2.2.2.1
theorem dX1_tint_32 : decode cX1_tint 32 = .ok (.iconst 0, 1) := dX1_tint_18g.2.2.2.2.2.2.1
theorem dX1_tint_33 : decode cX1_tint 33 = .ok (.invokevirtual 66, 3) := dX1_tint_18g.2.2.2.2.2.2.2.1
theorem dX1_tint_36 : decode cX1_tint 36 = .ok (.istore_n 2, 1) := dX1_tint_18g.2.2.2.2.2.2.2.2.1
theorem dX1_tint_37 : decode cX1_tint 37 = .ok (.aload_n 0, 1) := dX1_tint_18g.2.2.2.2.2.2.2.2.2
theorem dX1_tint_38g : (decode cX1_tint 38 = .ok (.getfield 38, 3)) ∧ (decode cX1_tint 41 = .ok (.getfield 50, 3)) ∧ (decode cX1_tint 44 = .ok (.iload_n 1, 1)) ∧ (decode cX1_tint 45 = .ok (.iconst 1, 1)) ∧ (decode cX1_tint 46 = .ok (.invokevirtual 66, 3)) ∧ (decode cX1_tint 49 = .ok (.istore_n 3, 1)) ∧ (decode cX1_tint 50 = .ok (.iload_n 3, 1)) ∧ (decode cX1_tint 51 = .ok (.ifCond .lt 44, 3)) ∧ (decode cX1_tint 54 = .ok (.iload_n 3, 1)) ∧ (decode cX1_tint 55 = .ok (.bipush 96, 2)) := by decide +kernel
theorem dX1_tint_38 : decode cX1_tint 38 = .ok (.getfield 38, 3) := dX1_tint_38g.1
theorem dX1_tint_41 : decode cX1_tint 41 = .ok (.getfield 50, 3) := dX1_tint_38g.2.1
theorem dX1_tint_44 : decode cX1_tint 44 = .ok (.iload_n 1, 1) := dX1_tint_38g.2.2.1
theorem dX1_tint_45 : decode cX1_tint 45 = .ok (.iconst 1, 1) := dX1_tint_38g.2.2.2.1
theorem dX1_tint_46 : decode cX1_tint 46 = .ok (.invokevirtual 66, 3) := dX1_tint_38g.2.2.2.2.1
theorem dX1_tint_49 : decode cX1_tint 49 = .ok (.istore_n 3, 1) := dX1_tint_38g.2.2.2.2.2.1
theorem dX1_tint_50 : decode cX1_tint 50 = .ok (.iload_n 3, 1) := dX1_tint_38g.2.2.2.2.2.2.1
theorem dX1_tint_51 : decode cX1_tint 51 = .ok (.ifCond .lt 44, 3) := dX1_tint_38g.2.2.2.2.2.2.2.1
theorem dX1_tint_54 : decode cX1_tint 54 = .ok (.iload_n 3, 1) := dX1_tint_38g.2.2.2.2.2.2.2.2.1
theorem dX1_tint_55 : decode cX1_tint 55 = .ok (.bipush 96, 2) := dX1_tint_38g.2.2.2.2.2.2.2.2.2
theorem dX1_tint_57g : (decode cX1_tint 57 = .ok (.if_icmp .ge 38, 3)) ∧ (decode cX1_tint 60 = .ok (.iload_n 2, 1)) ∧ (decode cX1_tint 61 = .ok (.invokestatic 86, 3)) ∧ (decode cX1_tint 64 = .ok (.ifCond .eq 31, 3)) ∧ (decode cX1_tint 67 = .ok (.aload_n 0, 1)) ∧ (decode cX1_tint 68 = .ok (.getfield 15, 3)) ∧ (decode cX1_tint 71 = .ok (.iload_n 3, 1)) ∧ (decode cX1_tint 72 = .ok (.dup2, 1)) ∧ (decode cX1_tint 73 = .ok (.iaload, 1)) ∧ (decode cX1_tint 74 = .ok (.iconst 1, 1)) := by decide +kernel
theorem dX1_tint_57 : decode cX1_tint 57 = .ok (.if_icmp .ge 38, 3) := dX1_tint_57g.1
theorem dX1_tint_60 : decode cX1_tint 60 = .ok (.iload_n 2, 1) := dX1_tint_57g.2.1
theorem dX1_tint_61 : decode cX1_tint 61 = .ok (.invokestatic 86, 3) := dX1_tint_57g.2.2.1
theorem dX1_tint_64 : decode cX1_tint 64 = .ok (.ifCond .eq 31, 3) := dX1_tint_57g.2.2.2.1
theorem dX1_tint_67 : decode cX1_tint 67 = .ok (.aload_n 0, 1) := dX1_tint_57g.2.2.2.2.1
theorem dX1_tint_68 : decode cX1_tint 68 = .ok (.getfield 15, 3) := dX1_tint_57g.2.2.2.2.2.1
theorem dX1_tint_71 : decode cX1_tint 71 = .ok (.iload_n 3, 1) := dX1_tint_57g.2.2.2.2.2.2.1
theorem dX1_tint_72 : decode cX1_tint 72 = .ok (.dup2, 1) := dX1_tint_57g.2.2.2.2.2.2.2.1
theorem dX1_tint_73 : decode cX1_tint 73 = .ok (.iaload, 1) := dX1_tint_57g.2.2.2.2.2.2.2.2.1
theorem dX1_tint_74 : decode cX1_tint 74 = .ok (.iconst 1, 1) := dX1_tint_57g.2.2.2.2.2.2.2.2.2
theorem dX1_tint_75g : (decode cX1_tint 75 = .ok (.iload_n 2, 1)) ∧ (decode cX1_tint 76 = .ok (.ishl, 1)) ∧ (decode cX1_tint 77 = .ok (.ior, 1)) ∧ (decode cX1_tint 78 = .ok (.iastore, 1)) ∧ (decode cX1_tint 79 = .ok (.aload_n 0, 1)) ∧ (decode cX1_tint 80 = .ok (.getfield 42, 3)) ∧ (decode cX1_tint 83 = .ok (.iload_n 2, 1)) ∧ (decode cX1_tint 84 = .ok (.iload_n 3, 1)) ∧ (decode cX1_tint 85 = .ok (.invokevirtual 75, 3)) ∧ (decode cX1_tint 88 = .ok (.istore_n 2, 1)) := by decide +kernel
theorem dX1_tint_75 : decode cX1_tint 75 = .ok (.iload_n 2, 1) := dX1_tint_75g.1
theorem dX1_tint_76 : decode cX1_tint 76 = .ok (.ishl, 1) := dX1_tint_75g.2.1
theorem dX1_tint_77 : decode cX1_tint 77 = .ok (.ior, 1) := dX1_tint_75g.2.2.1
theorem dX1_tint_78 : decode cX1_tint 78 = .ok (.iastore, 1) := dX1_tint_75g.2.2.2.1
theorem dX1_tint_79 : decode cX1_tint 79 = .ok (.aload_n 0, 1) := dX1_tint_75g.2.2.2.2.1
theorem dX1_tint_80 : decode cX1_tint 80 = .ok (.getfield 42, 3) := dX1_tint_75g.2.2.2.2.2.1
theorem dX1_tint_83 : decode cX1_tint 83 = .ok (.iload_n 2, 1) := dX1_tint_75g.2.2.2.2.2.2.1
theorem dX1_tint_84 : decode cX1_tint 84 = .ok (.iload_n 3, 1) := dX1_tint_75g.2.2.2.2.2.2.2.1
theorem dX1_tint_85 : decode cX1_tint 85 = .ok (.invokevirtual 75, 3) := dX1_tint_75g.2.2.2.2.2.2.2.2.1
theorem dX1_tint_88 : decode cX1_tint 88 = .ok (.istore_n 2, 1) := dX1_tint_75g.2.2.2.2.2.2.2.2.2
theorem dX1_tint_89g : (decode cX1_tint 89 = .ok (.iinc 3 1, 3)) ∧ (decode cX1_tint 92 = .ok (.goto (-42), 3)) ∧ (decode cX1_tint 95 = .ok (.iinc 1 1, 3)) ∧ (decode cX1_tint 98 = .ok (.goto (-88), 3)) ∧ (decode cX1_tint 101 = .ok (.return_, 1)) := by decide +kernel
theorem dX1_tint_89 : decode cX1_tint 89 = .ok (.iinc 3 1, 3) := dX1_tint_89g.1
theorem dX1_tint_92 : decode cX1_tint 92 = .ok (.goto (-42), 3) := dX1_tint_89g.2.1
theorem dX1_tint_95 : decode cX1_tint 95 = .ok (.iinc 1 1, 3) := dX1_tint_89g.2.2.1
theorem dX1_tint_98 : decode cX1_tint 98 = .ok (.goto (-88), 3) := dX1_tint_89g.2.2.2.1
theorem dX1_tint_101 : decode cX1_tint 101 = .ok (.return_, 1) := dX1_tint_89g.2.2.2.2
set_option maxHeartbeats 4000000 in
set_option maxRecDepth 100000 in
theorem c_X1_tint (l : Launch) (E : Nat → Nat) (D : va_G) (G : th_G) (h0 : Nat) (hG0 : G h0 = some (11, 0)) : Met l yX1_tint (tb (.code yX1_tint cX1_tint 4 none)) (rm 5) (va_Pc [.ref h0] (th_P E D G)) (QV E D G) 0 0 (th_A G) := by
  refine Met.ofW (cc := cX1_tint) (maxL := 4) (ret := none) (by decide) rfl ?_
  intro p e s m args below meth c s₁ B hml hv
  obtain ⟨hav, hI, hN, hK⟩ := hv
  have hx := B.exec
  have hb := B.bytes
  have hr := B.returns
  have hts := atoms_spec (ws := tb (.code yX1_tint cX1_tint 4 none)) B.pre
  have hown : s.vm.findClass RX1 = some m.cls := findClass_of_methodNamed B.named
  have hlocks := B.notSynchronized
  have hS : va_S (th_A G) s.heap s.heap [] := va_S.rf
  have hl := lv_entry ([.ref h0]) (n := 4) (Nat.le_of_ble_eq_true rfl)
  rw [show entryFrame m args 4 = entryFrame m ([.ref h0] : List Value).toArray 4 from by rw [hav], lg_entry_eq]
  generalize (lg_sl ([.ref h0]) ++ List.replicate (4 - (lg_sl ([.ref h0])).length) Slot.unset).toArray = ls at hl ⊢
  have hl : lv_has ls 4 [(0, .ref h0)] := hl
  generalize hR : (headSpec (tb (.code yX1_tint cX1_tint 4 none)) (rm 5)).room = R
  have hR := hR.symm
  generalize hQ : MQ below (QV E D G) args s 0 0 (th_A G) = QF
  have hQ := hQ.symm
  have J_10 : ∀ (nn : Nat) (H : Heap) (locs : List Loc) (ls : Array Slot) (v6850 : Int32), (Int.toNat (17 - v6850.toInt) = nn) → lv_has ls 4 [(1, .int v6850), (0, .ref h0)] → ((0 : Int) ≤ v6850.toInt ∧ v6850.toInt ≤ 17) → th_I (okC E) D G [] H → va_S (th_A G) s.heap H locs → W p l e R s m args below meth c H locs 0 0 QF (F0 m 10 ls []) := by
    intro nn
    induction nn using Nat.strongRecOn with
    | ind nn ih_10 =>
      intro H locs ls v6850 hm hl k6851 hI hS
      have J_50 : ∀ (nn : Nat) (H : Heap) (locs : List Loc) (ls : Array Slot) (v6852 : Int32) (v6853 : Int32), (Int.toNat (96 - v6852.toInt) = nn) → lv_has ls 4 [(3, .int v6852), (2, .int v6853), (1, .int v6850), (0, .ref h0)] → ((0 : Int) ≤ v6850.toInt ∧ v6850.toInt ≤ 16) → th_I (okC E) D G [] H → va_S (th_A G) s.heap H locs → W p l e R s m args below meth c H locs 0 0 QF (F0 m 50 ls []) := by
        intro nn
        induction nn using Nat.strongRecOn with
        | ind nn ih_50 =>
          intro H locs ls v6852 v6853 hm hl k6855 hI hS
          refine lv_iload_n hx hb dX1_tint_50 rfl (lv_at hl 0 rfl) ?_
          have k6856 := iv_lo v6852
          have k6857 := iv_hi v6852
          refine lv_if_lt (tgt := 95) hx hb dX1_tint_51 (by decide) (fun c6858 => ?_) (fun c6858 => ?_)
          · skip
            have k6859 := iv_lt (X := v6852.toInt) (Y := (0)) rfl (by decide) c6858
            obtain ⟨v6860, e6861⟩ : ∃ y : Int32, y = v6850 + (1) := ⟨_, rfl⟩
            have tv6860 : v6860.toInt = v6850.toInt + (1) := iv_add rfl (by decide) e6861 (by omega) (by omega)
            refine lv_iinc (v := v6860) (lv' := [(1, .int v6860), (3, .int v6852), (2, .int v6853), (0, .ref h0)]) hx hb dX1_tint_95 hl (k := 2) rfl (by rw [e6861]; rfl) (by decide) rfl (fun ls hl => ?_)
            refine lv_goto (tgt := 10) hx hb dX1_tint_98 (by decide) ?_
            exact ih_10 _ (by omega) H locs ls v6860 rfl (lv_sub hl [0, 3] rfl) ⟨by omega, by omega⟩ hI hS
          · skip
            have k6862 := iv_nlt (X := v6852.toInt) (Y := (0)) rfl (by decide) c6858
            refine lv_iload_n hx hb dX1_tint_54 rfl (lv_at hl 0 rfl) ?_
            refine lv_bipush (v := 96) hx hb dX1_tint_55 (by decide) ?_
            refine lv_icmp_ge (tgt := 95) hx hb dX1_tint_57 (by decide) (fun c6863 => ?_) (fun c6863 => ?_)
            · skip
              have k6864 := iv_le (X := (96)) (Y := v6852.toInt) (by decide) rfl c6863
              obtain ⟨v6865, e6866⟩ : ∃ y : Int32, y = v6850 + (1) := ⟨_, rfl⟩
              have tv6865 : v6865.toInt = v6850.toInt + (1) := iv_add rfl (by decide) e6866 (by omega) (by omega)
              refine lv_iinc (v := v6865) (lv' := [(1, .int v6865), (3, .int v6852), (2, .int v6853), (0, .ref h0)]) hx hb dX1_tint_95 hl (k := 2) rfl (by rw [e6866]; rfl) (by decide) rfl (fun ls hl => ?_)
              refine lv_goto (tgt := 10) hx hb dX1_tint_98 (by decide) ?_
              exact ih_10 _ (by omega) H locs ls v6865 rfl (lv_sub hl [0, 3] rfl) ⟨by omega, by omega⟩ hI hS
            · skip
              have k6867 := iv_nle (X := (96)) (Y := v6852.toInt) (by decide) rfl c6863
              refine lv_iload_n hx hb dX1_tint_60 rfl (lv_at hl 1 rfl) ?_
              refine th_cSN (As := [.int v6853]) (rest := []) (n := 1) (d := 0) ⟨hx, hb, hml, hown, hts⟩ (c_X11_isCell l H v6853) wn_946 wd_402 wd_1 wd_403 (by decide +kernel) ⟨by rw [hR]; exact Nat.le_of_ble_eq_true rfl, by rw [hR]; exact Nat.le_of_ble_eq_true rfl⟩ hN hS rfl hl.1 rfl (Nat.le_of_ble_eq_true rfl) dX1_tint_61 ⟨Nat.zero_le _, Nat.zero_le _⟩ (fun r6868 locs hp hS => ?_)
              rcases hp with ⟨rfl, hp⟩ | ⟨rfl, hp⟩
              · skip
                try simp only [rg, not_and, Int.not_le] at hp
                have hp6869 := hp
                refine lv_if_eq (tgt := 95) hx hb dX1_tint_64 (by decide) (fun c => absurd c (by decide)) (fun _ => ?_)
                refine lv_aload_n hx hb dX1_tint_67 rfl (lv_at hl 3 rfl) ?_
                obtain ⟨a6870, a6872, a6874, a6876, a6878, a6880, a6882, a6884, w6886, w6887, w6888, hO, hq6871, hq6873, hq6875, hq6877, hq6879, hq6881, hq6883, hq6885⟩ := op_11 hI hG0 List.not_mem_nil
                have hI := th_I.weak (a := h0) hI
                refine th_get hx hb hts inT1 hown hK hO rfl 4 (by decide) (hts _ (tb_c wd_240)) rfl rfl dX1_tint_68 ?_
                refine lv_iload_n hx hb dX1_tint_71 rfl (lv_at hl 0 rfl) ?_
                refine lv_dup2_11 hx hb dX1_tint_72 rfl rfl ?_
                obtain ⟨_, hA6889⟩ := op_0 hI hq6879 (th_ne hG0 hq6879 (show (11 : Nat) ≠ 0 by decide))
                refine th_iald hx hb hK hA6889 0 rfl (iv_in (X := v6852.toInt) rfl (by omega) (by omega)) dX1_tint_73 (fun v6890 _ => ?_)
                refine lv_iconst (v := 1) hx hb dX1_tint_74 (by decide) ?_
                refine lv_iload_n hx hb dX1_tint_75 rfl (lv_at hl 1 rfl) ?_
                refine lv_ishl hx hb dX1_tint_76 ?_
                refine lv_topi (fun v6891 e6892 => ?_)
                refine lv_ior hx hb dX1_tint_77 ?_
                refine lv_topi (fun v6893 e6894 => ?_)
                obtain ⟨_, hA6895⟩ := op_0 hI hq6879 (th_ne hG0 hq6879 (show (11 : Nat) ≠ 0 by decide))
                refine th_iast hx hb hK hA6895 0 rfl hS ⟨_, hq6879⟩ (iv_in (X := v6852.toInt) rfl (by omega) (by omega)) dX1_tint_78 (fun H locs hA6895 oq hS => ?_)
                have hI := th_I.put hI hq6879 hA6895 ok_0 oq
                have hO := hO.kept (oq _ (fun z => th_ne hG0 hq6879 (show (11 : Nat) ≠ 0 by decide) (List.mem_singleton.mpr z.symm)))
                refine lv_aload_n hx hb dX1_tint_79 rfl (lv_at hl 3 rfl) ?_
                refine th_get hx hb hts inT1 hown hK hO rfl 1 (by decide) (hts _ (tb_c wd_237)) rfl rfl dX1_tint_80 ?_
                refine lv_iload_n hx hb dX1_tint_83 rfl (lv_at hl 1 rfl) ?_
                refine lv_iload_n hx hb dX1_tint_84 rfl (lv_at hl 0 rfl) ?_
                have hI := th_I.close hI hG0 hO (ok_11 hq6871 hq6873 hq6875 hq6877 hq6879 hq6881 hq6883 hq6885)
                refine th_cVi (As := [.int v6853, .int v6852]) (rest := []) (n := 2) (d := 4) ⟨hx, hb, hml, hown, hts⟩ (c_X7_stepFrom l E D G a6872 hq6873 v6853 v6852) wd_936 wd_531 wd_532 wd_6 wd_533 (by decide +kernel) ⟨by rw [hR]; exact Nat.le_of_ble_eq_true rfl, by rw [hR]; exact Nat.le_of_ble_eq_true rfl⟩ hI hN hK hS (rc_9 hI hq6873 List.not_mem_nil) rfl rfl hl.1 rfl (Nat.le_of_ble_eq_true rfl) dX1_tint_85 ⟨Nat.zero_le _, Nat.zero_le _⟩ (fun r6896 H locs hp hI hS => ?_)
                refine lv_istore_n (lv' := [(2, .int r6896), (3, .int v6852), (1, .int v6850), (0, .ref h0)]) hx hb dX1_tint_88 rfl hl (by decide) rfl (fun ls hl => ?_)
                obtain ⟨v6897, e6898⟩ : ∃ y : Int32, y = v6852 + (1) := ⟨_, rfl⟩
                have tv6897 : v6897.toInt = v6852.toInt + (1) := iv_add rfl (by decide) e6898 (by omega) (by omega)
                refine lv_iinc (v := v6897) (lv' := [(3, .int v6897), (2, .int r6896), (1, .int v6850), (0, .ref h0)]) hx hb dX1_tint_89 hl (k := 1) rfl (by rw [e6898]; rfl) (by decide) rfl (fun ls hl => ?_)
                refine lv_goto (tgt := 50) hx hb dX1_tint_92 (by decide) ?_
                exact ih_50 _ (by omega) H locs ls v6897 r6896 rfl (lv_sub hl [0, 1, 2, 3] rfl) ⟨by omega, by omega⟩ hI hS
              · skip
                try simp only [rg, not_and, Int.not_le] at hp
                have hp6899 := hp
                refine lv_if_eq (tgt := 95) hx hb dX1_tint_64 (by decide) (fun _ => ?_) (fun c => absurd c (by decide))
                obtain ⟨v6900, e6901⟩ : ∃ y : Int32, y = v6850 + (1) := ⟨_, rfl⟩
                have tv6900 : v6900.toInt = v6850.toInt + (1) := iv_add rfl (by decide) e6901 (by omega) (by omega)
                refine lv_iinc (v := v6900) (lv' := [(1, .int v6900), (3, .int v6852), (2, .int v6853), (0, .ref h0)]) hx hb dX1_tint_95 hl (k := 2) rfl (by rw [e6901]; rfl) (by decide) rfl (fun ls hl => ?_)
                refine lv_goto (tgt := 10) hx hb dX1_tint_98 (by decide) ?_
                exact ih_10 _ (by omega) H locs ls v6900 rfl (lv_sub hl [0, 3] rfl) ⟨by omega, by omega⟩ hI hS
      refine lv_iload_n hx hb dX1_tint_10 rfl (lv_at hl 0 rfl) ?_
      refine lv_aload_n hx hb dX1_tint_11 rfl (lv_at hl 1 rfl) ?_
      obtain ⟨a6902, a6904, a6906, a6908, a6910, a6912, a6914, a6916, w6918, w6919, w6920, hO, hq6903, hq6905, hq6907, hq6909, hq6911, hq6913, hq6915, hq6917⟩ := op_11 hI hG0 List.not_mem_nil
      have hI := th_I.weak (a := h0) hI
      refine th_get hx hb hts inT1 hown hK hO rfl 0 (by decide) (hts _ (tb_c wd_236)) rfl rfl dX1_tint_12 ?_
      have hI := th_I.close hI hG0 hO (ok_11 hq6903 hq6905 hq6907 hq6909 hq6911 hq6913 hq6915 hq6917)
      obtain ⟨a6921, a6923, a6925, a6927, a6929, a6931, a6933, a6935, a6937, a6939, w6941, w6944, w6945, w6946, hO, hq6922, hq6924, hq6926, hq6928, hq6930, hq6932, hq6934, hq6936, hq6938, hq6940, ⟨k6942, k6943⟩, k6947⟩ := op_6 hI hq6903 List.not_mem_nil
      have hI := th_I.weak (a := a6902) hI
      refine th_getN hx hb hts inT6 hown hK hN hO rfl 5 (by decide) wn_70 rfl rfl dX1_tint_15 ?_
      have hI := th_I.close hI hq6903 hO (ok_6 hq6922 hq6924 hq6926 hq6928 hq6930 hq6932 hq6934 hq6936 hq6938 hq6940 ⟨by omega, by omega⟩ k6947)
      obtain ⟨a6949, w6951, hO, hq6950, ⟨k6952, k6953⟩, k6954⟩ := op_4 hI hq6932 List.not_mem_nil
      have hI := th_I.weak (a := a6931) hI
      have k6955 : (nI (16 % 32)).toInt = ((16 % 32 : Nat) : Int) := nI_toInt (by omega)
      have k6956 := k6954.1
      refine th_cVs (As := []) (rest := [.int v6850]) (n := 0) (d := 0) ⟨hx, hb, hml, hown, hts⟩ (c_X4_size l E D H a6931 (16 % 32) a6949 w6951 hO (by omega) (by omega) (by omega)) wd_920 wd_507 wd_508 wd_3 wd_509 (by decide +kernel) ⟨by rw [hR]; exact Nat.le_of_ble_eq_true rfl, by rw [hR]; exact Nat.le_of_ble_eq_true rfl⟩ hN hK hS ⟨_, hO⟩ rfl rfl hl.1 rfl (Nat.le_of_ble_eq_true rfl) dX1_tint_18 ⟨Nat.zero_le _, Nat.zero_le _⟩ (fun r6948 locs hp hS => ?_)
      have hp := hp.symm
      subst hp
      refine lv_icmp_ge (tgt := 101) hx hb dX1_tint_21 (by decide) (fun c6957 => ?_) (fun c6957 => ?_)
      · skip
        have k6958 := iv_le (X := w6951.toInt) (Y := v6850.toInt) rfl rfl c6957
        have hI := th_I.close hI hq6932 hO (ok_4 hq6950 ⟨by omega, by omega⟩ k6954)
        rw [hQ]
        exact W.vret hx hb hr (fun t ht hW => ⟨⟨(), rfl, trivial, by rw [ht]; exact hI, hN.warm hW, va_K.moved hW.alike hK⟩, hS.F ht⟩) hS.2.2 dX1_tint_101
      · skip
        have k6959 := iv_nle (X := w6951.toInt) (Y := v6850.toInt) rfl rfl c6957
        refine lv_aload_n hx hb dX1_tint_24 rfl (lv_at hl 1 rfl) ?_
        have hI := th_I.close hI hq6932 hO (ok_4 hq6950 ⟨by omega, by omega⟩ k6954)
        obtain ⟨a6960, a6962, a6964, a6966, a6968, a6970, a6972, a6974, w6976, w6977, w6978, hO, hq6961, hq6963, hq6965, hq6967, hq6969, hq6971, hq6973, hq6975⟩ := op_11 hI hG0 List.not_mem_nil
        have hI := th_I.weak (a := h0) hI
        refine th_get hx hb hts inT1 hown hK hO rfl 0 (by decide) (hts _ (tb_c wd_236)) rfl rfl dX1_tint_25 ?_
        have hI := th_I.close hI hG0 hO (ok_11 hq6961 hq6963 hq6965 hq6967 hq6969 hq6971 hq6973 hq6975)
        obtain ⟨a6979, a6981, a6983, a6985, a6987, a6989, a6991, a6993, a6995, a6997, w6999, w7002, w7003, w7004, hO, hq6980, hq6982, hq6984, hq6986, hq6988, hq6990, hq6992, hq6994, hq6996, hq6998, ⟨k7000, k7001⟩, k7005⟩ := op_6 hI hq6961 List.not_mem_nil
        have hI := th_I.weak (a := a6960) hI
        refine th_getN hx hb hts inT6 hown hK hN hO rfl 5 (by decide) wn_70 rfl rfl dX1_tint_28 ?_
        refine lv_iload_n hx hb dX1_tint_31 rfl (lv_at hl 0 rfl) ?_
        refine lv_iconst (v := 0) hx hb dX1_tint_32 (by decide) ?_
        have hI := th_I.close hI hq6961 hO (ok_6 hq6980 hq6982 hq6984 hq6986 hq6988 hq6990 hq6992 hq6994 hq6996 hq6998 ⟨by omega, by omega⟩ k7005)
        refine th_cVi (As := [.int v6850, .int 0]) (rest := []) (n := 2) (d := 0) ⟨hx, hb, hml, hown, hts⟩ (c_X4_at l E D G a6989 (16) hq6990 v6850 0) wd_925 wd_519 wd_520 wd_3 wd_521 (by decide +kernel) ⟨by rw [hR]; exact Nat.le_of_ble_eq_true rfl, by rw [hR]; exact Nat.le_of_ble_eq_true rfl⟩ hI hN hK hS (rc_4 hI hq6990 List.not_mem_nil) rfl rfl hl.1 rfl (Nat.le_of_ble_eq_true rfl) dX1_tint_33 ⟨Nat.zero_le _, Nat.zero_le _⟩ (fun r7006 H locs hp hI hS => ?_)
        refine lv_istore_n (lv' := [(2, .int r7006), (1, .int v6850), (0, .ref h0)]) hx hb dX1_tint_36 rfl hl (by decide) rfl (fun ls hl => ?_)
        refine lv_aload_n hx hb dX1_tint_37 rfl (lv_at hl 2 rfl) ?_
        obtain ⟨a7007, a7009, a7011, a7013, a7015, a7017, a7019, a7021, w7023, w7024, w7025, hO, hq7008, hq7010, hq7012, hq7014, hq7016, hq7018, hq7020, hq7022⟩ := op_11 hI hG0 List.not_mem_nil
        have hI := th_I.weak (a := h0) hI
        refine th_get hx hb hts inT1 hown hK hO rfl 0 (by decide) (hts _ (tb_c wd_236)) rfl rfl dX1_tint_38 ?_
        have hI := th_I.close hI hG0 hO (ok_11 hq7008 hq7010 hq7012 hq7014 hq7016 hq7018 hq7020 hq7022)
        obtain ⟨a7026, a7028, a7030, a7032, a7034, a7036, a7038, a7040, a7042, a7044, w7046, w7049, w7050, w7051, hO, hq7027, hq7029, hq7031, hq7033, hq7035, hq7037, hq7039, hq7041, hq7043, hq7045, ⟨k7047, k7048⟩, k7052⟩ := op_6 hI hq7008 List.not_mem_nil
        have hI := th_I.weak (a := a7007) hI
        refine th_getN hx hb hts inT6 hown hK hN hO rfl 5 (by decide) wn_70 rfl rfl dX1_tint_41 ?_
        refine lv_iload_n hx hb dX1_tint_44 rfl (lv_at hl 1 rfl) ?_
        refine lv_iconst (v := 1) hx hb dX1_tint_45 (by decide) ?_
        have hI := th_I.close hI hq7008 hO (ok_6 hq7027 hq7029 hq7031 hq7033 hq7035 hq7037 hq7039 hq7041 hq7043 hq7045 ⟨by omega, by omega⟩ k7052)
        refine th_cVi (As := [.int v6850, .int 1]) (rest := []) (n := 2) (d := 0) ⟨hx, hb, hml, hown, hts⟩ (c_X4_at l E D G a7036 (16) hq7037 v6850 1) wd_925 wd_519 wd_520 wd_3 wd_521 (by decide +kernel) ⟨by rw [hR]; exact Nat.le_of_ble_eq_true rfl, by rw [hR]; exact Nat.le_of_ble_eq_true rfl⟩ hI hN hK hS (rc_4 hI hq7037 List.not_mem_nil) rfl rfl hl.1 rfl (Nat.le_of_ble_eq_true rfl) dX1_tint_46 ⟨Nat.zero_le _, Nat.zero_le _⟩ (fun r7053 H locs hp hI hS => ?_)
        refine lv_istore_n (lv' := [(3, .int r7053), (2, .int r7006), (1, .int v6850), (0, .ref h0)]) hx hb dX1_tint_49 rfl hl (by decide) rfl (fun ls hl => ?_)
        exact J_50 _ H locs ls r7053 r7006 rfl (lv_sub hl [0, 1, 2, 3] rfl) ⟨by omega, by omega⟩ hI hS
  refine lv_aload_n hx hb dX1_tint_0 rfl (lv_at hl 0 rfl) ?_
  obtain ⟨a7054, a7056, a7058, a7060, a7062, a7064, a7066, a7068, w7070, w7071, w7072, hO, hq7055, hq7057, hq7059, hq7061, hq7063, hq7065, hq7067, hq7069⟩ := op_11 hI hG0 List.not_mem_nil
  have hI := th_I.weak (a := h0) hI
  refine th_get hx hb hts inT1 hown hK hO rfl 4 (by decide) (hts _ (tb_c wd_240)) rfl rfl dX1_tint_1 ?_
  refine lv_iconst (v := 0) hx hb dX1_tint_4 (by decide) ?_
  have hI := th_I.close hI hG0 hO (ok_11 hq7055 hq7057 hq7059 hq7061 hq7063 hq7065 hq7067 hq7069)
  refine th_cSv (As := [.ref a7062, .int 0]) (rest := []) (n := 2) (d := 0) ⟨hx, hb, hml, hown, hts⟩ (c_J7_fill_53178 l E D G a7062 (97) hq7063 (by omega) 0) wd_945 wd_541 wd_15 wd_542 (by decide +kernel) ⟨by rw [hR]; exact Nat.le_of_ble_eq_true rfl, by rw [hR]; exact Nat.le_of_ble_eq_true rfl⟩ hI hN hK hS rfl hl.1 rfl (Nat.le_of_ble_eq_true rfl) dX1_tint_5 ⟨Nat.zero_le _, Nat.zero_le _⟩ (fun H locs hI hS => ?_)
  refine lv_iconst (v := 0) hx hb dX1_tint_8 (by decide) ?_
  refine lv_istore_n (lv' := [(1, .int 0), (0, .ref h0)]) hx hb dX1_tint_9 rfl hl (by decide) rfl (fun ls hl => ?_)
  have zl : (0 : Int32).toInt = 0 := by decide
  exact J_10 _ H locs ls 0 rfl (lv_sub hl [0, 1] rfl) ⟨by decide, by decide⟩ hI hS
theorem dX1_findBegins_0g : (decode cX1_findBegins 0 = .ok (.aload_n 0, 1)) ∧ (decode cX1_findBegins 1 = .ok (.getfield 38, 3)) ∧ (decode cX1_findBegins 4 = .ok (.getfield 93, 3)) ∧ (decode cX1_findBegins 7 = .ok (.iload_n 1, 1)) ∧ (decode cX1_findBegins 8 = .ok (.iconst 0, 1)) ∧ (decode cX1_findBegins 9 = .ok (.invokevirtual 66, 3)) ∧ (decode cX1_findBegins 12 = .ok (.istore_n 2, 1)) ∧ (decode cX1_findBegins 13 = .ok (.aload_n 0, 1)) ∧ (decode cX1_findBegins 14 = .ok (.getfield 38, 3)) ∧ (decode cX1_findBegins 17 = .ok (.getfield 93, 3)) := by decide +kernel
theorem dX1_findBegins_0 : decode cX1_findBegins 0 = .ok (.aload_n 0, 1) := dX1_findBegins_0g.1
theorem dX1_findBegins_1 : decode cX1_findBegins 1 = .ok (.getfield 38, 3) := dX1_findBegins_0g.2.1
theorem dX1_findBegins_4 : decode cX1_findBegins 4 = .ok (.getfield 93, 3) := dX1_findBegins_0g.2.2.1
theorem dX1_findBegins_7 : decode cX1_findBegins 7 = .ok (.iload_n 1, 1) := dX1_findBegins_0g.2.2.2.1
theorem dX1_findBegins_8 : decode cX1_findBegins 8 = .ok (.iconst 0, 1) := dX1_findBegins_0g.2.2.2.2.1
theorem dX1_findBegins_9 : decode cX1_findBegins 9 = .ok (.invokevirtual 66, 3) := dX1_findBegins_0g.2.2.2.2.2.1
theorem dX1_findBegins_12 : decode cX1_findBegins 12 = .ok (.istore_n 2, 1) := dX1_findBegins_0g.2.2.2.2.2.2.1
theorem dX1_findBegins_13 : decode cX1_findBegins 13 = .ok (.aload_n 0, 1) := dX1_findBegins_0g.2.2.2.2.2.2.2.1
theorem dX1_findBegins_14 : decode cX1_findBegins 14 = .ok (.getfield 38, 3) := dX1_findBegins_0g.2.2.2.2.2.2.2.2.1
theorem dX1_findBegins_17 : decode cX1_findBegins 17 = .ok (.getfield 93, 3) := dX1_findBegins_0g.2.2.2.2.2.2.2.2.2
theorem dX1_findBegins_20g : (decode cX1_findBegins 20 = .ok (.iload_n 1, 1)) ∧ (decode cX1_findBegins 21 = .ok (.iconst 1, 1)) ∧ (decode cX1_findBegins 22 = .ok (.invokevirtual 66, 3)) ∧ (decode cX1_findBegins 25 = .ok (.istore_n 3, 1)) ∧ (decode cX1_findBegins 26 = .ok (.iload_n 1, 1)) ∧ (decode cX1_findBegins 27 = .ok (.bipush 97, 2)) ∧ (decode cX1_findBegins 29 = .ok (.imul, 1)) ∧ (decode cX1_findBegins 30 = .ok (.istore 4, 2)) ∧ (decode cX1_findBegins 32 = .ok (.iconst 0, 1)) ∧ (decode cX1_findBegins 33 = .ok (.istore 5, 2)) := by decide +kernel
theorem dX1_findBegins_20 : decode cX1_findBegins 20 = .ok (.iload_n 1, 1) := dX1_findBegins_20g.1
theorem dX1_findBegins_21 : decode cX1_findBegins 21 = .ok (.iconst 1, 1) := dX1_findBegins_20g.2.1
theorem dX1_findBegins_22 : decode cX1_findBegins 22 = .ok (.invokevirtual 66, 3) := dX1_findBegins_20g.2.2.1
theorem dX1_findBegins_25 : decode cX1_findBegins 25 = .ok (.istore_n 3, 1) := dX1_findBegins_20g.2.2.2.1
theorem dX1_findBegins_26 : decode cX1_findBegins 26 = .ok (.iload_n 1, 1) := dX1_findBegins_20g.2.2.2.2.1
theorem dX1_findBegins_27 : decode cX1_findBegins 27 = .ok (.bipush 97, 2) := dX1_findBegins_20g.2.2.2.2.2.1
theorem dX1_findBegins_29 : decode cX1_findBegins 29 = .ok (.imul, 1) := dX1_findBegins_20g.2.2.2.2.2.2.1
theorem dX1_findBegins_30 : decode cX1_findBegins 30 = .ok (.istore 4, 2) := dX1_findBegins_20g.2.2.2.2.2.2.2.1
theorem dX1_findBegins_32 : decode cX1_findBegins 32 = .ok (.iconst 0, 1) := dX1_findBegins_20g.2.2.2.2.2.2.2.2.1
theorem dX1_findBegins_33 : decode cX1_findBegins 33 = .ok (.istore 5, 2) := dX1_findBegins_20g.2.2.2.2.2.2.2.2.2
theorem dX1_findBegins_35g : (decode cX1_findBegins 35 = .ok (.iconst (-1), 1)) ∧ (decode cX1_findBegins 36 = .ok (.istore 6, 2)) ∧ (decode cX1_findBegins 38 = .ok (.aload_n 0, 1)) ∧ (decode cX1_findBegins 39 = .ok (.getfield 18, 3)) ∧ (decode cX1_findBegins 42 = .ok (.iload 4, 2)) ∧ (decode cX1_findBegins 44 = .ok (.bipush 96, 2)) ∧ (decode cX1_findBegins 46 = .ok (.iadd, 1)) ∧ (decode cX1_findBegins 47 = .ok (.iconst (-1), 1)) ∧ (decode cX1_findBegins 48 = .ok (.iastore, 1)) ∧ (decode cX1_findBegins 49 = .ok (.bipush 95, 2)) := by decide +kernel
theorem dX1_findBegins_35 : decode cX1_findBegins 35 = .ok (.iconst (-1), 1) := dX1_findBegins_35g.1
theorem dX1_findBegins_36 : decode cX1_findBegins 36 = .ok (.istore 6, 2) := dX1_findBegins_35g.2.1
theorem dX1_findBegins_38 : decode cX1_findBegins 38 = .ok (.aload_n 0, 1) := dX1_findBegins_35g.2.2.1
theorem dX1_findBegins_39 : decode cX1_findBegins 39 = .ok (.getfield 18, 3) := dX1_findBegins_35g.2.2.2.1
theorem dX1_findBegins_42 : decode cX1_findBegins 42 = .ok (.iload 4, 2) := dX1_findBegins_35g.2.2.2.2.1
theorem dX1_findBegins_44 : decode cX1_findBegins 44 = .ok (.bipush 96, 2) := dX1_findBegins_35g.2.2.2.2.2.1
theorem dX1_findBegins_46 : decode cX1_findBegins 46 = .ok (.iadd, 1) := dX1_findBegins_35g.2.2.2.2.2.2.1
theorem dX1_findBegins_47 : decode cX1_findBegins 47 = .ok (.iconst (-1), 1) := dX1_findBegins_35g.2.2.2.2.2.2.2.1
theorem dX1_findBegins_48 : decode cX1_findBegins 48 = .ok (.iastore, 1) := dX1_findBegins_35g.2.2.2.2.2.2.2.2.1
theorem dX1_findBegins_49 : decode cX1_findBegins 49 = .ok (.bipush 95, 2) := dX1_findBegins_35g.2.2.2.2.2.2.2.2.2
theorem dX1_findBegins_51g : (decode cX1_findBegins 51 = .ok (.istore 7, 2)) ∧ (decode cX1_findBegins 53 = .ok (.iload 7, 2)) ∧ (decode cX1_findBegins 55 = .ok (.ifCond .lt 72, 3)) ∧ (decode cX1_findBegins 58 = .ok (.aload_n 0, 1)) ∧ (decode cX1_findBegins 59 = .ok (.getfield 15, 3)) ∧ (decode cX1_findBegins 62 = .ok (.iload 7, 2)) ∧ (decode cX1_findBegins 64 = .ok (.iaload, 1)) ∧ (decode cX1_findBegins 65 = .ok (.iload_n 2, 1)) ∧ (decode cX1_findBegins 66 = .ok (.ishr, 1)) ∧ (decode cX1_findBegins 67 = .ok (.iconst 1, 1)) := by decide +kernel
theorem dX1_findBegins_51 : decode cX1_findBegins 51 = .ok (.istore 7, 2) := dX1_findBegins_51g.1
theorem dX1_findBegins_53 : decode cX1_findBegins 53 = .ok (.iload 7, 2) := dX1_findBegins_51g.2.1
theorem dX1_findBegins_55 : decode cX1_findBegins 55 = .ok (.ifCond .lt 72, 3) := dX1_findBegins_51g.2.2.1
theorem dX1_findBegins_58 : decode cX1_findBegins 58 = .ok (.aload_n 0, 1) := dX1_findBegins_51g.2.2.2.1
theorem dX1_findBegins_59 : decode cX1_findBegins 59 = .ok (.getfield 15, 3) := dX1_findBegins_51g.2.2.2.2.1
theorem dX1_findBegins_62 : decode cX1_findBegins 62 = .ok (.iload 7, 2) := dX1_findBegins_51g.2.2.2.2.2.1
theorem dX1_findBegins_64 : decode cX1_findBegins 64 = .ok (.iaload, 1) := dX1_findBegins_51g.2.2.2.2.2.2.1
theorem dX1_findBegins_65 : decode cX1_findBegins 65 = .ok (.iload_n 2, 1) := dX1_findBegins_51g.2.2.2.2.2.2.2.1
theorem dX1_findBegins_66 : decode cX1_findBegins 66 = .ok (.ishr, 1) := dX1_findBegins_51g.2.2.2.2.2.2.2.2.1
theorem dX1_findBegins_67 : decode cX1_findBegins 67 = .ok (.iconst 1, 1) := dX1_findBegins_51g.2.2.2.2.2.2.2.2.2
theorem dX1_findBegins_68g : (decode cX1_findBegins 68 = .ok (.iand, 1)) ∧ (decode cX1_findBegins 69 = .ok (.ifCond .ne 10, 3)) ∧ (decode cX1_findBegins 72 = .ok (.iload 5, 2)) ∧ (decode cX1_findBegins 74 = .ok (.iconst 1, 1)) ∧ (decode cX1_findBegins 75 = .ok (.iadd, 1)) ∧ (decode cX1_findBegins 76 = .ok (.goto 4, 3)) ∧ (decode cX1_findBegins 79 = .ok (.iconst 0, 1)) ∧ (decode cX1_findBegins 80 = .ok (.istore 5, 2)) ∧ (decode cX1_findBegins 82 = .ok (.iload 5, 2)) ∧ (decode cX1_findBegins 84 = .ok (.iload_n 3, 1)) := by decide +kernel
theorem dX1_findBegins_68 : decode cX1_findBegins 68 = .ok (.iand, 1) := dX1_findBegins_68g.1
theorem dX1_findBegins_69 : decode cX1_findBegins 69 = .ok (.ifCond .ne 10, 3) := dX1_findBegins_68g.2.1
theorem dX1_findBegins_72 : decode cX1_findBegins 72 = .ok (.iload 5, 2) := dX1_findBegins_68g.2.2.1
theorem dX1_findBegins_74 : decode cX1_findBegins 74 = .ok (.iconst 1, 1) := dX1_findBegins_68g.2.2.2.1
theorem dX1_findBegins_75 : decode cX1_findBegins 75 = .ok (.iadd, 1) := dX1_findBegins_68g.2.2.2.2.1
theorem dX1_findBegins_76 : decode cX1_findBegins 76 = .ok (.goto 4, 3) := dX1_findBegins_68g.2.2.2.2.2.1
theorem dX1_findBegins_79 : decode cX1_findBegins 79 = .ok (.iconst 0, 1) := dX1_findBegins_68g.2.2.2.2.2.2.1
theorem dX1_findBegins_80 : decode cX1_findBegins 80 = .ok (.istore 5, 2) := dX1_findBegins_68g.2.2.2.2.2.2.2.1
theorem dX1_findBegins_82 : decode cX1_findBegins 82 = .ok (.iload 5, 2) := dX1_findBegins_68g.2.2.2.2.2.2.2.2.1
theorem dX1_findBegins_84 : decode cX1_findBegins 84 = .ok (.iload_n 3, 1) := dX1_findBegins_68g.2.2.2.2.2.2.2.2.2
theorem dX1_findBegins_85g : (decode cX1_findBegins 85 = .ok (.if_icmp .lt 24, 3)) ∧ (decode cX1_findBegins 88 = .ok (.iload 7, 2)) ∧ (decode cX1_findBegins 90 = .ok (.aload_n 0, 1)) ∧ (decode cX1_findBegins 91 = .ok (.getfield 38, 3)) ∧ (decode cX1_findBegins 94 = .ok (.getfield 93, 3)) ∧ (decode cX1_findBegins 97 = .ok (.iload_n 1, 1)) ∧ (decode cX1_findBegins 98 = .ok (.iconst 2, 1)) ∧ (decode cX1_findBegins 99 = .ok (.invokevirtual 66, 3)) ∧ (decode cX1_findBegins 102 = .ok (.if_icmp .lt 7, 3)) ∧ (decode cX1_findBegins 105 = .ok (.iload 7, 2)) := by decide +kernel
theorem dX1_findBegins_85 : decode cX1_findBegins 85 = .ok (.if_icmp .lt 24, 3) := dX1_findBegins_85g.1
theorem dX1_findBegins_88 : decode cX1_findBegins 88 = .ok (.iload 7, 2) := dX1_findBegins_85g.2.1
theorem dX1_findBegins_90 : decode cX1_findBegins 90 = .ok (.aload_n 0, 1) := dX1_findBegins_85g.2.2.1
theorem dX1_findBegins_91 : decode cX1_findBegins 91 = .ok (.getfield 38, 3) := dX1_findBegins_85g.2.2.2.1
theorem dX1_findBegins_94 : decode cX1_findBegins 94 = .ok (.getfield 93, 3) := dX1_findBegins_85g.2.2.2.2.1
theorem dX1_findBegins_97 : decode cX1_findBegins 97 = .ok (.iload_n 1, 1) := dX1_findBegins_85g.2.2.2.2.2.1
theorem dX1_findBegins_98 : decode cX1_findBegins 98 = .ok (.iconst 2, 1) := dX1_findBegins_85g.2.2.2.2.2.2.1
theorem dX1_findBegins_99 : decode cX1_findBegins 99 = .ok (.invokevirtual 66, 3) := dX1_findBegins_85g.2.2.2.2.2.2.2.1
theorem dX1_findBegins_102 : decode cX1_findBegins 102 = .ok (.if_icmp .lt 7, 3) := dX1_findBegins_85g.2.2.2.2.2.2.2.2.1
theorem dX1_findBegins_105 : decode cX1_findBegins 105 = .ok (.iload 7, 2) := dX1_findBegins_85g.2.2.2.2.2.2.2.2.2
theorem dX1_findBegins_107g : (decode cX1_findBegins 107 = .ok (.istore 6, 2)) ∧ (decode cX1_findBegins 109 = .ok (.aload_n 0, 1)) ∧ (decode cX1_findBegins 110 = .ok (.getfield 18, 3)) ∧ (decode cX1_findBegins 113 = .ok (.iload 4, 2)) ∧ (decode cX1_findBegins 115 = .ok (.iload 7, 2)) ∧ (decode cX1_findBegins 117 = .ok (.iadd, 1)) ∧ (decode cX1_findBegins 118 = .ok (.iload 6, 2)) ∧ (decode cX1_findBegins 120 = .ok (.iastore, 1)) ∧ (decode cX1_findBegins 121 = .ok (.iinc 7 (-1), 3)) ∧ (decode cX1_findBegins 124 = .ok (.goto (-71), 3)) := by decide +kernel
theorem dX1_findBegins_107 : decode cX1_findBegins 107 = .ok (.istore 6, 2) := dX1_findBegins_107g.1
theorem dX1_findBegins_109 : decode cX1_findBegins 109 = .ok (.aload_n 0, 1) := dX1_findBegins_107g.2.1
theorem dX1_findBegins_110 : decode cX1_findBegins 110 = .ok (.getfield 18, 3) := dX1_findBegins_107g.2.2.1
theorem dX1_findBegins_113 : decode cX1_findBegins 113 = .ok (.iload 4, 2) := dX1_findBegins_107g.2.2.2.1
theorem dX1_findBegins_115 : decode cX1_findBegins 115 = .ok (.iload 7, 2) := dX1_findBegins_107g.2.2.2.2.1
theorem dX1_findBegins_117 : decode cX1_findBegins 117 = .ok (.iadd, 1) := dX1_findBegins_107g.2.2.2.2.2.1
theorem dX1_findBegins_118 : decode cX1_findBegins 118 = .ok (.iload 6, 2) := dX1_findBegins_107g.2.2.2.2.2.2.1
theorem dX1_findBegins_120 : decode cX1_findBegins 120 = .ok (.iastore, 1) := dX1_findBegins_107g.2.2.2.2.2.2.2.1
theorem dX1_findBegins_121 : decode cX1_findBegins 121 = .ok (.iinc 7 (-1), 3) := dX1_findBegins_107g.2.2.2.2.2.2.2.2.1
theorem dX1_findBegins_124 : decode cX1_findBegins 124 = .ok (.goto (-71), 3) := dX1_findBegins_107g.2.2.2.2.2.2.2.2.2
theorem dX1_findBegins_127 : decode cX1_findBegins 127 = .ok (.return_, 1) := by decide +kernel
set_option maxHeartbeats 4000000 in
set_option maxRecDepth 100000 in
theorem c_X1_findBegins (l : Launch) (E : Nat → Nat) (D : va_G) (G : th_G) (h0 : Nat) (hG0 : G h0 = some (11, 0)) (x1 : Int32) (hx1 : (0 : Int) ≤ x1.toInt ∧ x1.toInt ≤ 5) : Met l yX1_findBegins (tb (.code yX1_findBegins cX1_findBegins 8 none)) (rm 1) (va_Pc [.ref h0, .int x1] (th_P E D G)) (QV E D G) 0 0 (th_A G) := by
  refine Met.ofW (cc := cX1_findBegins) (maxL := 8) (ret := none) (by decide) rfl ?_
  intro p e s m args below meth c s₁ B hml hv
  obtain ⟨hav, hI, hN, hK⟩ := hv
  have hx := B.exec
  have hb := B.bytes
  have hr := B.returns
  have hts := atoms_spec (ws := tb (.code yX1_findBegins cX1_findBegins 8 none)) B.pre
  have hown : s.vm.findClass RX1 = some m.cls := findClass_of_methodNamed B.named
  have hlocks := B.notSynchronized
  have hS : va_S (th_A G) s.heap s.heap [] := va_S.rf
  have hl := lv_entry ([.ref h0, .int x1]) (n := 8) (Nat.le_of_ble_eq_true rfl)
  rw [show entryFrame m args 8 = entryFrame m ([.ref h0, .int x1] : List Value).toArray 8 from by rw [hav], lg_entry_eq]
  generalize (lg_sl ([.ref h0, .int x1]) ++ List.replicate (8 - (lg_sl ([.ref h0, .int x1])).length) Slot.unset).toArray = ls at hl ⊢
  have hl : lv_has ls 8 [(0, .ref h0), (1, .int x1)] := hl
  generalize hR : (headSpec (tb (.code yX1_findBegins cX1_findBegins 8 none)) (rm 1)).room = R
  have hR := hR.symm
  generalize hQ : MQ below (QV E D G) args s 0 0 (th_A G) = QF
  have hQ := hQ.symm
  have J_53 : ∀ (nn : Nat) (H : Heap) (locs : List Loc) (ls : Array Slot) (v21577 : Int32) (v21578 : Int32) (v21579 : Int32) (v21580 : Int32) (v21581 : Int32) (v21582 : Int32), (Int.toNat (v21577.toInt - (-1)) = nn) → lv_has ls 8 [(7, .int v21577), (6, .int v21578), (5, .int v21579), (4, .int v21580), (3, .int v21581), (2, .int v21582), (0, .ref h0), (1, .int x1)] → ((-1 : Int) ≤ v21577.toInt ∧ v21577.toInt ≤ 95) → ((-1 : Int) ≤ v21578.toInt ∧ v21578.toInt ≤ 95) → ((0 : Int) ≤ v21580.toInt ∧ v21580.toInt ≤ 485) → ((0 : Int) ≤ x1.toInt ∧ x1.toInt ≤ 5) → th_I (okC E) D G [] H → va_S (th_A G) s.heap H locs → W p l e R s m args below meth c H locs 0 0 QF (F0 m 53 ls []) := by
    intro nn
    induction nn using Nat.strongRecOn with
    | ind nn ih_53 =>
      intro H locs ls v21577 v21578 v21579 v21580 v21581 v21582 hm hl k21583 k21584 k21585 k21586 hI hS
      have J_109 : ∀ (H : Heap) (locs : List Loc) (ls : Array Slot) (v21587 : Int32) (v21589 : Int32), lv_has ls 8 [(5, .int v21587), (7, .int v21577), (6, .int v21589), (4, .int v21580), (3, .int v21581), (2, .int v21582), (0, .ref h0), (1, .int x1)] → ((0 : Int) ≤ v21577.toInt ∧ v21577.toInt ≤ 95) → ((-1 : Int) ≤ v21589.toInt ∧ v21589.toInt ≤ 95) → th_I (okC E) D G [] H → va_S (th_A G) s.heap H locs → W p l e R s m args below meth c H locs 0 0 QF (F0 m 109 ls []) := by
        intro H locs ls v21587 v21589 hl k21593 k21594 hI hS
        refine lv_aload_n hx hb dX1_findBegins_109 rfl (lv_at hl 6 rfl) ?_
        obtain ⟨a21595, a21597, a21599, a21601, a21603, a21605, a21607, a21609, w21611, w21612, w21613, hO, hq21596, hq21598, hq21600, hq21602, hq21604, hq21606, hq21608, hq21610⟩ := op_11 hI hG0 List.not_mem_nil
        have hI := th_I.weak (a := h0) hI
        refine th_get hx hb hts inT1 hown hK hO rfl 5 (by decide) (hts _ (tb_c wd_241)) rfl rfl dX1_findBegins_110 ?_
        refine lv_iload hx hb dX1_findBegins_113 (lv_at hl 3 rfl) ?_
        refine lv_iload hx hb dX1_findBegins_115 (lv_at hl 1 rfl) ?_
        refine lv_iadd hx hb dX1_findBegins_117 ?_
        refine lv_topi (fun v21614 e21615 => ?_)
        have tv21614 : v21614.toInt = v21580.toInt + v21577.toInt := iv_add rfl rfl e21615 (by omega) (by omega)
        refine lv_iload hx hb dX1_findBegins_118 (lv_at hl 2 rfl) ?_
        obtain ⟨_, hA21616⟩ := op_0 hI hq21606 (th_ne hG0 hq21606 (show (11 : Nat) ≠ 0 by decide))
        refine th_iast hx hb hK hA21616 0 rfl hS ⟨_, hq21606⟩ (iv_in (X := v21614.toInt) rfl (by omega) (by omega)) dX1_findBegins_120 (fun H locs hA21616 oq hS => ?_)
        have hI := th_I.put hI hq21606 hA21616 ok_0 oq
        have hO := hO.kept (oq _ (fun z => th_ne hG0 hq21606 (show (11 : Nat) ≠ 0 by decide) (List.mem_singleton.mpr z.symm)))
        obtain ⟨v21617, e21618⟩ : ∃ y : Int32, y = v21577 + (-1) := ⟨_, rfl⟩
        have tv21617 : v21617.toInt = v21577.toInt + (-1) := iv_add rfl (by decide) e21618 (by omega) (by omega)
        refine lv_iinc (v := v21617) (lv' := [(7, .int v21617), (5, .int v21587), (6, .int v21589), (4, .int v21580), (3, .int v21581), (2, .int v21582), (0, .ref h0), (1, .int x1)]) hx hb dX1_findBegins_121 hl (k := 1) rfl (by rw [e21618]; rfl) (by decide) rfl (fun ls hl => ?_)
        refine lv_goto (tgt := 53) hx hb dX1_findBegins_124 (by decide) ?_
        have hI := th_I.close hI hG0 hO (ok_11 hq21596 hq21598 hq21600 hq21602 hq21604 hq21606 hq21608 hq21610)
        exact ih_53 _ (by omega) H locs ls v21617 v21589 v21587 v21580 v21581 v21582 rfl (lv_sub hl [0, 2, 1, 3, 4, 5, 6, 7] rfl) ⟨by omega, by omega⟩ ⟨by omega, by omega⟩ ⟨by omega, by omega⟩ ⟨by omega, by omega⟩ hI hS
      have J_80 : ∀ (H : Heap) (locs : List Loc) (ls : Array Slot) (v21625 : Int32), lv_has ls 8 [(7, .int v21577), (6, .int v21578), (5, .int v21579), (4, .int v21580), (3, .int v21581), (2, .int v21582), (0, .ref h0), (1, .int x1)] → ((0 : Int) ≤ v21577.toInt ∧ v21577.toInt ≤ 95) → th_I (okC E) D G [] H → va_S (th_A G) s.heap H locs → W p l e R s m args below meth c H locs 0 0 QF (F0 m 80 ls [.int v21625]) := by
        intro H locs ls v21625 hl k21626 hI hS
        refine lv_istore (lv' := [(5, .int v21625), (7, .int v21577), (6, .int v21578), (4, .int v21580), (3, .int v21581), (2, .int v21582), (0, .ref h0), (1, .int x1)]) hx hb dX1_findBegins_80 hl (by decide) rfl (fun ls hl => ?_)
        refine lv_iload hx hb dX1_findBegins_82 (lv_at hl 0 rfl) ?_
        refine lv_iload_n hx hb dX1_findBegins_84 rfl (lv_at hl 4 rfl) ?_
        have k21627 := iv_lo v21625
        have k21628 := iv_hi v21625
        have k21629 := iv_lo v21581
        have k21630 := iv_hi v21581
        refine lv_icmp_lt (tgt := 109) hx hb dX1_findBegins_85 (by decide) (fun c21631 => ?_) (fun c21631 => ?_)
        · skip
          have k21632 := iv_lt (X := v21625.toInt) (Y := v21581.toInt) rfl rfl c21631
          exact J_109 H locs ls v21625 v21578 (lv_sub hl [0, 1, 2, 3, 4, 5, 6, 7] rfl) ⟨by omega, by omega⟩ ⟨by omega, by omega⟩ hI hS
        · skip
          have k21633 := iv_nlt (X := v21625.toInt) (Y := v21581.toInt) rfl rfl c21631
          refine lv_iload hx hb dX1_findBegins_88 (lv_at hl 1 rfl) ?_
          refine lv_aload_n hx hb dX1_findBegins_90 rfl (lv_at hl 6 rfl) ?_
          obtain ⟨a21634, a21636, a21638, a21640, a21642, a21644, a21646, a21648, w21650, w21651, w21652, hO, hq21635, hq21637, hq21639, hq21641, hq21643, hq21645, hq21647, hq21649⟩ := op_11 hI hG0 List.not_mem_nil
          have hI := th_I.weak (a := h0) hI
          refine th_get hx hb hts inT1 hown hK hO rfl 0 (by decide) (hts _ (tb_c wd_236)) rfl rfl dX1_findBegins_91 ?_
          have hI := th_I.close hI hG0 hO (ok_11 hq21635 hq21637 hq21639 hq21641 hq21643 hq21645 hq21647 hq21649)
          obtain ⟨a21653, a21655, a21657, a21659, a21661, a21663, a21665, a21667, a21669, a21671, w21673, w21676, w21677, w21678, hO, hq21654, hq21656, hq21658, hq21660, hq21662, hq21664, hq21666, hq21668, hq21670, hq21672, ⟨k21674, k21675⟩, k21679⟩ := op_6 hI hq21635 List.not_mem_nil
          have hI := th_I.weak (a := a21634) hI
          refine th_getN hx hb hts inT6 hown hK hN hO rfl 7 (by decide) wn_76 rfl rfl dX1_findBegins_94 ?_
          refine lv_iload_n hx hb dX1_findBegins_97 rfl (lv_at hl 7 rfl) ?_
          refine lv_iconst (v := 2) hx hb dX1_findBegins_98 (by decide) ?_
          have hI := th_I.close hI hq21635 hO (ok_6 hq21654 hq21656 hq21658 hq21660 hq21662 hq21664 hq21666 hq21668 hq21670 hq21672 ⟨by omega, by omega⟩ k21679)
          refine th_cVi (As := [.int x1, .int 2]) (rest := [.int v21577]) (n := 2) (d := 0) ⟨hx, hb, hml, hown, hts⟩ (c_X4_at l E D G a21667 (6) hq21668 x1 2) wd_925 wd_519 wd_520 wd_3 wd_521 (by decide +kernel) ⟨by rw [hR]; exact Nat.le_of_ble_eq_true rfl, by rw [hR]; exact Nat.le_of_ble_eq_true rfl⟩ hI hN hK hS (rc_4 hI hq21668 List.not_mem_nil) rfl rfl hl.1 rfl (Nat.le_of_ble_eq_true rfl) dX1_findBegins_99 ⟨Nat.zero_le _, Nat.zero_le _⟩ (fun r21680 H locs hp hI hS => ?_)
          have k21681 := iv_lo r21680
          have k21682 := iv_hi r21680
          refine lv_icmp_lt (tgt := 109) hx hb dX1_findBegins_102 (by decide) (fun c21683 => ?_) (fun c21683 => ?_)
          · skip
            have k21684 := iv_lt (X := v21577.toInt) (Y := r21680.toInt) rfl rfl c21683
            exact J_109 H locs ls v21625 v21578 (lv_sub hl [0, 1, 2, 3, 4, 5, 6, 7] rfl) ⟨by omega, by omega⟩ ⟨by omega, by omega⟩ hI hS
          · skip
            have k21685 := iv_nlt (X := v21577.toInt) (Y := r21680.toInt) rfl rfl c21683
            refine lv_iload hx hb dX1_findBegins_105 (lv_at hl 1 rfl) ?_
            refine lv_istore (lv' := [(6, .int v21577), (5, .int v21625), (7, .int v21577), (4, .int v21580), (3, .int v21581), (2, .int v21582), (0, .ref h0), (1, .int x1)]) hx hb dX1_findBegins_107 hl (by decide) rfl (fun ls hl => ?_)
            exact J_109 H locs ls v21625 v21577 (lv_sub hl [1, 2, 0, 3, 4, 5, 6, 7] rfl) ⟨by omega, by omega⟩ ⟨by omega, by omega⟩ hI hS
      refine lv_iload hx hb dX1_findBegins_53 (lv_at hl 0 rfl) ?_
      refine lv_if_lt (tgt := 127) hx hb dX1_findBegins_55 (by decide) (fun c21686 => ?_) (fun c21686 => ?_)
      · skip
        have k21687 := iv_lt (X := v21577.toInt) (Y := (0)) rfl (by decide) c21686
        rw [hQ]
        exact W.vret hx hb hr (fun t ht hW => ⟨⟨(), rfl, trivial, by rw [ht]; exact hI, hN.warm hW, va_K.moved hW.alike hK⟩, hS.F ht⟩) hS.2.2 dX1_findBegins_127
      · skip
        have k21688 := iv_nlt (X := v21577.toInt) (Y := (0)) rfl (by decide) c21686
        refine lv_aload_n hx hb dX1_findBegins_58 rfl (lv_at hl 6 rfl) ?_
        obtain ⟨a21689, a21691, a21693, a21695, a21697, a21699, a21701, a21703, w21705, w21706, w21707, hO, hq21690, hq21692, hq21694, hq21696, hq21698, hq21700, hq21702, hq21704⟩ := op_11 hI hG0 List.not_mem_nil
        have hI := th_I.weak (a := h0) hI
        refine th_get hx hb hts inT1 hown hK hO rfl 4 (by decide) (hts _ (tb_c wd_240)) rfl rfl dX1_findBegins_59 ?_
        refine lv_iload hx hb dX1_findBegins_62 (lv_at hl 0 rfl) ?_
        obtain ⟨_, hA21708⟩ := op_0 hI hq21698 (th_ne hG0 hq21698 (show (11 : Nat) ≠ 0 by decide))
        refine th_iald hx hb hK hA21708 0 rfl (iv_in (X := v21577.toInt) rfl (by omega) (by omega)) dX1_findBegins_64 (fun v21709 _ => ?_)
        refine lv_iload_n hx hb dX1_findBegins_65 rfl (lv_at hl 5 rfl) ?_
        refine lv_ishr hx hb dX1_findBegins_66 ?_
        refine lv_topi (fun v21710 e21711 => ?_)
        refine lv_iconst (v := 1) hx hb dX1_findBegins_67 (by decide) ?_
        refine lv_iand hx hb dX1_findBegins_68 ?_
        refine lv_topi (fun v21712 e21713 => ?_)
        have tv21712 := iv_andr (m := 1) (M := 1) e21713 (by decide) (by decide)
        refine lv_if_ne (tgt := 79) hx hb dX1_findBegins_69 (by decide) (fun c21714 => ?_) (fun c21714 => ?_)
        · skip
          have k21715 := iv_ne (X := v21712.toInt) (Y := (0)) rfl (by decide) c21714
          refine lv_iconst (v := 0) hx hb dX1_findBegins_79 (by decide) ?_
          have hI := th_I.close hI hG0 hO (ok_11 hq21690 hq21692 hq21694 hq21696 hq21698 hq21700 hq21702 hq21704)
          exact J_80 H locs ls 0 (lv_sub hl [0, 1, 2, 3, 4, 5, 6, 7] rfl) ⟨by omega, by omega⟩ hI hS
        · skip
          have k21716 := iv_eq (X := v21712.toInt) (Y := (0)) rfl (by decide) c21714
          refine lv_iload hx hb dX1_findBegins_72 (lv_at hl 2 rfl) ?_
          refine lv_iconst (v := 1) hx hb dX1_findBegins_74 (by decide) ?_
          refine lv_iadd hx hb dX1_findBegins_75 ?_
          refine lv_topi (fun v21717 e21718 => ?_)
          try have tv21717 : v21717.toInt = v21579.toInt + (1) := iv_add rfl (by decide) e21718 (by omega) (by omega)
          refine lv_goto (tgt := 80) hx hb dX1_findBegins_76 (by decide) ?_
          have hI := th_I.close hI hG0 hO (ok_11 hq21690 hq21692 hq21694 hq21696 hq21698 hq21700 hq21702 hq21704)
          exact J_80 H locs ls v21717 (lv_sub hl [0, 1, 2, 3, 4, 5, 6, 7] rfl) ⟨by omega, by omega⟩ hI hS
  refine lv_aload_n hx hb dX1_findBegins_0 rfl (lv_at hl 0 rfl) ?_
  obtain ⟨a21719, a21721, a21723, a21725, a21727, a21729, a21731, a21733, w21735, w21736, w21737, hO, hq21720, hq21722, hq21724, hq21726, hq21728, hq21730, hq21732, hq21734⟩ := op_11 hI hG0 List.not_mem_nil
  have hI := th_I.weak (a := h0) hI
  refine th_get hx hb hts inT1 hown hK hO rfl 0 (by decide) (hts _ (tb_c wd_236)) rfl rfl dX1_findBegins_1 ?_
  have hI := th_I.close hI hG0 hO (ok_11 hq21720 hq21722 hq21724 hq21726 hq21728 hq21730 hq21732 hq21734)
  obtain ⟨a21738, a21740, a21742, a21744, a21746, a21748, a21750, a21752, a21754, a21756, w21758, w21761, w21762, w21763, hO, hq21739, hq21741, hq21743, hq21745, hq21747, hq21749, hq21751, hq21753, hq21755, hq21757, ⟨k21759, k21760⟩, k21764⟩ := op_6 hI hq21720 List.not_mem_nil
  have hI := th_I.weak (a := a21719) hI
  refine th_getN hx hb hts inT6 hown hK hN hO rfl 7 (by decide) wn_76 rfl rfl dX1_findBegins_4 ?_
  refine lv_iload_n hx hb dX1_findBegins_7 rfl (lv_at hl 1 rfl) ?_
  refine lv_iconst (v := 0) hx hb dX1_findBegins_8 (by decide) ?_
  have hI := th_I.close hI hq21720 hO (ok_6 hq21739 hq21741 hq21743 hq21745 hq21747 hq21749 hq21751 hq21753 hq21755 hq21757 ⟨by omega, by omega⟩ k21764)
  refine th_cVi (As := [.int x1, .int 0]) (rest := []) (n := 2) (d := 0) ⟨hx, hb, hml, hown, hts⟩ (c_X4_at l E D G a21752 (6) hq21753 x1 0) wd_925 wd_519 wd_520 wd_3 wd_521 (by decide +kernel) ⟨by rw [hR]; exact Nat.le_of_ble_eq_true rfl, by rw [hR]; exact Nat.le_of_ble_eq_true rfl⟩ hI hN hK hS (rc_4 hI hq21753 List.not_mem_nil) rfl rfl hl.1 rfl (Nat.le_of_ble_eq_true rfl) dX1_findBegins_9 ⟨Nat.zero_le _, Nat.zero_le _⟩ (fun r21765 H locs hp hI hS => ?_)
  refine lv_istore_n (lv' := [(2, .int r21765), (0, .ref h0), (1, .int x1)]) hx hb dX1_findBegins_12 rfl hl (by decide) rfl (fun ls hl => ?_)
  refine lv_aload_n hx hb dX1_findBegins_13 rfl (lv_at hl 1 rfl) ?_
  obtain ⟨a21766, a21768, a21770, a21772, a21774, a21776, a21778, a21780, w21782, w21783, w21784, hO, hq21767, hq21769, hq21771, hq21773, hq21775, hq21777, hq21779, hq21781⟩ := op_11 hI hG0 List.not_mem_nil
  have hI := th_I.weak (a := h0) hI
  refine th_get hx hb hts inT1 hown hK hO rfl 0 (by decide) (hts _ (tb_c wd_236)) rfl rfl dX1_findBegins_14 ?_
  have hI := th_I.close hI hG0 hO (ok_11 hq21767 hq21769 hq21771 hq21773 hq21775 hq21777 hq21779 hq21781)
  obtain ⟨a21785, a21787, a21789, a21791, a21793, a21795, a21797, a21799, a21801, a21803, w21805, w21808, w21809, w21810, hO, hq21786, hq21788, hq21790, hq21792, hq21794, hq21796, hq21798, hq21800, hq21802, hq21804, ⟨k21806, k21807⟩, k21811⟩ := op_6 hI hq21767 List.not_mem_nil
  have hI := th_I.weak (a := a21766) hI
  refine th_getN hx hb hts inT6 hown hK hN hO rfl 7 (by decide) wn_76 rfl rfl dX1_findBegins_17 ?_
  refine lv_iload_n hx hb dX1_findBegins_20 rfl (lv_at hl 2 rfl) ?_
  refine lv_iconst (v := 1) hx hb dX1_findBegins_21 (by decide) ?_
  have hI := th_I.close hI hq21767 hO (ok_6 hq21786 hq21788 hq21790 hq21792 hq21794 hq21796 hq21798 hq21800 hq21802 hq21804 ⟨by omega, by omega⟩ k21811)
  refine th_cVi (As := [.int x1, .int 1]) (rest := []) (n := 2) (d := 0) ⟨hx, hb, hml, hown, hts⟩ (c_X4_at l E D G a21799 (6) hq21800 x1 1) wd_925 wd_519 wd_520 wd_3 wd_521 (by decide +kernel) ⟨by rw [hR]; exact Nat.le_of_ble_eq_true rfl, by rw [hR]; exact Nat.le_of_ble_eq_true rfl⟩ hI hN hK hS (rc_4 hI hq21800 List.not_mem_nil) rfl rfl hl.1 rfl (Nat.le_of_ble_eq_true rfl) dX1_findBegins_22 ⟨Nat.zero_le _, Nat.zero_le _⟩ (fun r21812 H locs hp hI hS => ?_)
  refine lv_istore_n (lv' := [(3, .int r21812), (2, .int r21765), (0, .ref h0), (1, .int x1)]) hx hb dX1_findBegins_25 rfl hl (by decide) rfl (fun ls hl => ?_)
  refine lv_iload_n hx hb dX1_findBegins_26 rfl (lv_at hl 3 rfl) ?_
  refine lv_bipush (v := 97) hx hb dX1_findBegins_27 (by decide) ?_
  refine lv_imul hx hb dX1_findBegins_29 ?_
  refine lv_topi (fun v21813 e21814 => ?_)
  have tv21813 : v21813.toInt = x1.toInt * (97) := iv_mul rfl (by decide) e21814 (by omega) (by omega)
  refine lv_istore (lv' := [(4, .int v21813), (3, .int r21812), (2, .int r21765), (0, .ref h0), (1, .int x1)]) hx hb dX1_findBegins_30 hl (by decide) rfl (fun ls hl => ?_)
  refine lv_iconst (v := 0) hx hb dX1_findBegins_32 (by decide) ?_
  refine lv_istore (lv' := [(5, .int 0), (4, .int v21813), (3, .int r21812), (2, .int r21765), (0, .ref h0), (1, .int x1)]) hx hb dX1_findBegins_33 hl (by decide) rfl (fun ls hl => ?_)
  refine lv_iconst (v := (-1)) hx hb dX1_findBegins_35 (by decide) ?_
  refine lv_istore (lv' := [(6, .int (-1)), (5, .int 0), (4, .int v21813), (3, .int r21812), (2, .int r21765), (0, .ref h0), (1, .int x1)]) hx hb dX1_findBegins_36 hl (by decide) rfl (fun ls hl => ?_)
  refine lv_aload_n hx hb dX1_findBegins_38 rfl (lv_at hl 5 rfl) ?_
  obtain ⟨a21815, a21817, a21819, a21821, a21823, a21825, a21827, a21829, w21831, w21832, w21833, hO, hq21816, hq21818, hq21820, hq21822, hq21824, hq21826, hq21828, hq21830⟩ := op_11 hI hG0 List.not_mem_nil
  have hI := th_I.weak (a := h0) hI
  refine th_get hx hb hts inT1 hown hK hO rfl 5 (by decide) (hts _ (tb_c wd_241)) rfl rfl dX1_findBegins_39 ?_
  refine lv_iload hx hb dX1_findBegins_42 (lv_at hl 2 rfl) ?_
  refine lv_bipush (v := 96) hx hb dX1_findBegins_44 (by decide) ?_
  refine lv_iadd hx hb dX1_findBegins_46 ?_
  refine lv_topi (fun v21834 e21835 => ?_)
  have tv21834 : v21834.toInt = v21813.toInt + (96) := iv_add rfl (by decide) e21835 (by omega) (by omega)
  refine lv_iconst (v := (-1)) hx hb dX1_findBegins_47 (by decide) ?_
  obtain ⟨_, hA21836⟩ := op_0 hI hq21826 (th_ne hG0 hq21826 (show (11 : Nat) ≠ 0 by decide))
  refine th_iast hx hb hK hA21836 0 rfl hS ⟨_, hq21826⟩ (iv_in (X := v21834.toInt) rfl (by omega) (by omega)) dX1_findBegins_48 (fun H locs hA21836 oq hS => ?_)
  have hI := th_I.put hI hq21826 hA21836 ok_0 oq
  have hO := hO.kept (oq _ (fun z => th_ne hG0 hq21826 (show (11 : Nat) ≠ 0 by decide) (List.mem_singleton.mpr z.symm)))
  refine lv_bipush (v := 95) hx hb dX1_findBegins_49 (by decide) ?_
  refine lv_istore (lv' := [(7, .int 95), (6, .int (-1)), (5, .int 0), (4, .int v21813), (3, .int r21812), (2, .int r21765), (0, .ref h0), (1, .int x1)]) hx hb dX1_findBegins_51 hl (by decide) rfl (fun ls hl => ?_)
  have hI := th_I.close hI hG0 hO (ok_11 hq21816 hq21818 hq21820 hq21822 hq21824 hq21826 hq21828 hq21830)
  have zl : (95 : Int32).toInt = 95 := by decide
  exact J_53 _ H locs ls 95 (-1) 0 v21813 r21812 r21765 rfl (lv_sub hl [0, 1, 2, 3, 4, 5, 6, 7] rfl) ⟨by decide, by decide⟩ ⟨by decide, by decide⟩ ⟨by omega, by omega⟩ ⟨by omega, by omega⟩ hI hS
theorem dX1_finish_0g : (decode cX1_finish 0 = .ok (.aload_n 0, 1)) ∧ (decode cX1_finish 1 = .ok (.getfield 27, 3)) ∧ (decode cX1_finish 4 = .ok (.iconst (-1), 1)) ∧ (decode cX1_finish 5 = .ok (.if_icmp .eq 11, 3)) ∧ (decode cX1_finish 8 = .ok (.iload_n 1, 1)) ∧ (decode cX1_finish 9 = .ok (.aload_n 0, 1)) ∧ (decode cX1_finish 10 = .ok (.getfield 27, 3)) ∧ (decode cX1_finish 13 = .ok (.if_icmp .ge 31, 3)) ∧ (decode cX1_finish 16 = .ok (.aload_n 0, 1)) ∧ (decode cX1_finish 17 = .ok (.iload_n 1, 1)) := by decide +kernel
theorem dX1_finish_0 : decode cX1_finish 0 = .ok (.aload_n 0, 1) := dX1_finish_0g.1
theorem dX1_finish_1 : decode cX1_finish 1 = .ok (.getfield 27, 3) := dX1_finish_0g.2.1
theorem dX1_finish_4 : decode cX1_finish 4 = .ok (.iconst (-1), 1) := dX1_finish_0g.2.2.1
theorem dX1_finish_5 : decode cX1_finish 5 = .ok (.if_icmp .eq 11, 3) := dX1_finish_0g.2.2.2.1
theorem dX1_finish_8 : decode cX1_finish 8 = .ok (.iload_n 1, 1) := dX1_finish_0g.2.2.2.2.1
theorem dX1_finish_9 : decode cX1_finish 9 = .ok (.aload_n 0, 1) := dX1_finish_0g.2.2.2.2.2.1
theorem dX1_finish_10 : decode cX1_finish 10 = .ok (.getfield 27, 3) := dX1_finish_0g.2.2.2.2.2.2.1
theorem dX1_finish_13 : decode cX1_finish 13 = .ok (.if_icmp .ge 31, 3) := dX1_finish_0g.2.2.2.2.2.2.2.1
theorem dX1_finish_16 : decode cX1_finish 16 = .ok (.aload_n 0, 1) := dX1_finish_0g.2.2.2.2.2.2.2.2.1
theorem dX1_finish_17 : decode cX1_finish 17 = .ok (.iload_n 1, 1) := dX1_finish_0g.2.2.2.2.2.2.2.2.2
theorem dX1_finish_18g : (decode cX1_finish 18 = .ok (.putfield 27, 3)) ∧ (decode cX1_finish 21 = .ok (.aload_n 0, 1)) ∧ (decode cX1_finish 22 = .ok (.iconst 0, 1)) ∧ (decode cX1_finish 23 = .ok (.putfield 31, 3)) ∧ (decode cX1_finish 26 = .ok (.aload_n 0, 1)) ∧ (decode cX1_finish 27 = .ok (.getfield 21, 3)) ∧ (decode cX1_finish 30 = .ok (.iconst 0, 1)) ∧ (decode cX1_finish 31 = .ok (.aload_n 0, 1)) ∧ (decode cX1_finish 32 = .ok (.getfield 24, 3)) ∧ (decode cX1_finish 35 = .ok (.iconst 0, 1)) := by decide +kernel
theorem dX1_finish_18 : decode cX1_finish 18 = .ok (.putfield 27, 3) := dX1_finish_18g.1
theorem dX1_finish_21 : decode cX1_finish 21 = .ok (.aload_n 0, 1) := dX1_finish_18g.2.1
theorem dX1_finish_22 : decode cX1_finish 22 = .ok (.iconst 0, 1) := dX1_finish_18g.2.2.1
theorem dX1_finish_23 : decode cX1_finish 23 = .ok (.putfield 31, 3) := dX1_finish_18g.2.2.2.1
theorem dX1_finish_26 : decode cX1_finish 26 = .ok (.aload_n 0, 1) := dX1_finish_18g.2.2.2.2.1
theorem dX1_finish_27 : decode cX1_finish 27 = .ok (.getfield 21, 3) := dX1_finish_18g.2.2.2.2.2.1
theorem dX1_finish_30 : decode cX1_finish 30 = .ok (.iconst 0, 1) := dX1_finish_18g.2.2.2.2.2.2.1
theorem dX1_finish_31 : decode cX1_finish 31 = .ok (.aload_n 0, 1) := dX1_finish_18g.2.2.2.2.2.2.2.1
theorem dX1_finish_32 : decode cX1_finish 32 = .ok (.getfield 24, 3) := dX1_finish_18g.2.2.2.2.2.2.2.2.1
theorem dX1_finish_35 : decode cX1_finish 35 = .ok (.iconst 0, 1) := dX1_finish_18g.2.2.2.2.2.2.2.2.2
theorem dX1_finish_36g : (decode cX1_finish 36 = .ok (.aload_n 0, 1)) ∧ (decode cX1_finish 37 = .ok (.getfield 21, 3)) ∧ (decode cX1_finish 40 = .ok (.arraylength, 1)) ∧ (decode cX1_finish 41 = .ok (.invokestatic 118, 3)) ∧ (decode cX1_finish 44 = .ok (.aload_n 0, 1)) ∧ (decode cX1_finish 45 = .ok (.dup, 1)) ∧ (decode cX1_finish 46 = .ok (.getfield 31, 3)) ∧ (decode cX1_finish 49 = .ok (.iload_n 1, 1)) ∧ (decode cX1_finish 50 = .ok (.aload_n 0, 1)) ∧ (decode cX1_finish 51 = .ok (.getfield 27, 3)) := by decide +kernel
theorem dX1_finish_36 : decode cX1_finish 36 = .ok (.aload_n 0, 1) := dX1_finish_36g.1
theorem dX1_finish_37 : decode cX1_finish 37 = .ok (.getfield 21, 3) := dX1_finish_36g.2.1
theorem dX1_finish_40 : decode cX1_finish 40 = .ok (.arraylength, 1) := dX1_finish_36g.2.2.1
theorem dX1_finish_41 : decode cX1_finish 41 = .ok (.invokestatic 118, 3) := dX1_finish_36g.2.2.2.1
theorem dX1_finish_44 : decode cX1_finish 44 = .ok (.aload_n 0, 1) := dX1_finish_36g.2.2.2.2.1
theorem dX1_finish_45 : decode cX1_finish 45 = .ok (.dup, 1) := dX1_finish_36g.2.2.2.2.2.1
theorem dX1_finish_46 : decode cX1_finish 46 = .ok (.getfield 31, 3) := dX1_finish_36g.2.2.2.2.2.2.1
theorem dX1_finish_49 : decode cX1_finish 49 = .ok (.iload_n 1, 1) := dX1_finish_36g.2.2.2.2.2.2.2.1
theorem dX1_finish_50 : decode cX1_finish 50 = .ok (.aload_n 0, 1) := dX1_finish_36g.2.2.2.2.2.2.2.2.1
theorem dX1_finish_51 : decode cX1_finish 51 = .ok (.getfield 27, 3) := dX1_finish_36g.2.2.2.2.2.2.2.2.2
theorem dX1_finish_54g : (decode cX1_finish 54 = .ok (.if_icmp .ne 7, 3)) ∧ (decode cX1_finish 57 = .ok (.iconst 1, 1)) ∧ (decode cX1_finish 58 = .ok (.goto 4, 3)) ∧ (decode cX1_finish 61 = .ok (.iconst 0, 1)) ∧ (decode cX1_finish 62 = .ok (.iadd, 1)) ∧ (decode cX1_finish 63 = .ok (.putfield 31, 3)) ∧ (decode cX1_finish 66 = .ok (.return_, 1)) := by decide +kernel
theorem dX1_finish_54 : decode cX1_finish 54 = .ok (.if_icmp .ne 7, 3) := dX1_finish_54g.1
theorem dX1_finish_57 : decode cX1_finish 57 = .ok (.iconst 1, 1) := dX1_finish_54g.2.1
theorem dX1_finish_58 : decode cX1_finish 58 = .ok (.goto 4, 3) := dX1_finish_54g.2.2.1
theorem dX1_finish_61 : decode cX1_finish 61 = .ok (.iconst 0, 1) := dX1_finish_54g.2.2.2.1
theorem dX1_finish_62 : decode cX1_finish 62 = .ok (.iadd, 1) := dX1_finish_54g.2.2.2.2.1
theorem dX1_finish_63 : decode cX1_finish 63 = .ok (.putfield 31, 3) := dX1_finish_54g.2.2.2.2.2.1
theorem dX1_finish_66 : decode cX1_finish 66 = .ok (.return_, 1) := dX1_finish_54g.2.2.2.2.2.2
set_option maxHeartbeats 4000000 in
set_option maxRecDepth 100000 in
theorem c_X1_finish (l : Launch) (E : Nat → Nat) (D : va_G) (G : th_G) (h0 : Nat) (hG0 : G h0 = some (11, 0)) (x1 : Int32) : Met l yX1_finish (tb (.code yX1_finish cX1_finish 2 none)) (rm 1) (va_Pc [.ref h0, .int x1] (th_P E D G)) (QV E D G) 0 0 (th_A G) := by
  refine Met.ofW (cc := cX1_finish) (maxL := 2) (ret := none) (by decide) rfl ?_
  intro p e s m args below meth c s₁ B hml hv
  obtain ⟨hav, hI, hN, hK⟩ := hv
  have hx := B.exec
  have hb := B.bytes
  have hr := B.returns
  have hts := atoms_spec (ws := tb (.code yX1_finish cX1_finish 2 none)) B.pre
  have hown : s.vm.findClass RX1 = some m.cls := findClass_of_methodNamed B.named
  have hlocks := B.notSynchronized
  have hS : va_S (th_A G) s.heap s.heap [] := va_S.rf
  have hl := lv_entry ([.ref h0, .int x1]) (n := 2) (Nat.le_of_ble_eq_true rfl)
  rw [show entryFrame m args 2 = entryFrame m ([.ref h0, .int x1] : List Value).toArray 2 from by rw [hav], lg_entry_eq]
  generalize (lg_sl ([.ref h0, .int x1]) ++ List.replicate (2 - (lg_sl ([.ref h0, .int x1])).length) Slot.unset).toArray = ls at hl ⊢
  have hl : lv_has ls 2 [(0, .ref h0), (1, .int x1)] := hl
  generalize hR : (headSpec (tb (.code yX1_finish cX1_finish 2 none)) (rm 1)).room = R
  have hR := hR.symm
  generalize hQ : MQ below (QV E D G) args s 0 0 (th_A G) = QF
  have hQ := hQ.symm
  have J_44 : ∀ (H : Heap) (locs : List Loc) (ls : Array Slot) , lv_has ls 2 [(0, .ref h0), (1, .int x1)] → th_I (okC E) D G [] H → va_S (th_A G) s.heap H locs → W p l e R s m args below meth c H locs 0 0 QF (F0 m 44 ls []) := by
    intro H locs ls  hl  hI hS
    refine lv_aload_n hx hb dX1_finish_44 rfl (lv_at hl 0 rfl) ?_
    refine lv_dup hx hb dX1_finish_45 rfl ?_
    obtain ⟨a632, a634, a636, a638, a640, a642, a644, a646, w648, w649, w650, hO, hq633, hq635, hq637, hq639, hq641, hq643, hq645, hq647⟩ := op_11 hI hG0 List.not_mem_nil
    have hI := th_I.weak (a := h0) hI
    refine th_get hx hb hts inT1 hown hK hO rfl 9 (by decide) (hts _ (tb_c wd_245)) rfl rfl dX1_finish_46 ?_
    refine lv_iload_n hx hb dX1_finish_49 rfl (lv_at hl 1 rfl) ?_
    refine lv_aload_n hx hb dX1_finish_50 rfl (lv_at hl 0 rfl) ?_
    refine th_get hx hb hts inT1 hown hK hO rfl 8 (by decide) (hts _ (tb_c wd_244)) rfl rfl dX1_finish_51 ?_
    have k651 := iv_lo x1
    have k652 := iv_hi x1
    have k653 := iv_lo w648
    have k654 := iv_hi w648
    refine lv_icmp_ne (tgt := 61) hx hb dX1_finish_54 (by decide) (fun c655 => ?_) (fun c655 => ?_)
    · skip
      have k656 := iv_ne (X := x1.toInt) (Y := w648.toInt) rfl rfl c655
      refine lv_iconst (v := 0) hx hb dX1_finish_61 (by decide) ?_
      refine lv_iadd hx hb dX1_finish_62 ?_
      refine lv_topi (fun v657 e658 => ?_)
      have k659 := iv_lo w649
      have k660 := iv_hi w649
      have tv657 : v657.toInt = w649.toInt + (0) := iv_add rfl (by decide) e658 (by omega) (by omega)
      refine th_put (ty := .int) hx hb hts inT1 tyX1 tyX1_ok nmX1 hown hK hO hS ⟨_, hG0⟩ rfl 9 (by decide) (hts _ (tb_c wd_245)) rfl rfl (by decide +kernel) rfl rfl (Nat.le_of_ble_eq_true rfl) dX1_finish_63 (fun H locs hO oq hS => ?_)
      have hI := th_I.moved hI oq
      have hO : va_at D vwCl (h0, .inr (1, [.ref a632, .ref a634, .ref a636, .ref a638, .ref a640, .ref a642, .ref a644, .ref a646, .int w648, .int v657, .int w650])) H := hO
      have hI := th_I.close hI hG0 hO (ok_11 hq633 hq635 hq637 hq639 hq641 hq643 hq645 hq647)
      rw [hQ]
      exact W.vret hx hb hr (fun t ht hW => ⟨⟨(), rfl, trivial, by rw [ht]; exact hI, hN.warm hW, va_K.moved hW.alike hK⟩, hS.F ht⟩) hS.2.2 dX1_finish_66
    · skip
      have k661 := iv_eq (X := x1.toInt) (Y := w648.toInt) rfl rfl c655
      refine lv_iconst (v := 1) hx hb dX1_finish_57 (by decide) ?_
      refine lv_goto (tgt := 62) hx hb dX1_finish_58 (by decide) ?_
      refine lv_iadd hx hb dX1_finish_62 ?_
      refine lv_topi (fun v662 e663 => ?_)
      try have tv662 : v662.toInt = w649.toInt + (1) := iv_add rfl (by decide) e663 (by omega) (by omega)
      refine th_put (ty := .int) hx hb hts inT1 tyX1 tyX1_ok nmX1 hown hK hO hS ⟨_, hG0⟩ rfl 9 (by decide) (hts _ (tb_c wd_245)) rfl rfl (by decide +kernel) rfl rfl (Nat.le_of_ble_eq_true rfl) dX1_finish_63 (fun H locs hO oq hS => ?_)
      have hI := th_I.moved hI oq
      have hO : va_at D vwCl (h0, .inr (1, [.ref a632, .ref a634, .ref a636, .ref a638, .ref a640, .ref a642, .ref a644, .ref a646, .int w648, .int v662, .int w650])) H := hO
      have hI := th_I.close hI hG0 hO (ok_11 hq633 hq635 hq637 hq639 hq641 hq643 hq645 hq647)
      rw [hQ]
      exact W.vret hx hb hr (fun t ht hW => ⟨⟨(), rfl, trivial, by rw [ht]; exact hI, hN.warm hW, va_K.moved hW.alike hK⟩, hS.F ht⟩) hS.2.2 dX1_finish_66
  have J_16 : ∀ (H : Heap) (locs : List Loc) (ls : Array Slot) , lv_has ls 2 [(0, .ref h0), (1, .int x1)] → th_I (okC E) D G [] H → va_S (th_A G) s.heap H locs → W p l e R s m args below meth c H locs 0 0 QF (F0 m 16 ls []) := by
    intro H locs ls  hl  hI hS
    refine lv_aload_n hx hb dX1_finish_16 rfl (lv_at hl 0 rfl) ?_
    refine lv_iload_n hx hb dX1_finish_17 rfl (lv_at hl 1 rfl) ?_
    obtain ⟨a664, a666, a668, a670, a672, a674, a676, a678, w680, w681, w682, hO, hq665, hq667, hq669, hq671, hq673, hq675, hq677, hq679⟩ := op_11 hI hG0 List.not_mem_nil
    have hI := th_I.weak (a := h0) hI
    refine th_put (ty := .int) hx hb hts inT1 tyX1 tyX1_ok nmX1 hown hK hO hS ⟨_, hG0⟩ rfl 8 (by decide) (hts _ (tb_c wd_244)) rfl rfl (by decide +kernel) rfl rfl (Nat.le_of_ble_eq_true rfl) dX1_finish_18 (fun H locs hO oq hS => ?_)
    have hI := th_I.moved hI oq
    have hO : va_at D vwCl (h0, .inr (1, [.ref a664, .ref a666, .ref a668, .ref a670, .ref a672, .ref a674, .ref a676, .ref a678, .int x1, .int w681, .int w682])) H := hO
    refine lv_aload_n hx hb dX1_finish_21 rfl (lv_at hl 0 rfl) ?_
    refine lv_iconst (v := 0) hx hb dX1_finish_22 (by decide) ?_
    refine th_put (ty := .int) hx hb hts inT1 tyX1 tyX1_ok nmX1 hown hK hO hS ⟨_, hG0⟩ rfl 9 (by decide) (hts _ (tb_c wd_245)) rfl rfl (by decide +kernel) rfl rfl (Nat.le_of_ble_eq_true rfl) dX1_finish_23 (fun H locs hO oq hS => ?_)
    have hI := th_I.moved hI oq
    have hO : va_at D vwCl (h0, .inr (1, [.ref a664, .ref a666, .ref a668, .ref a670, .ref a672, .ref a674, .ref a676, .ref a678, .int x1, .int 0, .int w682])) H := hO
    refine lv_aload_n hx hb dX1_finish_26 rfl (lv_at hl 0 rfl) ?_
    refine th_get hx hb hts inT1 hown hK hO rfl 6 (by decide) (hts _ (tb_c wd_242)) rfl rfl dX1_finish_27 ?_
    refine lv_iconst (v := 0) hx hb dX1_finish_30 (by decide) ?_
    refine lv_aload_n hx hb dX1_finish_31 rfl (lv_at hl 0 rfl) ?_
    refine th_get hx hb hts inT1 hown hK hO rfl 7 (by decide) (hts _ (tb_c wd_243)) rfl rfl dX1_finish_32 ?_
    refine lv_iconst (v := 0) hx hb dX1_finish_35 (by decide) ?_
    refine lv_aload_n hx hb dX1_finish_36 rfl (lv_at hl 0 rfl) ?_
    refine th_get hx hb hts inT1 hown hK hO rfl 6 (by decide) (hts _ (tb_c wd_242)) rfl rfl dX1_finish_37 ?_
    obtain ⟨_, hA683⟩ := op_0 hI hq677 (th_ne hG0 hq677 (show (11 : Nat) ≠ 0 by decide))
    refine va_alen hx hb hK (th_one hA683) 0 0 rfl (v := 12) rfl (show Int32.ofNat 12 = (12 : Int32) from by decide) dX1_finish_40 ?_
    obtain ⟨_, hA684⟩ := op_0 hI hq677 (th_ne hG0 hq677 (show (11 : Nat) ≠ 0 by decide))
    obtain ⟨_, hA685⟩ := op_0 hI hq679 (th_ne hG0 hq679 (show (11 : Nat) ≠ 0 by decide))
    have k686 : (12 : Int32).toInt = 12 := by decide
    have k687 : (0 : Int32).toInt = 0 := by decide
    have k688 : (0 : Int32).toInt = 0 := by decide
    refine th_copyi hx hb (hml.trans hl.1.symm) hown (hts _ (tb_c wd_1078)) (hts _ (tb_c wd_505)) (hts _ (tb_c wd_504)) (hts _ (tb_c wd_14)) hK hA684 hA685 0 rfl hS ⟨_, hq679⟩ (fun z => by have := iv_lt (X := (0)) (Y := 0) (by decide) (by decide) z; omega) (fun z => by have := iv_lt (X := (0)) (Y := 0) (by decide) (by decide) z; omega) (fun z => by have := iv_lt (X := (12)) (Y := 0) (by decide) (by decide) z; omega) (by omega) (by omega) (by rw [hR]; exact Nat.le_of_ble_eq_true rfl) (by rw [hR]; exact Nat.le_of_ble_eq_true rfl) dX1_finish_41 (fun H locs _ hA685 oq hS => ?_)
    have hI := th_I.put hI hq679 hA685 ok_0 oq
    have hO := hO.kept (oq _ (fun z => th_ne hG0 hq679 (show (11 : Nat) ≠ 0 by decide) (List.mem_singleton.mpr z.symm)))
    have hI := th_I.close hI hG0 hO (ok_11 hq665 hq667 hq669 hq671 hq673 hq675 hq677 hq679)
    exact J_44 H locs ls  (lv_sub hl [0, 1] rfl)  hI hS
  refine lv_aload_n hx hb dX1_finish_0 rfl (lv_at hl 0 rfl) ?_
  obtain ⟨a689, a691, a693, a695, a697, a699, a701, a703, w705, w706, w707, hO, hq690, hq692, hq694, hq696, hq698, hq700, hq702, hq704⟩ := op_11 hI hG0 List.not_mem_nil
  have hI := th_I.weak (a := h0) hI
  refine th_get hx hb hts inT1 hown hK hO rfl 8 (by decide) (hts _ (tb_c wd_244)) rfl rfl dX1_finish_1 ?_
  refine lv_iconst (v := (-1)) hx hb dX1_finish_4 (by decide) ?_
  have k708 := iv_lo w705
  have k709 := iv_hi w705
  refine lv_icmp_eq (tgt := 16) hx hb dX1_finish_5 (by decide) (fun c710 => ?_) (fun c710 => ?_)
  · skip
    have k711 := iv_eq (X := w705.toInt) (Y := (-1)) rfl (by decide) c710
    have hI := th_I.close hI hG0 hO (ok_11 hq690 hq692 hq694 hq696 hq698 hq700 hq702 hq704)
    exact J_16 s.heap [] ls  (lv_sub hl [0, 1] rfl)  hI hS
  · skip
    have k712 := iv_ne (X := w705.toInt) (Y := (-1)) rfl (by decide) c710
    refine lv_iload_n hx hb dX1_finish_8 rfl (lv_at hl 1 rfl) ?_
    refine lv_aload_n hx hb dX1_finish_9 rfl (lv_at hl 0 rfl) ?_
    refine th_get hx hb hts inT1 hown hK hO rfl 8 (by decide) (hts _ (tb_c wd_244)) rfl rfl dX1_finish_10 ?_
    have k713 := iv_lo x1
    have k714 := iv_hi x1
    refine lv_icmp_ge (tgt := 44) hx hb dX1_finish_13 (by decide) (fun c715 => ?_) (fun c715 => ?_)
    · skip
      have k716 := iv_le (X := w705.toInt) (Y := x1.toInt) rfl rfl c715
      have hI := th_I.close hI hG0 hO (ok_11 hq690 hq692 hq694 hq696 hq698 hq700 hq702 hq704)
      exact J_44 s.heap [] ls  (lv_sub hl [0, 1] rfl)  hI hS
    · skip
      have k717 := iv_nle (X := w705.toInt) (Y := x1.toInt) rfl rfl c715
      have hI := th_I.close hI hG0 hO (ok_11 hq690 hq692 hq694 hq696 hq698 hq700 hq702 hq704)
      exact J_16 s.heap [] ls  (lv_sub hl [0, 1] rfl)  hI hS
theorem dX5_mark_0g : (decode cX5_mark 0 = .ok (.iconst 0, 1)) ∧ (decode cX5_mark 1 = .ok (.istore_n 3, 1)) ∧ (decode cX5_mark 2 = .ok (.iload_n 3, 1)) ∧ (decode cX5_mark 3 = .ok (.iload_n 1, 1)) ∧ (decode cX5_mark 4 = .ok (.if_icmp .gt 72, 3)) ∧ (decode cX5_mark 7 = .ok (.iload_n 3, 1)) ∧ (decode cX5_mark 8 = .ok (.bipush 96, 2)) ∧ (decode cX5_mark 10 = .ok (.if_icmp .ge 66, 3)) ∧ (decode cX5_mark 13 = .ok (.aload_n 0, 1)) ∧ (decode cX5_mark 14 = .ok (.getfield 30, 3)) := by decide +kernel
theorem dX5_mark_0 : decode cX5_mark 0 = .ok (.iconst 0, 1) := dX5_mark_0g.1
theorem dX5_mark_1 : decode cX5_mark 1 = .ok (.istore_n 3, 1) := dX5_mark_0g.2.1
theorem dX5_mark_2 : decode cX5_mark 2 = .ok (.iload_n 3, 1) := dX5_mark_0g.2.2.1
theorem dX5_mark_3 : decode cX5_mark 3 = .ok (.iload_n 1, 1) := dX5_mark_0g.2.2.2.1
theorem dX5_mark_4 : decode cX5_mark 4 = .ok (.if_icmp .gt 72, 3) := dX5_mark_0g.2.2.2.2.1
theorem dX5_mark_7 : decode cX5_mark 7 = .ok (.iload_n 3, 1) := dX5_mark_0g.2.2.2.2.2.1
theorem dX5_mark_8 : decode cX5_mark 8 = .ok (.bipush 96, 2) := dX5_mark_0g.2.2.2.2.2.2.1
theorem dX5_mark_10 : decode cX5_mark 10 = .ok (.if_icmp .ge 66, 3) := dX5_mark_0g.2.2.2.2.2.2.2.1
theorem dX5_mark_13 : decode cX5_mark 13 = .ok (.aload_n 0, 1) := dX5_mark_0g.2.2.2.2.2.2.2.2.1
theorem dX5_mark_14 : decode cX5_mark 14 = .ok (.getfield 30, 3) := dX5_mark_0g.2.2.2.2.2.2.2.2.2
theorem dX5_mark_17g : (decode cX5_mark 17 = .ok (.iload_n 3, 1)) ∧ (decode cX5_mark 18 = .ok (.invokevirtual 84, 3)) ∧ (decode cX5_mark 21 = .ok (.istore 4, 2)) ∧ (decode cX5_mark 23 = .ok (.iconst 0, 1)) ∧ (decode cX5_mark 24 = .ok (.istore 5, 2)) ∧ (decode cX5_mark 26 = .ok (.iload 4, 2)) ∧ (decode cX5_mark 28 = .ok (.ifCond .eq 42, 3)) ∧ (decode cX5_mark 31 = .ok (.iload 5, 2)) ∧ (decode cX5_mark 33 = .ok (.bipush 24, 2)) ∧ (decode cX5_mark 35 = .ok (.if_icmp .ge 35, 3)) := by decide +kernel
theorem dX5_mark_17 : decode cX5_mark 17 = .ok (.iload_n 3, 1) := dX5_mark_17g.1
theorem dX5_mark_18 : decode cX5_mark 18 = .ok (.invokevirtual 84, 3) := dX5_mark_17g.2.1
theorem dX5_mark_21 : decode cX5_mark 21 = .ok (.istore 4, 2) := dX5_mark_17g.2.2.1
theorem dX5_mark_23 : decode cX5_mark 23 = .ok (.iconst 0, 1) := dX5_mark_17g.2.2.2.1
theorem dX5_mark_24 : decode cX5_mark 24 = .ok (.istore 5, 2) := dX5_mark_17g.2.2.2.2.1
theorem dX5_mark_26 : decode cX5_mark 26 = .ok (.iload 4, 2) := dX5_mark_17g.2.2.2.2.2.1
theorem dX5_mark_28 : decode cX5_mark 28 = .ok (.ifCond .eq 42, 3) := dX5_mark_17g.2.2.2.2.2.2.1
theorem dX5_mark_31 : decode cX5_mark 31 = .ok (.iload 5, 2) := dX5_mark_17g.2.2.2.2.2.2.2.1
theorem dX5_mark_33 : decode cX5_mark 33 = .ok (.bipush 24, 2) := dX5_mark_17g.2.2.2.2.2.2.2.2.1
theorem dX5_mark_35 : decode cX5_mark 35 = .ok (.if_icmp .ge 35, 3) := dX5_mark_17g.2.2.2.2.2.2.2.2.2
theorem dX5_mark_38g : (decode cX5_mark 38 = .ok (.iload 4, 2)) ∧ (decode cX5_mark 40 = .ok (.iload 5, 2)) ∧ (decode cX5_mark 42 = .ok (.ishr, 1)) ∧ (decode cX5_mark 43 = .ok (.iconst 1, 1)) ∧ (decode cX5_mark 44 = .ok (.iand, 1)) ∧ (decode cX5_mark 45 = .ok (.ifCond .eq 19, 3)) ∧ (decode cX5_mark 48 = .ok (.aload_n 0, 1)) ∧ (decode cX5_mark 49 = .ok (.getfield 11, 3)) ∧ (decode cX5_mark 52 = .ok (.iload_n 3, 1)) ∧ (decode cX5_mark 53 = .ok (.bipush 24, 2)) := by decide +kernel
theorem dX5_mark_38 : decode cX5_mark 38 = .ok (.iload 4, 2) := dX5_mark_38g.1
theorem dX5_mark_40 : decode cX5_mark 40 = .ok (.iload 5, 2) := dX5_mark_38g.2.1
theorem dX5_mark_42 : decode cX5_mark 42 = .ok (.ishr, 1) := dX5_mark_38g.2.2.1
theorem dX5_mark_43 : decode cX5_mark 43 = .ok (.iconst 1, 1) := dX5_mark_38g.2.2.2.1
theorem dX5_mark_44 : decode cX5_mark 44 = .ok (.iand, 1) := dX5_mark_38g.2.2.2.2.1
theorem dX5_mark_45 : decode cX5_mark 45 = .ok (.ifCond .eq 19, 3) := dX5_mark_38g.2.2.2.2.2.1
theorem dX5_mark_48 : decode cX5_mark 48 = .ok (.aload_n 0, 1) := dX5_mark_38g.2.2.2.2.2.2.1
theorem dX5_mark_49 : decode cX5_mark 49 = .ok (.getfield 11, 3) := dX5_mark_38g.2.2.2.2.2.2.2.1
theorem dX5_mark_52 : decode cX5_mark 52 = .ok (.iload_n 3, 1) := dX5_mark_38g.2.2.2.2.2.2.2.2.1
theorem dX5_mark_53 : decode cX5_mark 53 = .ok (.bipush 24, 2) := dX5_mark_38g.2.2.2.2.2.2.2.2.2
theorem dX5_mark_55g : (decode cX5_mark 55 = .ok (.imul, 1)) ∧ (decode cX5_mark 56 = .ok (.iload 5, 2)) ∧ (decode cX5_mark 58 = .ok (.iadd, 1)) ∧ (decode cX5_mark 59 = .ok (.dup2, 1)) ∧ (decode cX5_mark 60 = .ok (.iaload, 1)) ∧ (decode cX5_mark 61 = .ok (.iload_n 2, 1)) ∧ (decode cX5_mark 62 = .ok (.ior, 1)) ∧ (decode cX5_mark 63 = .ok (.iastore, 1)) ∧ (decode cX5_mark 64 = .ok (.iinc 5 1, 3)) ∧ (decode cX5_mark 67 = .ok (.goto (-41), 3)) := by decide +kernel
theorem dX5_mark_55 : decode cX5_mark 55 = .ok (.imul, 1) := dX5_mark_55g.1
theorem dX5_mark_56 : decode cX5_mark 56 = .ok (.iload 5, 2) := dX5_mark_55g.2.1
theorem dX5_mark_58 : decode cX5_mark 58 = .ok (.iadd, 1) := dX5_mark_55g.2.2.1
theorem dX5_mark_59 : decode cX5_mark 59 = .ok (.dup2, 1) := dX5_mark_55g.2.2.2.1
theorem dX5_mark_60 : decode cX5_mark 60 = .ok (.iaload, 1) := dX5_mark_55g.2.2.2.2.1
theorem dX5_mark_61 : decode cX5_mark 61 = .ok (.iload_n 2, 1) := dX5_mark_55g.2.2.2.2.2.1
theorem dX5_mark_62 : decode cX5_mark 62 = .ok (.ior, 1) := dX5_mark_55g.2.2.2.2.2.2.1
theorem dX5_mark_63 : decode cX5_mark 63 = .ok (.iastore, 1) := dX5_mark_55g.2.2.2.2.2.2.2.1
theorem dX5_mark_64 : decode cX5_mark 64 = .ok (.iinc 5 1, 3) := dX5_mark_55g.2.2.2.2.2.2.2.2.1
theorem dX5_mark_67 : decode cX5_mark 67 = .ok (.goto (-41), 3) := dX5_mark_55g.2.2.2.2.2.2.2.2.2
theorem dX5_mark_70g : (decode cX5_mark 70 = .ok (.iinc 3 1, 3)) ∧ (decode cX5_mark 73 = .ok (.goto (-71), 3)) ∧ (decode cX5_mark 76 = .ok (.return_, 1)) := by decide +kernel
theorem dX5_mark_70 : decode cX5_mark 70 = .ok (.iinc 3 1, 3) := dX5_mark_70g.1
theorem dX5_mark_73 : decode cX5_mark 73 = .ok (.goto (-71), 3) := dX5_mark_70g.2.1
theorem dX5_mark_76 : decode cX5_mark 76 = .ok (.return_, 1) := dX5_mark_70g.2.2
set_option maxHeartbeats 4000000 in
set_option maxRecDepth 100000 in
theorem c_X5_mark (l : Launch) (E : Nat → Nat) (D : va_G) (G : th_G) (h0 : Nat) (hG0 : G h0 = some (12, 0)) (x1 x2 : Int32) : Met l yX5_mark (tb (.code yX5_mark cX5_mark 6 none)) (rm 2) (va_Pc [.ref h0, .int x1, .int x2] (th_P E D G)) (QV E D G) 0 0 (th_A G) := by
  refine Met.ofW (cc := cX5_mark) (maxL := 6) (ret := none) (by decide) rfl ?_
  intro p e s m args below meth c s₁ B hml hv
  obtain ⟨hav, hI, hN, hK⟩ := hv
  have hx := B.exec
  have hb := B.bytes
  have hr := B.returns
  have hts := atoms_spec (ws := tb (.code yX5_mark cX5_mark 6 none)) B.pre
  have hown : s.vm.findClass RX5 = some m.cls := findClass_of_methodNamed B.named
  have hlocks := B.notSynchronized
  have hS : va_S (th_A G) s.heap s.heap [] := va_S.rf
  have hl := lv_entry ([.ref h0, .int x1, .int x2]) (n := 6) (Nat.le_of_ble_eq_true rfl)
  rw [show entryFrame m args 6 = entryFrame m ([.ref h0, .int x1, .int x2] : List Value).toArray 6 from by rw [hav], lg_entry_eq]
  generalize (lg_sl ([.ref h0, .int x1, .int x2]) ++ List.replicate (6 - (lg_sl ([.ref h0, .int x1, .int x2])).length) Slot.unset).toArray = ls at hl ⊢
  have hl : lv_has ls 6 [(0, .ref h0), (1, .int x1), (2, .int x2)] := hl
  generalize hR : (headSpec (tb (.code yX5_mark cX5_mark 6 none)) (rm 2)).room = R
  have hR := hR.symm
  generalize hQ : MQ below (QV E D G) args s 0 0 (th_A G) = QF
  have hQ := hQ.symm
  have J_2 : ∀ (nn : Nat) (H : Heap) (locs : List Loc) (ls : Array Slot) (v2720 : Int32), (Int.toNat (96 - v2720.toInt) = nn) → lv_has ls 6 [(3, .int v2720), (0, .ref h0), (1, .int x1), (2, .int x2)] → ((0 : Int) ≤ v2720.toInt ∧ v2720.toInt ≤ 96) → th_I (okC E) D G [] H → va_S (th_A G) s.heap H locs → W p l e R s m args below meth c H locs 0 0 QF (F0 m 2 ls []) := by
    intro nn
    induction nn using Nat.strongRecOn with
    | ind nn ih_2 =>
      intro H locs ls v2720 hm hl k2721 hI hS
      have J_26 : ∀ (nn : Nat) (H : Heap) (locs : List Loc) (ls : Array Slot) (v2722 : Int32) (v2723 : Int32), (Int.toNat (24 - v2722.toInt) = nn) → lv_has ls 6 [(5, .int v2722), (4, .int v2723), (3, .int v2720), (0, .ref h0), (1, .int x1), (2, .int x2)] → ((0 : Int) ≤ v2722.toInt ∧ v2722.toInt ≤ 24) → ((0 : Int) ≤ v2720.toInt ∧ v2720.toInt ≤ 95) → ((0 : Int) ≤ x1.toInt) → th_I (okC E) D G [] H → va_S (th_A G) s.heap H locs → W p l e R s m args below meth c H locs 0 0 QF (F0 m 26 ls []) := by
        intro nn
        induction nn using Nat.strongRecOn with
        | ind nn ih_26 =>
          intro H locs ls v2722 v2723 hm hl k2725 k2726 k2727 hI hS
          refine lv_iload hx hb dX5_mark_26 (lv_at hl 1 rfl) ?_
          have k2728 := iv_lo v2723
          have k2729 := iv_hi v2723
          refine lv_if_eq (tgt := 70) hx hb dX5_mark_28 (by decide) (fun c2730 => ?_) (fun c2730 => ?_)
          · skip
            have k2731 := iv_eq (X := v2723.toInt) (Y := (0)) rfl (by decide) c2730
            obtain ⟨v2732, e2733⟩ : ∃ y : Int32, y = v2720 + (1) := ⟨_, rfl⟩
            have tv2732 : v2732.toInt = v2720.toInt + (1) := iv_add rfl (by decide) e2733 (by omega) (by omega)
            refine lv_iinc (v := v2732) (lv' := [(3, .int v2732), (5, .int v2722), (4, .int v2723), (0, .ref h0), (1, .int x1), (2, .int x2)]) hx hb dX5_mark_70 hl (k := 2) rfl (by rw [e2733]; rfl) (by decide) rfl (fun ls hl => ?_)
            refine lv_goto (tgt := 2) hx hb dX5_mark_73 (by decide) ?_
            exact ih_2 _ (by omega) H locs ls v2732 rfl (lv_sub hl [0, 3, 4, 5] rfl) ⟨by omega, by omega⟩ hI hS
          · skip
            have k2734 := iv_ne (X := v2723.toInt) (Y := (0)) rfl (by decide) c2730
            refine lv_iload hx hb dX5_mark_31 (lv_at hl 0 rfl) ?_
            refine lv_bipush (v := 24) hx hb dX5_mark_33 (by decide) ?_
            refine lv_icmp_ge (tgt := 70) hx hb dX5_mark_35 (by decide) (fun c2735 => ?_) (fun c2735 => ?_)
            · skip
              have k2736 := iv_le (X := (24)) (Y := v2722.toInt) (by decide) rfl c2735
              obtain ⟨v2737, e2738⟩ : ∃ y : Int32, y = v2720 + (1) := ⟨_, rfl⟩
              have tv2737 : v2737.toInt = v2720.toInt + (1) := iv_add rfl (by decide) e2738 (by omega) (by omega)
              refine lv_iinc (v := v2737) (lv' := [(3, .int v2737), (5, .int v2722), (4, .int v2723), (0, .ref h0), (1, .int x1), (2, .int x2)]) hx hb dX5_mark_70 hl (k := 2) rfl (by rw [e2738]; rfl) (by decide) rfl (fun ls hl => ?_)
              refine lv_goto (tgt := 2) hx hb dX5_mark_73 (by decide) ?_
              exact ih_2 _ (by omega) H locs ls v2737 rfl (lv_sub hl [0, 3, 4, 5] rfl) ⟨by omega, by omega⟩ hI hS
            · skip
              have k2739 := iv_nle (X := (24)) (Y := v2722.toInt) (by decide) rfl c2735
              refine lv_iload hx hb dX5_mark_38 (lv_at hl 1 rfl) ?_
              refine lv_iload hx hb dX5_mark_40 (lv_at hl 0 rfl) ?_
              refine lv_ishr hx hb dX5_mark_42 ?_
              refine lv_topi (fun v2740 e2741 => ?_)
              refine lv_iconst (v := 1) hx hb dX5_mark_43 (by decide) ?_
              refine lv_iand hx hb dX5_mark_44 ?_
              refine lv_topi (fun v2742 e2743 => ?_)
              have tv2742 := iv_andr (m := 1) (M := 1) e2743 (by decide) (by decide)
              refine lv_if_eq (tgt := 64) hx hb dX5_mark_45 (by decide) (fun c2744 => ?_) (fun c2744 => ?_)
              · skip
                have k2745 := iv_eq (X := v2742.toInt) (Y := (0)) rfl (by decide) c2744
                obtain ⟨v2746, e2747⟩ : ∃ y : Int32, y = v2722 + (1) := ⟨_, rfl⟩
                have tv2746 : v2746.toInt = v2722.toInt + (1) := iv_add rfl (by decide) e2747 (by omega) (by omega)
                refine lv_iinc (v := v2746) (lv' := [(5, .int v2746), (4, .int v2723), (3, .int v2720), (0, .ref h0), (1, .int x1), (2, .int x2)]) hx hb dX5_mark_64 hl (k := 0) rfl (by rw [e2747]; rfl) (by decide) rfl (fun ls hl => ?_)
                refine lv_goto (tgt := 26) hx hb dX5_mark_67 (by decide) ?_
                exact ih_26 _ (by omega) H locs ls v2746 v2723 rfl (lv_sub hl [0, 1, 2, 3, 4, 5] rfl) ⟨by omega, by omega⟩ ⟨by omega, by omega⟩ (by omega) hI hS
              · skip
                have k2748 := iv_ne (X := v2742.toInt) (Y := (0)) rfl (by decide) c2744
                refine lv_aload_n hx hb dX5_mark_48 rfl (lv_at hl 3 rfl) ?_
                obtain ⟨a2749, a2751, a2753, a2755, w2757, w2758, hO, hq2750, hq2752, hq2754, hq2756⟩ := op_12 hI hG0 List.not_mem_nil
                have hI := th_I.weak (a := h0) hI
                refine th_get hx hb hts inT5 hown hK hO rfl 2 (by decide) (hts _ (tb_c wd_278)) rfl rfl dX5_mark_49 ?_
                refine lv_iload_n hx hb dX5_mark_52 rfl (lv_at hl 2 rfl) ?_
                refine lv_bipush (v := 24) hx hb dX5_mark_53 (by decide) ?_
                refine lv_imul hx hb dX5_mark_55 ?_
                refine lv_topi (fun v2759 e2760 => ?_)
                have tv2759 : v2759.toInt = v2720.toInt * (24) := iv_mul rfl (by decide) e2760 (by omega) (by omega)
                refine lv_iload hx hb dX5_mark_56 (lv_at hl 0 rfl) ?_
                refine lv_iadd hx hb dX5_mark_58 ?_
                refine lv_topi (fun v2761 e2762 => ?_)
                have tv2761 : v2761.toInt = v2759.toInt + v2722.toInt := iv_add rfl rfl e2762 (by omega) (by omega)
                refine lv_dup2_11 hx hb dX5_mark_59 rfl rfl ?_
                obtain ⟨_, hA2763⟩ := op_0 hI hq2754 (th_ne hG0 hq2754 (show (12 : Nat) ≠ 0 by decide))
                refine th_iald hx hb hK hA2763 0 rfl (iv_in (X := v2761.toInt) rfl (by omega) (by omega)) dX5_mark_60 (fun v2764 _ => ?_)
                refine lv_iload_n hx hb dX5_mark_61 rfl (lv_at hl 5 rfl) ?_
                refine lv_ior hx hb dX5_mark_62 ?_
                refine lv_topi (fun v2765 e2766 => ?_)
                obtain ⟨_, hA2767⟩ := op_0 hI hq2754 (th_ne hG0 hq2754 (show (12 : Nat) ≠ 0 by decide))
                refine th_iast hx hb hK hA2767 0 rfl hS ⟨_, hq2754⟩ (iv_in (X := v2761.toInt) rfl (by omega) (by omega)) dX5_mark_63 (fun H locs hA2767 oq hS => ?_)
                have hI := th_I.put hI hq2754 hA2767 ok_0 oq
                have hO := hO.kept (oq _ (fun z => th_ne hG0 hq2754 (show (12 : Nat) ≠ 0 by decide) (List.mem_singleton.mpr z.symm)))
                obtain ⟨v2768, e2769⟩ : ∃ y : Int32, y = v2722 + (1) := ⟨_, rfl⟩
                have tv2768 : v2768.toInt = v2722.toInt + (1) := iv_add rfl (by decide) e2769 (by omega) (by omega)
                refine lv_iinc (v := v2768) (lv' := [(5, .int v2768), (4, .int v2723), (3, .int v2720), (0, .ref h0), (1, .int x1), (2, .int x2)]) hx hb dX5_mark_64 hl (k := 0) rfl (by rw [e2769]; rfl) (by decide) rfl (fun ls hl => ?_)
                refine lv_goto (tgt := 26) hx hb dX5_mark_67 (by decide) ?_
                have hI := th_I.close hI hG0 hO (ok_12 hq2750 hq2752 hq2754 hq2756)
                exact ih_26 _ (by omega) H locs ls v2768 v2723 rfl (lv_sub hl [0, 1, 2, 3, 4, 5] rfl) ⟨by omega, by omega⟩ ⟨by omega, by omega⟩ (by omega) hI hS
      refine lv_iload_n hx hb dX5_mark_2 rfl (lv_at hl 0 rfl) ?_
      refine lv_iload_n hx hb dX5_mark_3 rfl (lv_at hl 2 rfl) ?_
      have k2770 := iv_lo x1
      have k2771 := iv_hi x1
      refine lv_icmp_gt (tgt := 76) hx hb dX5_mark_4 (by decide) (fun c2772 => ?_) (fun c2772 => ?_)
      · skip
        have k2773 := iv_lt (X := x1.toInt) (Y := v2720.toInt) rfl rfl c2772
        rw [hQ]
        exact W.vret hx hb hr (fun t ht hW => ⟨⟨(), rfl, trivial, by rw [ht]; exact hI, hN.warm hW, va_K.moved hW.alike hK⟩, hS.F ht⟩) hS.2.2 dX5_mark_76
      · skip
        have k2774 := iv_nlt (X := x1.toInt) (Y := v2720.toInt) rfl rfl c2772
        refine lv_iload_n hx hb dX5_mark_7 rfl (lv_at hl 0 rfl) ?_
        refine lv_bipush (v := 96) hx hb dX5_mark_8 (by decide) ?_
        refine lv_icmp_ge (tgt := 76) hx hb dX5_mark_10 (by decide) (fun c2775 => ?_) (fun c2775 => ?_)
        · skip
          have k2776 := iv_le (X := (96)) (Y := v2720.toInt) (by decide) rfl c2775
          rw [hQ]
          exact W.vret hx hb hr (fun t ht hW => ⟨⟨(), rfl, trivial, by rw [ht]; exact hI, hN.warm hW, va_K.moved hW.alike hK⟩, hS.F ht⟩) hS.2.2 dX5_mark_76
        · skip
          have k2777 := iv_nle (X := (96)) (Y := v2720.toInt) (by decide) rfl c2775
          refine lv_aload_n hx hb dX5_mark_13 rfl (lv_at hl 1 rfl) ?_
          obtain ⟨a2778, a2780, a2782, a2784, w2786, w2787, hO, hq2779, hq2781, hq2783, hq2785⟩ := op_12 hI hG0 List.not_mem_nil
          have hI := th_I.weak (a := h0) hI
          refine th_get hx hb hts inT5 hown hK hO rfl 1 (by decide) (hts _ (tb_c wd_277)) rfl rfl dX5_mark_14 ?_
          refine lv_iload_n hx hb dX5_mark_17 rfl (lv_at hl 0 rfl) ?_
          have hI := th_I.close hI hG0 hO (ok_12 hq2779 hq2781 hq2783 hq2785)
          refine th_cVi (As := [.int v2720]) (rest := []) (n := 1) (d := 1) ⟨hx, hb, hml, hown, hts⟩ (c_X9_originsAt l E D G a2780 hq2781 v2720) wd_1011 wd_1012 wd_1013 wd_8 wd_1014 (by decide +kernel) ⟨by rw [hR]; exact Nat.le_of_ble_eq_true rfl, by rw [hR]; exact Nat.le_of_ble_eq_true rfl⟩ hI hN hK hS (rc_10 hI hq2781 List.not_mem_nil) rfl rfl hl.1 rfl (Nat.le_of_ble_eq_true rfl) dX5_mark_18 ⟨Nat.zero_le _, Nat.zero_le _⟩ (fun r2788 H locs hp hI hS => ?_)
          refine lv_istore (lv' := [(4, .int r2788), (3, .int v2720), (0, .ref h0), (1, .int x1), (2, .int x2)]) hx hb dX5_mark_21 hl (by decide) rfl (fun ls hl => ?_)
          refine lv_iconst (v := 0) hx hb dX5_mark_23 (by decide) ?_
          refine lv_istore (lv' := [(5, .int 0), (4, .int r2788), (3, .int v2720), (0, .ref h0), (1, .int x1), (2, .int x2)]) hx hb dX5_mark_24 hl (by decide) rfl (fun ls hl => ?_)
          have zl : (0 : Int32).toInt = 0 := by decide
          exact J_26 _ H locs ls 0 r2788 rfl (lv_sub hl [0, 1, 2, 3, 4, 5] rfl) ⟨by decide, by decide⟩ ⟨by omega, by omega⟩ (by omega) hI hS
  refine lv_iconst (v := 0) hx hb dX5_mark_0 (by decide) ?_
  refine lv_istore_n (lv' := [(3, .int 0), (0, .ref h0), (1, .int x1), (2, .int x2)]) hx hb dX5_mark_1 rfl hl (by decide) rfl (fun ls hl => ?_)
  have zl : (0 : Int32).toInt = 0 := by decide
  exact J_2 _ s.heap [] ls 0 rfl (lv_sub hl [0, 1, 2, 3] rfl) ⟨by decide, by decide⟩ hI hS
theorem dX5_look_0g : (decode cX5_look 0 = .ok (.aload_n 0, 1)) ∧ (decode cX5_look 1 = .ok (.getfield 19, 3)) ∧ (decode cX5_look 4 = .ok (.iload_n 1, 1)) ∧ (decode cX5_look 5 = .ok (.if_icmp .ne 4, 3)) ∧ (decode cX5_look 8 = .ok (.return_, 1)) ∧ (decode cX5_look 9 = .ok (.aload_n 0, 1)) ∧ (decode cX5_look 10 = .ok (.iload_n 1, 1)) ∧ (decode cX5_look 11 = .ok (.putfield 19, 3)) ∧ (decode cX5_look 14 = .ok (.aload_n 0, 1)) ∧ (decode cX5_look 15 = .ok (.iconst 0, 1)) := by decide +kernel
theorem dX5_look_0 : decode cX5_look 0 = .ok (.aload_n 0, 1) := dX5_look_0g.1
theorem dX5_look_1 : decode cX5_look 1 = .ok (.getfield 19, 3) := dX5_look_0g.2.1
theorem dX5_look_4 : decode cX5_look 4 = .ok (.iload_n 1, 1) := dX5_look_0g.2.2.1
theorem dX5_look_5 : decode cX5_look 5 = .ok (.if_icmp .ne 4, 3) := dX5_look_0g.2.2.2.1
theorem dX5_look_8 : decode cX5_look 8 = .ok (.return_, 1) := dX5_look_0g.2.2.2.2.1
theorem dX5_look_9 : decode cX5_look 9 = .ok (.aload_n 0, 1) := dX5_look_0g.2.2.2.2.2.1
theorem dX5_look_10 : decode cX5_look 10 = .ok (.iload_n 1, 1) := dX5_look_0g.2.2.2.2.2.2.1
theorem dX5_look_11 : decode cX5_look 11 = .ok (.putfield 19, 3) := dX5_look_0g.2.2.2.2.2.2.2.1
theorem dX5_look_14 : decode cX5_look 14 = .ok (.aload_n 0, 1) := dX5_look_0g.2.2.2.2.2.2.2.2.1
theorem dX5_look_15 : decode cX5_look 15 = .ok (.iconst 0, 1) := dX5_look_0g.2.2.2.2.2.2.2.2.2
theorem dX5_look_16g : (decode cX5_look 16 = .ok (.putfield 23, 3)) ∧ (decode cX5_look 19 = .ok (.aload_n 0, 1)) ∧ (decode cX5_look 20 = .ok (.getfield 11, 3)) ∧ (decode cX5_look 23 = .ok (.iconst 0, 1)) ∧ (decode cX5_look 24 = .ok (.invokestatic 55, 3)) ∧ (decode cX5_look 27 = .ok (.iconst 0, 1)) ∧ (decode cX5_look 28 = .ok (.istore_n 2, 1)) ∧ (decode cX5_look 29 = .ok (.iload_n 2, 1)) ∧ (decode cX5_look 30 = .ok (.aload_n 0, 1)) ∧ (decode cX5_look 31 = .ok (.getfield 26, 3)) := by decide +kernel
theorem dX5_look_16 : decode cX5_look 16 = .ok (.putfield 23, 3) := dX5_look_16g.1
theorem dX5_look_19 : decode cX5_look 19 = .ok (.aload_n 0, 1) := dX5_look_16g.2.1
theorem dX5_look_20 : decode cX5_look 20 = .ok (.getfield 11, 3) := dX5_look_16g.2.2.1
theorem dX5_look_23 : decode cX5_look 23 = .ok (.iconst 0, 1) := dX5_look_16g.2.2.2.1
theorem dX5_look_24 : decode cX5_look 24 = .ok (.invokestatic 55, 3) := dX5_look_16g.2.2.2.2.1
theorem dX5_look_27 : decode cX5_look 27 = .ok (.iconst 0, 1) := dX5_look_16g.2.2.2.2.2.1
theorem dX5_look_28 : decode cX5_look 28 = .ok (.istore_n 2, 1) := dX5_look_16g.2.2.2.2.2.2.1
theorem dX5_look_29 : decode cX5_look 29 = .ok (.iload_n 2, 1) := dX5_look_16g.2.2.2.2.2.2.2.1
theorem dX5_look_30 : decode cX5_look 30 = .ok (.aload_n 0, 1) := dX5_look_16g.2.2.2.2.2.2.2.2.1
theorem dX5_look_31 : decode cX5_look 31 = .ok (.getfield 26, 3) := dX5_look_16g.2.2.2.2.2.2.2.2.2
theorem dX5_look_34g : (decode cX5_look 34 = .ok (.getfield 58, 3)) ∧ (decode cX5_look 37 = .ok (.invokevirtual 64, 3)) ∧ (decode cX5_look 40 = .ok (.if_icmp .ge 129, 3)) ∧ (decode cX5_look 43 = .ok (.iload_n 2, 1)) ∧ (decode cX5_look 44 = .ok (.bipush 10, 2)) ∧ (decode cX5_look 46 = .ok (.if_icmp .ge 123, 3)) ∧ (decode cX5_look 49 = .ok (.aload_n 0, 1)) ∧ (decode cX5_look 50 = .ok (.getfield 26, 3)) ∧ (decode cX5_look 53 = .ok (.getfield 58, 3)) ∧ (decode cX5_look 56 = .ok (.iload_n 2, 1)) := by decide +kernel
theorem dX5_look_34 : decode cX5_look 34 = .ok (.getfield 58, 3) := dX5_look_34g.1
theorem dX5_look_37 : decode cX5_look 37 = .ok (.invokevirtual 64, 3) := dX5_look_34g.2.1
theorem dX5_look_40 : decode cX5_look 40 = .ok (.if_icmp .ge 129, 3) := dX5_look_34g.2.2.1
theorem dX5_look_43 : decode cX5_look 43 = .ok (.iload_n 2, 1) := dX5_look_34g.2.2.2.1
theorem dX5_look_44 : decode cX5_look 44 = .ok (.bipush 10, 2) := dX5_look_34g.2.2.2.2.1
theorem dX5_look_46 : decode cX5_look 46 = .ok (.if_icmp .ge 123, 3) := dX5_look_34g.2.2.2.2.2.1
theorem dX5_look_49 : decode cX5_look 49 = .ok (.aload_n 0, 1) := dX5_look_34g.2.2.2.2.2.2.1
theorem dX5_look_50 : decode cX5_look 50 = .ok (.getfield 26, 3) := dX5_look_34g.2.2.2.2.2.2.2.1
theorem dX5_look_53 : decode cX5_look 53 = .ok (.getfield 58, 3) := dX5_look_34g.2.2.2.2.2.2.2.2.1
theorem dX5_look_56 : decode cX5_look 56 = .ok (.iload_n 2, 1) := dX5_look_34g.2.2.2.2.2.2.2.2.2
theorem dX5_look_57g : (decode cX5_look 57 = .ok (.iconst 2, 1)) ∧ (decode cX5_look 58 = .ok (.invokevirtual 70, 3)) ∧ (decode cX5_look 61 = .ok (.iload_n 1, 1)) ∧ (decode cX5_look 62 = .ok (.if_icmp .ne 101, 3)) ∧ (decode cX5_look 65 = .ok (.aload_n 0, 1)) ∧ (decode cX5_look 66 = .ok (.getfield 26, 3)) ∧ (decode cX5_look 69 = .ok (.getfield 58, 3)) ∧ (decode cX5_look 72 = .ok (.iload_n 2, 1)) ∧ (decode cX5_look 73 = .ok (.iconst 1, 1)) ∧ (decode cX5_look 74 = .ok (.invokevirtual 70, 3)) := by decide +kernel
theorem dX5_look_57 : decode cX5_look 57 = .ok (.iconst 2, 1) := dX5_look_57g.1
theorem dX5_look_58 : decode cX5_look 58 = .ok (.invokevirtual 70, 3) := dX5_look_57g.2.1
theorem dX5_look_61 : decode cX5_look 61 = .ok (.iload_n 1, 1) := dX5_look_57g.2.2.1
theorem dX5_look_62 : decode cX5_look 62 = .ok (.if_icmp .ne 101, 3) := dX5_look_57g.2.2.2.1
theorem dX5_look_65 : decode cX5_look 65 = .ok (.aload_n 0, 1) := dX5_look_57g.2.2.2.2.1
theorem dX5_look_66 : decode cX5_look 66 = .ok (.getfield 26, 3) := dX5_look_57g.2.2.2.2.2.1
theorem dX5_look_69 : decode cX5_look 69 = .ok (.getfield 58, 3) := dX5_look_57g.2.2.2.2.2.2.1
theorem dX5_look_72 : decode cX5_look 72 = .ok (.iload_n 2, 1) := dX5_look_57g.2.2.2.2.2.2.2.1
theorem dX5_look_73 : decode cX5_look 73 = .ok (.iconst 1, 1) := dX5_look_57g.2.2.2.2.2.2.2.2.1
theorem dX5_look_74 : decode cX5_look 74 = .ok (.invokevirtual 70, 3) := dX5_look_57g.2.2.2.2.2.2.2.2.2
theorem dX5_look_77g : (decode cX5_look 77 = .ok (.istore_n 3, 1)) ∧ (decode cX5_look 78 = .ok (.aload_n 0, 1)) ∧ (decode cX5_look 79 = .ok (.getfield 26, 3)) ∧ (decode cX5_look 82 = .ok (.getfield 58, 3)) ∧ (decode cX5_look 85 = .ok (.iload_n 2, 1)) ∧ (decode cX5_look 86 = .ok (.iconst 3, 1)) ∧ (decode cX5_look 87 = .ok (.invokevirtual 70, 3)) ∧ (decode cX5_look 90 = .ok (.iconst 1, 1)) ∧ (decode cX5_look 91 = .ok (.if_icmp .ne 7, 3)) ∧ (decode cX5_look 94 = .ok (.iconst 1, 1)) := by decide +kernel
theorem dX5_look_77 : decode cX5_look 77 = .ok (.istore_n 3, 1) := dX5_look_77g.1
theorem dX5_look_78 : decode cX5_look 78 = .ok (.aload_n 0, 1) := dX5_look_77g.2.1
theorem dX5_look_79 : decode cX5_look 79 = .ok (.getfield 26, 3) := dX5_look_77g.2.2.1
theorem dX5_look_82 : decode cX5_look 82 = .ok (.getfield 58, 3) := dX5_look_77g.2.2.2.1
theorem dX5_look_85 : decode cX5_look 85 = .ok (.iload_n 2, 1) := dX5_look_77g.2.2.2.2.1
theorem dX5_look_86 : decode cX5_look 86 = .ok (.iconst 3, 1) := dX5_look_77g.2.2.2.2.2.1
theorem dX5_look_87 : decode cX5_look 87 = .ok (.invokevirtual 70, 3) := dX5_look_77g.2.2.2.2.2.2.1
theorem dX5_look_90 : decode cX5_look 90 = .ok (.iconst 1, 1) := dX5_look_77g.2.2.2.2.2.2.2.1
theorem dX5_look_91 : decode cX5_look 91 = .ok (.if_icmp .ne 7, 3) := dX5_look_77g.2.2.2.2.2.2.2.2.1
theorem dX5_look_94 : decode cX5_look 94 = .ok (.iconst 1, 1) := dX5_look_77g.2.2.2.2.2.2.2.2.2
theorem dX5_look_95g : (decode cX5_look 95 = .ok (.goto 4, 3)) ∧ (decode cX5_look 98 = .ok (.iconst 0, 1)) ∧ (decode cX5_look 99 = .ok (.istore 4, 2)) ∧ (decode cX5_look 101 = .ok (.aload_n 0, 1)) ∧ (decode cX5_look 102 = .ok (.getfield 30, 3)) ∧ (decode cX5_look 105 = .ok (.aload_n 0, 1)) ∧ (decode cX5_look 106 = .ok (.getfield 26, 3)) ∧ (decode cX5_look 109 = .ok (.getfield 58, 3)) ∧ (decode cX5_look 112 = .ok (.iload_n 2, 1)) ∧ (decode cX5_look 113 = .ok (.iconst 0, 1)) := by decide +kernel
theorem dX5_look_95 : decode cX5_look 95 = .ok (.goto 4, 3) := dX5_look_95g.1
theorem dX5_look_98 : decode cX5_look 98 = .ok (.iconst 0, 1) := dX5_look_95g.2.1
theorem dX5_look_99 : decode cX5_look 99 = .ok (.istore 4, 2) := dX5_look_95g.2.2.1
theorem dX5_look_101 : decode cX5_look 101 = .ok (.aload_n 0, 1) := dX5_look_95g.2.2.2.1
theorem dX5_look_102 : decode cX5_look 102 = .ok (.getfield 30, 3) := dX5_look_95g.2.2.2.2.1
theorem dX5_look_105 : decode cX5_look 105 = .ok (.aload_n 0, 1) := dX5_look_95g.2.2.2.2.2.1
theorem dX5_look_106 : decode cX5_look 106 = .ok (.getfield 26, 3) := dX5_look_95g.2.2.2.2.2.2.1
theorem dX5_look_109 : decode cX5_look 109 = .ok (.getfield 58, 3) := dX5_look_95g.2.2.2.2.2.2.2.1
theorem dX5_look_112 : decode cX5_look 112 = .ok (.iload_n 2, 1) := dX5_look_95g.2.2.2.2.2.2.2.2.1
theorem dX5_look_113 : decode cX5_look 113 = .ok (.iconst 0, 1) := dX5_look_95g.2.2.2.2.2.2.2.2.2
theorem dX5_look_114g : (decode cX5_look 114 = .ok (.invokevirtual 70, 3)) ∧ (decode cX5_look 117 = .ok (.iload_n 3, 1)) ∧ (decode cX5_look 118 = .ok (.iconst 0, 1)) ∧ (decode cX5_look 119 = .ok (.invokevirtual 74, 3)) ∧ (decode cX5_look 122 = .ok (.pop, 1)) ∧ (decode cX5_look 123 = .ok (.aload_n 0, 1)) ∧ (decode cX5_look 124 = .ok (.iload_n 3, 1)) ∧ (decode cX5_look 125 = .ok (.iload 4, 2)) ∧ (decode cX5_look 127 = .ok (.ifCond .eq 9, 3)) ∧ (decode cX5_look 130 = .ok (.iconst 1, 1)) := by decide +kernel
theorem dX5_look_114 : decode cX5_look 114 = .ok (.invokevirtual 70, 3) := dX5_look_114g.1
theorem dX5_look_117 : decode cX5_look 117 = .ok (.iload_n 3, 1) := dX5_look_114g.2.1
theorem dX5_look_118 : decode cX5_look 118 = .ok (.iconst 0, 1) := dX5_look_114g.2.2.1
theorem dX5_look_119 : decode cX5_look 119 = .ok (.invokevirtual 74, 3) := dX5_look_114g.2.2.2.1
theorem dX5_look_122 : decode cX5_look 122 = .ok (.pop, 1) := dX5_look_114g.2.2.2.2.1
theorem dX5_look_123 : decode cX5_look 123 = .ok (.aload_n 0, 1) := dX5_look_114g.2.2.2.2.2.1
theorem dX5_look_124 : decode cX5_look 124 = .ok (.iload_n 3, 1) := dX5_look_114g.2.2.2.2.2.2.1
theorem dX5_look_125 : decode cX5_look 125 = .ok (.iload 4, 2) := dX5_look_114g.2.2.2.2.2.2.2.1
theorem dX5_look_127 : decode cX5_look 127 = .ok (.ifCond .eq 9, 3) := dX5_look_114g.2.2.2.2.2.2.2.2.1
theorem dX5_look_130 : decode cX5_look 130 = .ok (.iconst 1, 1) := dX5_look_114g.2.2.2.2.2.2.2.2.2
theorem dX5_look_131g : (decode cX5_look 131 = .ok (.iload_n 2, 1)) ∧ (decode cX5_look 132 = .ok (.ishl, 1)) ∧ (decode cX5_look 133 = .ok (.goto 6, 3)) ∧ (decode cX5_look 136 = .ok (.sipush 1024, 3)) ∧ (decode cX5_look 139 = .ok (.invokevirtual 80, 3)) ∧ (decode cX5_look 142 = .ok (.aload_n 0, 1)) ∧ (decode cX5_look 143 = .ok (.dup, 1)) ∧ (decode cX5_look 144 = .ok (.getfield 23, 3)) ∧ (decode cX5_look 147 = .ok (.iload 4, 2)) ∧ (decode cX5_look 149 = .ok (.ifCond .eq 9, 3)) := by decide +kernel
theorem dX5_look_131 : decode cX5_look 131 = .ok (.iload_n 2, 1) := dX5_look_131g.1
theorem dX5_look_132 : decode cX5_look 132 = .ok (.ishl, 1) := dX5_look_131g.2.1
theorem dX5_look_133 : decode cX5_look 133 = .ok (.goto 6, 3) := dX5_look_131g.2.2.1
theorem dX5_look_136 : decode cX5_look 136 = .ok (.sipush 1024, 3) := dX5_look_131g.2.2.2.1
theorem dX5_look_139 : decode cX5_look 139 = .ok (.invokevirtual 80, 3) := dX5_look_131g.2.2.2.2.1
theorem dX5_look_142 : decode cX5_look 142 = .ok (.aload_n 0, 1) := dX5_look_131g.2.2.2.2.2.1
theorem dX5_look_143 : decode cX5_look 143 = .ok (.dup, 1) := dX5_look_131g.2.2.2.2.2.2.1
theorem dX5_look_144 : decode cX5_look 144 = .ok (.getfield 23, 3) := dX5_look_131g.2.2.2.2.2.2.2.1
theorem dX5_look_147 : decode cX5_look 147 = .ok (.iload 4, 2) := dX5_look_131g.2.2.2.2.2.2.2.2.1
theorem dX5_look_149 : decode cX5_look 149 = .ok (.ifCond .eq 9, 3) := dX5_look_131g.2.2.2.2.2.2.2.2.2
theorem dX5_look_152g : (decode cX5_look 152 = .ok (.iconst 1, 1)) ∧ (decode cX5_look 153 = .ok (.iload_n 2, 1)) ∧ (decode cX5_look 154 = .ok (.ishl, 1)) ∧ (decode cX5_look 155 = .ok (.goto 4, 3)) ∧ (decode cX5_look 158 = .ok (.iconst 0, 1)) ∧ (decode cX5_look 159 = .ok (.ior, 1)) ∧ (decode cX5_look 160 = .ok (.putfield 23, 3)) ∧ (decode cX5_look 163 = .ok (.iinc 2 1, 3)) ∧ (decode cX5_look 166 = .ok (.goto (-137), 3)) ∧ (decode cX5_look 169 = .ok (.return_, 1)) := by decide +kernel
theorem dX5_look_152 : decode cX5_look 152 = .ok (.iconst 1, 1) := dX5_look_152g.1
theorem dX5_look_153 : decode cX5_look 153 = .ok (.iload_n 2, 1) := dX5_look_152g.2.1
theorem dX5_look_154 : decode cX5_look 154 = .ok (.ishl, 1) := dX5_look_152g.2.2.1
theorem dX5_look_155 : decode cX5_look 155 = .ok (.goto 4, 3) := dX5_look_152g.2.2.2.1
theorem dX5_look_158 : decode cX5_look 158 = .ok (.iconst 0, 1) := dX5_look_152g.2.2.2.2.1
theorem dX5_look_159 : decode cX5_look 159 = .ok (.ior, 1) := dX5_look_152g.2.2.2.2.2.1
theorem dX5_look_160 : decode cX5_look 160 = .ok (.putfield 23, 3) := dX5_look_152g.2.2.2.2.2.2.1
theorem dX5_look_163 : decode cX5_look 163 = .ok (.iinc 2 1, 3) := dX5_look_152g.2.2.2.2.2.2.2.1
theorem dX5_look_166 : decode cX5_look 166 = .ok (.goto (-137), 3) := dX5_look_152g.2.2.2.2.2.2.2.2.1
theorem dX5_look_169 : decode cX5_look 169 = .ok (.return_, 1) := dX5_look_152g.2.2.2.2.2.2.2.2.2
set_option maxHeartbeats 4000000 in
set_option maxRecDepth 100000 in
theorem c_X5_look (l : Launch) (E : Nat → Nat) (D : va_G) (G : th_G) (h0 : Nat) (hG0 : G h0 = some (12, 0)) (x1 : Int32) : Met l yX5_look (tb (.code yX5_look cX5_look 5 none)) (rm 6) (va_Pc [.ref h0, .int x1] (th_P E D G)) (QV E D G) 0 0 (th_A G) := by
  refine Met.ofW (cc := cX5_look) (maxL := 5) (ret := none) (by decide) rfl ?_
  intro p e s m args below meth c s₁ B hml hv
  obtain ⟨hav, hI, hN, hK⟩ := hv
  have hx := B.exec
  have hb := B.bytes
  have hr := B.returns
  have hts := atoms_spec (ws := tb (.code yX5_look cX5_look 5 none)) B.pre
  have hown : s.vm.findClass RX5 = some m.cls := findClass_of_methodNamed B.named
  have hlocks := B.notSynchronized
  have hS : va_S (th_A G) s.heap s.heap [] := va_S.rf
  have hl := lv_entry ([.ref h0, .int x1]) (n := 5) (Nat.le_of_ble_eq_true rfl)
  rw [show entryFrame m args 5 = entryFrame m ([.ref h0, .int x1] : List Value).toArray 5 from by rw [hav], lg_entry_eq]
  generalize (lg_sl ([.ref h0, .int x1]) ++ List.replicate (5 - (lg_sl ([.ref h0, .int x1])).length) Slot.unset).toArray = ls at hl ⊢
  have hl : lv_has ls 5 [(0, .ref h0), (1, .int x1)] := hl
  generalize hR : (headSpec (tb (.code yX5_look cX5_look 5 none)) (rm 6)).room = R
  have hR := hR.symm
  generalize hQ : MQ below (QV E D G) args s 0 0 (th_A G) = QF
  have hQ := hQ.symm
  have J_29 : ∀ (nn : Nat) (H : Heap) (locs : List Loc) (ls : Array Slot) (v4311 : Int32), (Int.toNat (10 - v4311.toInt) = nn) → lv_has ls 5 [(2, .int v4311), (0, .ref h0), (1, .int x1)] → ((0 : Int) ≤ v4311.toInt ∧ v4311.toInt ≤ 10) → th_I (okC E) D G [] H → va_S (th_A G) s.heap H locs → W p l e R s m args below meth c H locs 0 0 QF (F0 m 29 ls []) := by
    intro nn
    induction nn using Nat.strongRecOn with
    | ind nn ih_29 =>
      intro H locs ls v4311 hm hl k4312 hI hS
      have J_139 : ∀ (H : Heap) (locs : List Loc) (ls : Array Slot) (v4313 : Int32) (v4314 : Int32) (v4316 : Int32) (v4317 : Int32), lv_has ls 5 [(4, .int v4313), (3, .int v4314), (2, .int v4311), (0, .ref h0), (1, .int x1)] → ((0 : Int) ≤ v4313.toInt ∧ v4313.toInt ≤ 1) → ((0 : Int) ≤ v4311.toInt ∧ v4311.toInt ≤ 9) → th_I (okC E) D G [] H → va_S (th_A G) s.heap H locs → W p l e R s m args below meth c H locs 0 0 QF (F0 m 139 ls [.int v4316, .int v4317, .ref h0]) := by
        intro H locs ls v4313 v4314 v4316 v4317 hl k4318 k4319 hI hS
        refine th_cVv (As := [.int v4317, .int v4316]) (rest := []) (n := 2) (d := 2) ⟨hx, hb, hml, hown, hts⟩ (c_X5_mark l E D G h0 hG0 v4317 v4316) wd_1007 wd_1009 wp_29 wd_10 wd_1010 (by decide +kernel) ⟨by rw [hR]; exact Nat.le_of_ble_eq_true rfl, by rw [hR]; exact Nat.le_of_ble_eq_true rfl⟩ hI hN hK hS (rc_12 hI hG0 List.not_mem_nil) rfl rfl hl.1 rfl (Nat.le_of_ble_eq_true rfl) dX5_look_139 ⟨Nat.zero_le _, Nat.zero_le _⟩ (fun H locs hI hS => ?_)
        refine lv_aload_n hx hb dX5_look_142 rfl (lv_at hl 3 rfl) ?_
        refine lv_dup hx hb dX5_look_143 rfl ?_
        obtain ⟨a4321, a4323, a4325, a4327, w4329, w4330, hO, hq4322, hq4324, hq4326, hq4328⟩ := op_12 hI hG0 List.not_mem_nil
        have hI := th_I.weak (a := h0) hI
        refine th_get hx hb hts inT5 hown hK hO rfl 5 (by decide) (hts _ (tb_c wd_281)) rfl rfl dX5_look_144 ?_
        refine lv_iload hx hb dX5_look_147 (lv_at hl 0 rfl) ?_
        refine lv_if_eq (tgt := 158) hx hb dX5_look_149 (by decide) (fun c4331 => ?_) (fun c4331 => ?_)
        · skip
          have k4332 := iv_eq (X := v4313.toInt) (Y := (0)) rfl (by decide) c4331
          refine lv_iconst (v := 0) hx hb dX5_look_158 (by decide) ?_
          refine lv_ior hx hb dX5_look_159 ?_
          refine lv_topi (fun v4333 e4334 => ?_)
          refine th_put (ty := .int) hx hb hts inT5 tyX5 tyX5_ok nmX5 hown hK hO hS ⟨_, hG0⟩ rfl 5 (by decide) (hts _ (tb_c wd_281)) rfl rfl (by decide +kernel) rfl rfl (Nat.le_of_ble_eq_true rfl) dX5_look_160 (fun H locs hO oq hS => ?_)
          have hI := th_I.moved hI oq
          have hO : va_at D vwCl (h0, .inr (5, [.ref a4321, .ref a4323, .ref a4325, .ref a4327, .int w4329, .int v4333])) H := hO
          obtain ⟨v4335, e4336⟩ : ∃ y : Int32, y = v4311 + (1) := ⟨_, rfl⟩
          have tv4335 : v4335.toInt = v4311.toInt + (1) := iv_add rfl (by decide) e4336 (by omega) (by omega)
          refine lv_iinc (v := v4335) (lv' := [(2, .int v4335), (4, .int v4313), (3, .int v4314), (0, .ref h0), (1, .int x1)]) hx hb dX5_look_163 hl (k := 2) rfl (by rw [e4336]; rfl) (by decide) rfl (fun ls hl => ?_)
          refine lv_goto (tgt := 29) hx hb dX5_look_166 (by decide) ?_
          have hI := th_I.close hI hG0 hO (ok_12 hq4322 hq4324 hq4326 hq4328)
          exact ih_29 _ (by omega) H locs ls v4335 rfl (lv_sub hl [0, 3, 4] rfl) ⟨by omega, by omega⟩ hI hS
        · skip
          have k4337 := iv_ne (X := v4313.toInt) (Y := (0)) rfl (by decide) c4331
          refine lv_iconst (v := 1) hx hb dX5_look_152 (by decide) ?_
          refine lv_iload_n hx hb dX5_look_153 rfl (lv_at hl 2 rfl) ?_
          refine lv_ishl hx hb dX5_look_154 ?_
          refine lv_topi (fun v4338 e4339 => ?_)
          refine lv_goto (tgt := 159) hx hb dX5_look_155 (by decide) ?_
          refine lv_ior hx hb dX5_look_159 ?_
          refine lv_topi (fun v4340 e4341 => ?_)
          refine th_put (ty := .int) hx hb hts inT5 tyX5 tyX5_ok nmX5 hown hK hO hS ⟨_, hG0⟩ rfl 5 (by decide) (hts _ (tb_c wd_281)) rfl rfl (by decide +kernel) rfl rfl (Nat.le_of_ble_eq_true rfl) dX5_look_160 (fun H locs hO oq hS => ?_)
          have hI := th_I.moved hI oq
          have hO : va_at D vwCl (h0, .inr (5, [.ref a4321, .ref a4323, .ref a4325, .ref a4327, .int w4329, .int v4340])) H := hO
          obtain ⟨v4342, e4343⟩ : ∃ y : Int32, y = v4311 + (1) := ⟨_, rfl⟩
          have tv4342 : v4342.toInt = v4311.toInt + (1) := iv_add rfl (by decide) e4343 (by omega) (by omega)
          refine lv_iinc (v := v4342) (lv' := [(2, .int v4342), (4, .int v4313), (3, .int v4314), (0, .ref h0), (1, .int x1)]) hx hb dX5_look_163 hl (k := 2) rfl (by rw [e4343]; rfl) (by decide) rfl (fun ls hl => ?_)
          refine lv_goto (tgt := 29) hx hb dX5_look_166 (by decide) ?_
          have hI := th_I.close hI hG0 hO (ok_12 hq4322 hq4324 hq4326 hq4328)
          exact ih_29 _ (by omega) H locs ls v4342 rfl (lv_sub hl [0, 3, 4] rfl) ⟨by omega, by omega⟩ hI hS
      have J_99 : ∀ (H : Heap) (locs : List Loc) (ls : Array Slot) (v4344 : Int32) (v4346 : Int32), lv_has ls 5 [(3, .int v4344), (2, .int v4311), (0, .ref h0), (1, .int x1)] → ((0 : Int) ≤ v4311.toInt ∧ v4311.toInt ≤ 9) → ((0 : Int) ≤ v4346.toInt ∧ v4346.toInt ≤ 1) → th_I (okC E) D G [] H → va_S (th_A G) s.heap H locs → W p l e R s m args below meth c H locs 0 0 QF (F0 m 99 ls [.int v4346]) := by
        intro H locs ls v4344 v4346 hl k4347 k4348 hI hS
        refine lv_istore (lv' := [(4, .int v4346), (3, .int v4344), (2, .int v4311), (0, .ref h0), (1, .int x1)]) hx hb dX5_look_99 hl (by decide) rfl (fun ls hl => ?_)
        refine lv_aload_n hx hb dX5_look_101 rfl (lv_at hl 3 rfl) ?_
        obtain ⟨a4349, a4351, a4353, a4355, w4357, w4358, hO, hq4350, hq4352, hq4354, hq4356⟩ := op_12 hI hG0 List.not_mem_nil
        have hI := th_I.weak (a := h0) hI
        refine th_get hx hb hts inT5 hown hK hO rfl 1 (by decide) (hts _ (tb_c wd_277)) rfl rfl dX5_look_102 ?_
        refine lv_aload_n hx hb dX5_look_105 rfl (lv_at hl 3 rfl) ?_
        refine th_get hx hb hts inT5 hown hK hO rfl 0 (by decide) (hts _ (tb_c wd_276)) rfl rfl dX5_look_106 ?_
        have hI := th_I.close hI hG0 hO (ok_12 hq4350 hq4352 hq4354 hq4356)
        obtain ⟨a4359, a4361, a4363, a4365, a4367, a4369, a4371, a4373, a4375, a4377, w4379, w4382, w4383, w4384, hO, hq4360, hq4362, hq4364, hq4366, hq4368, hq4370, hq4372, hq4374, hq4376, hq4378, ⟨k4380, k4381⟩, k4385⟩ := op_6 hI hq4350 List.not_mem_nil
        have hI := th_I.weak (a := a4349) hI
        refine th_getN hx hb hts inT6 hown hK hN hO rfl 6 (by decide) wn_73 rfl rfl dX5_look_109 ?_
        refine lv_iload_n hx hb dX5_look_112 rfl (lv_at hl 2 rfl) ?_
        refine lv_iconst (v := 0) hx hb dX5_look_113 (by decide) ?_
        have hI := th_I.close hI hq4350 hO (ok_6 hq4360 hq4362 hq4364 hq4366 hq4368 hq4370 hq4372 hq4374 hq4376 hq4378 ⟨by omega, by omega⟩ k4385)
        refine th_cVi (As := [.int v4311, .int 0]) (rest := [.ref a4351]) (n := 2) (d := 0) ⟨hx, hb, hml, hown, hts⟩ (c_X4_at l E D G a4371 (42) hq4372 v4311 0) wd_1005 wd_519 wd_520 wd_3 wd_521 (by decide +kernel) ⟨by rw [hR]; exact Nat.le_of_ble_eq_true rfl, by rw [hR]; exact Nat.le_of_ble_eq_true rfl⟩ hI hN hK hS (rc_4 hI hq4372 List.not_mem_nil) rfl rfl hl.1 rfl (Nat.le_of_ble_eq_true rfl) dX5_look_114 ⟨Nat.zero_le _, Nat.zero_le _⟩ (fun r4386 H locs hp hI hS => ?_)
        refine lv_iload_n hx hb dX5_look_117 rfl (lv_at hl 1 rfl) ?_
        refine lv_iconst (v := 0) hx hb dX5_look_118 (by decide) ?_
        refine th_cVi (As := [.int r4386, .int v4344, .int 0]) (rest := []) (n := 3) (d := 5) ⟨hx, hb, hml, hown, hts⟩ (c_X9_traceBack l E D G a4351 hq4352 r4386 v4344 0) wd_1006 wd_851 wd_852 wd_8 wd_853 (by decide +kernel) ⟨by rw [hR]; exact Nat.le_of_ble_eq_true rfl, by rw [hR]; exact Nat.le_of_ble_eq_true rfl⟩ hI hN hK hS (rc_10 hI hq4352 List.not_mem_nil) rfl rfl hl.1 rfl (Nat.le_of_ble_eq_true rfl) dX5_look_119 ⟨Nat.zero_le _, Nat.zero_le _⟩ (fun r4387 H locs hp hI hS => ?_)
        refine lv_pop hx hb dX5_look_122 rfl ?_
        refine lv_aload_n hx hb dX5_look_123 rfl (lv_at hl 3 rfl) ?_
        refine lv_iload_n hx hb dX5_look_124 rfl (lv_at hl 1 rfl) ?_
        refine lv_iload hx hb dX5_look_125 (lv_at hl 0 rfl) ?_
        refine lv_if_eq (tgt := 136) hx hb dX5_look_127 (by decide) (fun c4388 => ?_) (fun c4388 => ?_)
        · skip
          have k4389 := iv_eq (X := v4346.toInt) (Y := (0)) rfl (by decide) c4388
          refine lv_sipush (v := 1024) hx hb dX5_look_136 (by decide) ?_
          exact J_139 H locs ls v4346 v4344 1024 v4344 (lv_sub hl [0, 1, 2, 3, 4] rfl) ⟨by omega, by omega⟩ ⟨by omega, by omega⟩ hI hS
        · skip
          have k4390 := iv_ne (X := v4346.toInt) (Y := (0)) rfl (by decide) c4388
          refine lv_iconst (v := 1) hx hb dX5_look_130 (by decide) ?_
          refine lv_iload_n hx hb dX5_look_131 rfl (lv_at hl 2 rfl) ?_
          refine lv_ishl hx hb dX5_look_132 ?_
          refine lv_topi (fun v4391 e4392 => ?_)
          refine lv_goto (tgt := 139) hx hb dX5_look_133 (by decide) ?_
          exact J_139 H locs ls v4346 v4344 v4391 v4344 (lv_sub hl [0, 1, 2, 3, 4] rfl) ⟨by omega, by omega⟩ ⟨by omega, by omega⟩ hI hS
      refine lv_iload_n hx hb dX5_look_29 rfl (lv_at hl 0 rfl) ?_
      refine lv_aload_n hx hb dX5_look_30 rfl (lv_at hl 1 rfl) ?_
      obtain ⟨a4393, a4395, a4397, a4399, w4401, w4402, hO, hq4394, hq4396, hq4398, hq4400⟩ := op_12 hI hG0 List.not_mem_nil
      have hI := th_I.weak (a := h0) hI
      refine th_get hx hb hts inT5 hown hK hO rfl 0 (by decide) (hts _ (tb_c wd_276)) rfl rfl dX5_look_31 ?_
      have hI := th_I.close hI hG0 hO (ok_12 hq4394 hq4396 hq4398 hq4400)
      obtain ⟨a4403, a4405, a4407, a4409, a4411, a4413, a4415, a4417, a4419, a4421, w4423, w4426, w4427, w4428, hO, hq4404, hq4406, hq4408, hq4410, hq4412, hq4414, hq4416, hq4418, hq4420, hq4422, ⟨k4424, k4425⟩, k4429⟩ := op_6 hI hq4394 List.not_mem_nil
      have hI := th_I.weak (a := a4393) hI
      refine th_getN hx hb hts inT6 hown hK hN hO rfl 6 (by decide) wn_73 rfl rfl dX5_look_34 ?_
      have hI := th_I.close hI hq4394 hO (ok_6 hq4404 hq4406 hq4408 hq4410 hq4412 hq4414 hq4416 hq4418 hq4420 hq4422 ⟨by omega, by omega⟩ k4429)
      obtain ⟨a4431, w4433, hO, hq4432, ⟨k4434, k4435⟩, k4436⟩ := op_4 hI hq4416 List.not_mem_nil
      have hI := th_I.weak (a := a4415) hI
      have k4437 : (nI (42 % 32)).toInt = ((42 % 32 : Nat) : Int) := nI_toInt (by omega)
      have k4438 := k4436.1
      refine th_cVs (As := []) (rest := [.int v4311]) (n := 0) (d := 0) ⟨hx, hb, hml, hown, hts⟩ (c_X4_size l E D H a4415 (42 % 32) a4431 w4433 hO (by omega) (by omega) (by omega)) wd_1004 wd_507 wd_508 wd_3 wd_509 (by decide +kernel) ⟨by rw [hR]; exact Nat.le_of_ble_eq_true rfl, by rw [hR]; exact Nat.le_of_ble_eq_true rfl⟩ hN hK hS ⟨_, hO⟩ rfl rfl hl.1 rfl (Nat.le_of_ble_eq_true rfl) dX5_look_37 ⟨Nat.zero_le _, Nat.zero_le _⟩ (fun r4430 locs hp hS => ?_)
      have hp := hp.symm
      subst hp
      refine lv_icmp_ge (tgt := 169) hx hb dX5_look_40 (by decide) (fun c4439 => ?_) (fun c4439 => ?_)
      · skip
        have k4440 := iv_le (X := w4433.toInt) (Y := v4311.toInt) rfl rfl c4439
        have hI := th_I.close hI hq4416 hO (ok_4 hq4432 ⟨by omega, by omega⟩ k4436)
        rw [hQ]
        exact W.vret hx hb hr (fun t ht hW => ⟨⟨(), rfl, trivial, by rw [ht]; exact hI, hN.warm hW, va_K.moved hW.alike hK⟩, hS.F ht⟩) hS.2.2 dX5_look_169
      · skip
        have k4441 := iv_nle (X := w4433.toInt) (Y := v4311.toInt) rfl rfl c4439
        refine lv_iload_n hx hb dX5_look_43 rfl (lv_at hl 0 rfl) ?_
        refine lv_bipush (v := 10) hx hb dX5_look_44 (by decide) ?_
        refine lv_icmp_ge (tgt := 169) hx hb dX5_look_46 (by decide) (fun c4442 => ?_) (fun c4442 => ?_)
        · skip
          have k4443 := iv_le (X := (10)) (Y := v4311.toInt) (by decide) rfl c4442
          exfalso; omega
        · skip
          have k4444 := iv_nle (X := (10)) (Y := v4311.toInt) (by decide) rfl c4442
          refine lv_aload_n hx hb dX5_look_49 rfl (lv_at hl 1 rfl) ?_
          have hI := th_I.close hI hq4416 hO (ok_4 hq4432 ⟨by omega, by omega⟩ k4436)
          obtain ⟨a4445, a4447, a4449, a4451, w4453, w4454, hO, hq4446, hq4448, hq4450, hq4452⟩ := op_12 hI hG0 List.not_mem_nil
          have hI := th_I.weak (a := h0) hI
          refine th_get hx hb hts inT5 hown hK hO rfl 0 (by decide) (hts _ (tb_c wd_276)) rfl rfl dX5_look_50 ?_
          have hI := th_I.close hI hG0 hO (ok_12 hq4446 hq4448 hq4450 hq4452)
          obtain ⟨a4455, a4457, a4459, a4461, a4463, a4465, a4467, a4469, a4471, a4473, w4475, w4478, w4479, w4480, hO, hq4456, hq4458, hq4460, hq4462, hq4464, hq4466, hq4468, hq4470, hq4472, hq4474, ⟨k4476, k4477⟩, k4481⟩ := op_6 hI hq4446 List.not_mem_nil
          have hI := th_I.weak (a := a4445) hI
          refine th_getN hx hb hts inT6 hown hK hN hO rfl 6 (by decide) wn_73 rfl rfl dX5_look_53 ?_
          refine lv_iload_n hx hb dX5_look_56 rfl (lv_at hl 0 rfl) ?_
          refine lv_iconst (v := 2) hx hb dX5_look_57 (by decide) ?_
          have hI := th_I.close hI hq4446 hO (ok_6 hq4456 hq4458 hq4460 hq4462 hq4464 hq4466 hq4468 hq4470 hq4472 hq4474 ⟨by omega, by omega⟩ k4481)
          refine th_cVi (As := [.int v4311, .int 2]) (rest := []) (n := 2) (d := 0) ⟨hx, hb, hml, hown, hts⟩ (c_X4_at l E D G a4467 (42) hq4468 v4311 2) wd_1005 wd_519 wd_520 wd_3 wd_521 (by decide +kernel) ⟨by rw [hR]; exact Nat.le_of_ble_eq_true rfl, by rw [hR]; exact Nat.le_of_ble_eq_true rfl⟩ hI hN hK hS (rc_4 hI hq4468 List.not_mem_nil) rfl rfl hl.1 rfl (Nat.le_of_ble_eq_true rfl) dX5_look_58 ⟨Nat.zero_le _, Nat.zero_le _⟩ (fun r4482 H locs hp hI hS => ?_)
          refine lv_iload_n hx hb dX5_look_61 rfl (lv_at hl 2 rfl) ?_
          have k4483 := iv_lo r4482
          have k4484 := iv_hi r4482
          have k4485 := iv_lo x1
          have k4486 := iv_hi x1
          refine lv_icmp_ne (tgt := 163) hx hb dX5_look_62 (by decide) (fun c4487 => ?_) (fun c4487 => ?_)
          · skip
            have k4488 := iv_ne (X := r4482.toInt) (Y := x1.toInt) rfl rfl c4487
            obtain ⟨v4489, e4490⟩ : ∃ y : Int32, y = v4311 + (1) := ⟨_, rfl⟩
            have tv4489 : v4489.toInt = v4311.toInt + (1) := iv_add rfl (by decide) e4490 (by omega) (by omega)
            refine lv_iinc (v := v4489) (lv' := [(2, .int v4489), (0, .ref h0), (1, .int x1)]) hx hb dX5_look_163 hl (k := 0) rfl (by rw [e4490]; rfl) (by decide) rfl (fun ls hl => ?_)
            refine lv_goto (tgt := 29) hx hb dX5_look_166 (by decide) ?_
            exact ih_29 _ (by omega) H locs ls v4489 rfl (lv_sub hl [0, 1, 2] rfl) ⟨by omega, by omega⟩ hI hS
          · skip
            have k4491 := iv_eq (X := r4482.toInt) (Y := x1.toInt) rfl rfl c4487
            refine lv_aload_n hx hb dX5_look_65 rfl (lv_at hl 1 rfl) ?_
            obtain ⟨a4492, a4494, a4496, a4498, w4500, w4501, hO, hq4493, hq4495, hq4497, hq4499⟩ := op_12 hI hG0 List.not_mem_nil
            have hI := th_I.weak (a := h0) hI
            refine th_get hx hb hts inT5 hown hK hO rfl 0 (by decide) (hts _ (tb_c wd_276)) rfl rfl dX5_look_66 ?_
            have hI := th_I.close hI hG0 hO (ok_12 hq4493 hq4495 hq4497 hq4499)
            obtain ⟨a4502, a4504, a4506, a4508, a4510, a4512, a4514, a4516, a4518, a4520, w4522, w4525, w4526, w4527, hO, hq4503, hq4505, hq4507, hq4509, hq4511, hq4513, hq4515, hq4517, hq4519, hq4521, ⟨k4523, k4524⟩, k4528⟩ := op_6 hI hq4493 List.not_mem_nil
            have hI := th_I.weak (a := a4492) hI
            refine th_getN hx hb hts inT6 hown hK hN hO rfl 6 (by decide) wn_73 rfl rfl dX5_look_69 ?_
            refine lv_iload_n hx hb dX5_look_72 rfl (lv_at hl 0 rfl) ?_
            refine lv_iconst (v := 1) hx hb dX5_look_73 (by decide) ?_
            have hI := th_I.close hI hq4493 hO (ok_6 hq4503 hq4505 hq4507 hq4509 hq4511 hq4513 hq4515 hq4517 hq4519 hq4521 ⟨by omega, by omega⟩ k4528)
            refine th_cVi (As := [.int v4311, .int 1]) (rest := []) (n := 2) (d := 0) ⟨hx, hb, hml, hown, hts⟩ (c_X4_at l E D G a4514 (42) hq4515 v4311 1) wd_1005 wd_519 wd_520 wd_3 wd_521 (by decide +kernel) ⟨by rw [hR]; exact Nat.le_of_ble_eq_true rfl, by rw [hR]; exact Nat.le_of_ble_eq_true rfl⟩ hI hN hK hS (rc_4 hI hq4515 List.not_mem_nil) rfl rfl hl.1 rfl (Nat.le_of_ble_eq_true rfl) dX5_look_74 ⟨Nat.zero_le _, Nat.zero_le _⟩ (fun r4529 H locs hp hI hS => ?_)
            refine lv_istore_n (lv' := [(3, .int r4529), (2, .int v4311), (0, .ref h0), (1, .int x1)]) hx hb dX5_look_77 rfl hl (by decide) rfl (fun ls hl => ?_)
            refine lv_aload_n hx hb dX5_look_78 rfl (lv_at hl 2 rfl) ?_
            obtain ⟨a4530, a4532, a4534, a4536, w4538, w4539, hO, hq4531, hq4533, hq4535, hq4537⟩ := op_12 hI hG0 List.not_mem_nil
            have hI := th_I.weak (a := h0) hI
            refine th_get hx hb hts inT5 hown hK hO rfl 0 (by decide) (hts _ (tb_c wd_276)) rfl rfl dX5_look_79 ?_
            have hI := th_I.close hI hG0 hO (ok_12 hq4531 hq4533 hq4535 hq4537)
            obtain ⟨a4540, a4542, a4544, a4546, a4548, a4550, a4552, a4554, a4556, a4558, w4560, w4563, w4564, w4565, hO, hq4541, hq4543, hq4545, hq4547, hq4549, hq4551, hq4553, hq4555, hq4557, hq4559, ⟨k4561, k4562⟩, k4566⟩ := op_6 hI hq4531 List.not_mem_nil
            have hI := th_I.weak (a := a4530) hI
            refine th_getN hx hb hts inT6 hown hK hN hO rfl 6 (by decide) wn_73 rfl rfl dX5_look_82 ?_
            refine lv_iload_n hx hb dX5_look_85 rfl (lv_at hl 1 rfl) ?_
            refine lv_iconst (v := 3) hx hb dX5_look_86 (by decide) ?_
            have hI := th_I.close hI hq4531 hO (ok_6 hq4541 hq4543 hq4545 hq4547 hq4549 hq4551 hq4553 hq4555 hq4557 hq4559 ⟨by omega, by omega⟩ k4566)
            refine th_cVi (As := [.int v4311, .int 3]) (rest := []) (n := 2) (d := 0) ⟨hx, hb, hml, hown, hts⟩ (c_X4_at l E D G a4552 (42) hq4553 v4311 3) wd_1005 wd_519 wd_520 wd_3 wd_521 (by decide +kernel) ⟨by rw [hR]; exact Nat.le_of_ble_eq_true rfl, by rw [hR]; exact Nat.le_of_ble_eq_true rfl⟩ hI hN hK hS (rc_4 hI hq4553 List.not_mem_nil) rfl rfl hl.1 rfl (Nat.le_of_ble_eq_true rfl) dX5_look_87 ⟨Nat.zero_le _, Nat.zero_le _⟩ (fun r4567 H locs hp hI hS => ?_)
            refine lv_iconst (v := 1) hx hb dX5_look_90 (by decide) ?_
            have k4568 := iv_lo r4567
            have k4569 := iv_hi r4567
            refine lv_icmp_ne (tgt := 98) hx hb dX5_look_91 (by decide) (fun c4570 => ?_) (fun c4570 => ?_)
            · skip
              have k4571 := iv_ne (X := r4567.toInt) (Y := (1)) rfl (by decide) c4570
              refine lv_iconst (v := 0) hx hb dX5_look_98 (by decide) ?_
              exact J_99 H locs ls r4529 0 (lv_sub hl [0, 1, 2, 3] rfl) ⟨by omega, by omega⟩ ⟨by decide, by decide⟩ hI hS
            · skip
              have k4572 := iv_eq (X := r4567.toInt) (Y := (1)) rfl (by decide) c4570
              refine lv_iconst (v := 1) hx hb dX5_look_94 (by decide) ?_
              refine lv_goto (tgt := 99) hx hb dX5_look_95 (by decide) ?_
              exact J_99 H locs ls r4529 1 (lv_sub hl [0, 1, 2, 3] rfl) ⟨by omega, by omega⟩ ⟨by decide, by decide⟩ hI hS
  refine lv_aload_n hx hb dX5_look_0 rfl (lv_at hl 0 rfl) ?_
  obtain ⟨a4573, a4575, a4577, a4579, w4581, w4582, hO, hq4574, hq4576, hq4578, hq4580⟩ := op_12 hI hG0 List.not_mem_nil
  have hI := th_I.weak (a := h0) hI
  refine th_get hx hb hts inT5 hown hK hO rfl 4 (by decide) (hts _ (tb_c wd_280)) rfl rfl dX5_look_1 ?_
  refine lv_iload_n hx hb dX5_look_4 rfl (lv_at hl 1 rfl) ?_
  have k4583 := iv_lo w4581
  have k4584 := iv_hi w4581
  have k4585 := iv_lo x1
  have k4586 := iv_hi x1
  refine lv_icmp_ne (tgt := 9) hx hb dX5_look_5 (by decide) (fun c4587 => ?_) (fun c4587 => ?_)
  · skip
    have k4588 := iv_ne (X := w4581.toInt) (Y := x1.toInt) rfl rfl c4587
    refine lv_aload_n hx hb dX5_look_9 rfl (lv_at hl 0 rfl) ?_
    refine lv_iload_n hx hb dX5_look_10 rfl (lv_at hl 1 rfl) ?_
    refine th_put (ty := .int) hx hb hts inT5 tyX5 tyX5_ok nmX5 hown hK hO hS ⟨_, hG0⟩ rfl 4 (by decide) (hts _ (tb_c wd_280)) rfl rfl (by decide +kernel) rfl rfl (Nat.le_of_ble_eq_true rfl) dX5_look_11 (fun H locs hO oq hS => ?_)
    have hI := th_I.moved hI oq
    have hO : va_at D vwCl (h0, .inr (5, [.ref a4573, .ref a4575, .ref a4577, .ref a4579, .int x1, .int w4582])) H := hO
    refine lv_aload_n hx hb dX5_look_14 rfl (lv_at hl 0 rfl) ?_
    refine lv_iconst (v := 0) hx hb dX5_look_15 (by decide) ?_
    refine th_put (ty := .int) hx hb hts inT5 tyX5 tyX5_ok nmX5 hown hK hO hS ⟨_, hG0⟩ rfl 5 (by decide) (hts _ (tb_c wd_281)) rfl rfl (by decide +kernel) rfl rfl (Nat.le_of_ble_eq_true rfl) dX5_look_16 (fun H locs hO oq hS => ?_)
    have hI := th_I.moved hI oq
    have hO : va_at D vwCl (h0, .inr (5, [.ref a4573, .ref a4575, .ref a4577, .ref a4579, .int x1, .int 0])) H := hO
    refine lv_aload_n hx hb dX5_look_19 rfl (lv_at hl 0 rfl) ?_
    refine th_get hx hb hts inT5 hown hK hO rfl 2 (by decide) (hts _ (tb_c wd_278)) rfl rfl dX5_look_20 ?_
    refine lv_iconst (v := 0) hx hb dX5_look_23 (by decide) ?_
    have hI := th_I.close hI hG0 hO (ok_12 hq4574 hq4576 hq4578 hq4580)
    refine th_cSv (As := [.ref a4577, .int 0]) (rest := []) (n := 2) (d := 0) ⟨hx, hb, hml, hown, hts⟩ (c_J7_fill_53178 l E D G a4577 (2304) hq4578 (by omega) 0) wd_1003 wd_541 wd_15 wd_542 (by decide +kernel) ⟨by rw [hR]; exact Nat.le_of_ble_eq_true rfl, by rw [hR]; exact Nat.le_of_ble_eq_true rfl⟩ hI hN hK hS rfl hl.1 rfl (Nat.le_of_ble_eq_true rfl) dX5_look_24 ⟨Nat.zero_le _, Nat.zero_le _⟩ (fun H locs hI hS => ?_)
    refine lv_iconst (v := 0) hx hb dX5_look_27 (by decide) ?_
    refine lv_istore_n (lv' := [(2, .int 0), (0, .ref h0), (1, .int x1)]) hx hb dX5_look_28 rfl hl (by decide) rfl (fun ls hl => ?_)
    have zl : (0 : Int32).toInt = 0 := by decide
    exact J_29 _ H locs ls 0 rfl (lv_sub hl [0, 1, 2] rfl) ⟨by decide, by decide⟩ hI hS
  · skip
    have k4590 := iv_eq (X := w4581.toInt) (Y := x1.toInt) rfl rfl c4587
    have hI := th_I.close hI hG0 hO (ok_12 hq4574 hq4576 hq4578 hq4580)
    rw [hQ]
    exact W.vret hx hb hr (fun t ht hW => ⟨⟨(), rfl, trivial, by rw [ht]; exact hI, hN.warm hW, va_K.moved hW.alike hK⟩, hS.F ht⟩) hS.2.2 dX5_look_8
theorem dX5_countAlone_0g : (decode cX5_countAlone 0 = .ok (.aload_n 0, 1)) ∧ (decode cX5_countAlone 1 = .ok (.iload_n 1, 1)) ∧ (decode cX5_countAlone 2 = .ok (.invokevirtual 34, 3)) ∧ (decode cX5_countAlone 5 = .ok (.iconst 0, 1)) ∧ (decode cX5_countAlone 6 = .ok (.istore_n 2, 1)) ∧ (decode cX5_countAlone 7 = .ok (.aload_n 0, 1)) ∧ (decode cX5_countAlone 8 = .ok (.getfield 11, 3)) ∧ (decode cX5_countAlone 11 = .ok (.astore_n 3, 1)) ∧ (decode cX5_countAlone 12 = .ok (.aload_n 3, 1)) ∧ (decode cX5_countAlone 13 = .ok (.arraylength, 1)) := by decide +kernel
theorem dX5_countAlone_0 : decode cX5_countAlone 0 = .ok (.aload_n 0, 1) := dX5_countAlone_0g.1
theorem dX5_countAlone_1 : decode cX5_countAlone 1 = .ok (.iload_n 1, 1) := dX5_countAlone_0g.2.1
theorem dX5_countAlone_2 : decode cX5_countAlone 2 = .ok (.invokevirtual 34, 3) := dX5_countAlone_0g.2.2.1
theorem dX5_countAlone_5 : decode cX5_countAlone 5 = .ok (.iconst 0, 1) := dX5_countAlone_0g.2.2.2.1
theorem dX5_countAlone_6 : decode cX5_countAlone 6 = .ok (.istore_n 2, 1) := dX5_countAlone_0g.2.2.2.2.1
theorem dX5_countAlone_7 : decode cX5_countAlone 7 = .ok (.aload_n 0, 1) := dX5_countAlone_0g.2.2.2.2.2.1
theorem dX5_countAlone_8 : decode cX5_countAlone 8 = .ok (.getfield 11, 3) := dX5_countAlone_0g.2.2.2.2.2.2.1
theorem dX5_countAlone_11 : decode cX5_countAlone 11 = .ok (.astore_n 3, 1) := dX5_countAlone_0g.2.2.2.2.2.2.2.1
theorem dX5_countAlone_12 : decode cX5_countAlone 12 = .ok (.aload_n 3, 1) := dX5_countAlone_0g.2.2.2.2.2.2.2.2.1
theorem dX5_countAlone_13 : decode cX5_countAlone 13 = .ok (.arraylength, 1) := dX5_countAlone_0g.2.2.2.2.2.2.2.2.2
theorem dX5_countAlone_14g : (decode cX5_countAlone 14 = .ok (.istore 4, 2)) ∧ (decode cX5_countAlone 16 = .ok (.iconst 0, 1)) ∧ (decode cX5_countAlone 17 = .ok (.istore 5, 2)) ∧ (decode cX5_countAlone 19 = .ok (.iload 5, 2)) ∧ (decode cX5_countAlone 21 = .ok (.iload 4, 2)) ∧ (decode cX5_countAlone 23 = .ok (.if_icmp .ge 32, 3)) ∧ (decode cX5_countAlone 26 = .ok (.aload_n 3, 1)) ∧ (decode cX5_countAlone 27 = .ok (.iload 5, 2)) ∧ (decode cX5_countAlone 29 = .ok (.iaload, 1)) ∧ (decode cX5_countAlone 30 = .ok (.istore 6, 2)) := by decide +kernel
theorem dX5_countAlone_14 : decode cX5_countAlone 14 = .ok (.istore 4, 2) := dX5_countAlone_14g.1
theorem dX5_countAlone_16 : decode cX5_countAlone 16 = .ok (.iconst 0, 1) := dX5_countAlone_14g.2.1
theorem dX5_countAlone_17 : decode cX5_countAlone 17 = .ok (.istore 5, 2) := dX5_countAlone_14g.2.2.1
theorem dX5_countAlone_19 : decode cX5_countAlone 19 = .ok (.iload 5, 2) := dX5_countAlone_14g.2.2.2.1
theorem dX5_countAlone_21 : decode cX5_countAlone 21 = .ok (.iload 4, 2) := dX5_countAlone_14g.2.2.2.2.1
theorem dX5_countAlone_23 : decode cX5_countAlone 23 = .ok (.if_icmp .ge 32, 3) := dX5_countAlone_14g.2.2.2.2.2.1
theorem dX5_countAlone_26 : decode cX5_countAlone 26 = .ok (.aload_n 3, 1) := dX5_countAlone_14g.2.2.2.2.2.2.1
theorem dX5_countAlone_27 : decode cX5_countAlone 27 = .ok (.iload 5, 2) := dX5_countAlone_14g.2.2.2.2.2.2.2.1
theorem dX5_countAlone_29 : decode cX5_countAlone 29 = .ok (.iaload, 1) := dX5_countAlone_14g.2.2.2.2.2.2.2.2.1
theorem dX5_countAlone_30 : decode cX5_countAlone 30 = .ok (.istore 6, 2) := dX5_countAlone_14g.2.2.2.2.2.2.2.2.2
theorem dX5_countAlone_32g : (decode cX5_countAlone 32 = .ok (.iload_n 2, 1)) ∧ (decode cX5_countAlone 33 = .ok (.iload 6, 2)) ∧ (decode cX5_countAlone 35 = .ok (.aload_n 0, 1)) ∧ (decode cX5_countAlone 36 = .ok (.getfield 23, 3)) ∧ (decode cX5_countAlone 39 = .ok (.if_icmp .ne 7, 3)) ∧ (decode cX5_countAlone 42 = .ok (.iconst 1, 1)) ∧ (decode cX5_countAlone 43 = .ok (.goto 4, 3)) ∧ (decode cX5_countAlone 46 = .ok (.iconst 0, 1)) ∧ (decode cX5_countAlone 47 = .ok (.iadd, 1)) ∧ (decode cX5_countAlone 48 = .ok (.istore_n 2, 1)) := by decide +kernel
theorem dX5_countAlone_32 : decode cX5_countAlone 32 = .ok (.iload_n 2, 1) := dX5_countAlone_32g.1
theorem dX5_countAlone_33 : decode cX5_countAlone 33 = .ok (.iload 6, 2) := dX5_countAlone_32g.2.1
theorem dX5_countAlone_35 : decode cX5_countAlone 35 = .ok (.aload_n 0, 1) := dX5_countAlone_32g.2.2.1
theorem dX5_countAlone_36 : decode cX5_countAlone 36 = .ok (.getfield 23, 3) := dX5_countAlone_32g.2.2.2.1
theorem dX5_countAlone_39 : decode cX5_countAlone 39 = .ok (.if_icmp .ne 7, 3) := dX5_countAlone_32g.2.2.2.2.1
theorem dX5_countAlone_42 : decode cX5_countAlone 42 = .ok (.iconst 1, 1) := dX5_countAlone_32g.2.2.2.2.2.1
theorem dX5_countAlone_43 : decode cX5_countAlone 43 = .ok (.goto 4, 3) := dX5_countAlone_32g.2.2.2.2.2.2.1
theorem dX5_countAlone_46 : decode cX5_countAlone 46 = .ok (.iconst 0, 1) := dX5_countAlone_32g.2.2.2.2.2.2.2.1
theorem dX5_countAlone_47 : decode cX5_countAlone 47 = .ok (.iadd, 1) := dX5_countAlone_32g.2.2.2.2.2.2.2.2.1
theorem dX5_countAlone_48 : decode cX5_countAlone 48 = .ok (.istore_n 2, 1) := dX5_countAlone_32g.2.2.2.2.2.2.2.2.2
theorem dX5_countAlone_49g : (decode cX5_countAlone 49 = .ok (.iinc 5 1, 3)) ∧ (decode cX5_countAlone 52 = .ok (.goto (-33), 3)) ∧ (decode cX5_countAlone 55 = .ok (.iload_n 2, 1)) ∧ (decode cX5_countAlone 56 = .ok (.ireturn, 1)) := by decide +kernel
theorem dX5_countAlone_49 : decode cX5_countAlone 49 = .ok (.iinc 5 1, 3) := dX5_countAlone_49g.1
theorem dX5_countAlone_52 : decode cX5_countAlone 52 = .ok (.goto (-33), 3) := dX5_countAlone_49g.2.1
theorem dX5_countAlone_55 : decode cX5_countAlone 55 = .ok (.iload_n 2, 1) := dX5_countAlone_49g.2.2.1
theorem dX5_countAlone_56 : decode cX5_countAlone 56 = .ok (.ireturn, 1) := dX5_countAlone_49g.2.2.2
set_option maxHeartbeats 4000000 in
set_option maxRecDepth 100000 in
theorem c_X5_countAlone (l : Launch) (E : Nat → Nat) (D : va_G) (G : th_G) (h0 : Nat) (hG0 : G h0 = some (12, 0)) (x1 : Int32) : Met l yX5_countAlone (tb (.code yX5_countAlone cX5_countAlone 7 (some .int))) (rm 7) (va_Pc [.ref h0, .int x1] (th_P E D G)) (QI E D G (fun r => True)) 0 0 (th_A G) := by
  refine Met.ofW (cc := cX5_countAlone) (maxL := 7) (ret := (some .int)) (by decide) rfl ?_
  intro p e s m args below meth c s₁ B hml hv
  obtain ⟨hav, hI, hN, hK⟩ := hv
  have hx := B.exec
  have hb := B.bytes
  have hr := B.returns
  have hts := atoms_spec (ws := tb (.code yX5_countAlone cX5_countAlone 7 (some .int))) B.pre
  have hown : s.vm.findClass RX5 = some m.cls := findClass_of_methodNamed B.named
  have hlocks := B.notSynchronized
  have hS : va_S (th_A G) s.heap s.heap [] := va_S.rf
  have hl := lv_entry ([.ref h0, .int x1]) (n := 7) (Nat.le_of_ble_eq_true rfl)
  rw [show entryFrame m args 7 = entryFrame m ([.ref h0, .int x1] : List Value).toArray 7 from by rw [hav], lg_entry_eq]
  generalize (lg_sl ([.ref h0, .int x1]) ++ List.replicate (7 - (lg_sl ([.ref h0, .int x1])).length) Slot.unset).toArray = ls at hl ⊢
  have hl : lv_has ls 7 [(0, .ref h0), (1, .int x1)] := hl
  generalize hR : (headSpec (tb (.code yX5_countAlone cX5_countAlone 7 (some .int))) (rm 7)).room = R
  have hR := hR.symm
  generalize hQ : MQ below (QI E D G (fun r => True)) args s 0 0 (th_A G) = QF
  have hQ := hQ.symm
  have J_19 : ∀ (nn : Nat) (H : Heap) (locs : List Loc) (ls : Array Slot) (v1512 : Int32) (a1513 : Nat) (v1514 : Int32), (Int.toNat (2304 - v1512.toInt) = nn) → lv_has ls 7 [(5, .int v1512), (4, .int 2304), (3, .ref a1513), (2, .int v1514), (0, .ref h0), (1, .int x1)] → ((0 : Int) ≤ v1512.toInt ∧ v1512.toInt ≤ 2304) → G a1513 = some (0, 2304) → th_I (okC E) D G [] H → va_S (th_A G) s.heap H locs → W p l e R s m args below meth c H locs 0 0 QF (F0 m 19 ls []) := by
    intro nn
    induction nn using Nat.strongRecOn with
    | ind nn ih_19 =>
      intro H locs ls v1512 a1513 v1514 hm hl k1515 ha1513 hI hS
      refine lv_iload hx hb dX5_countAlone_19 (lv_at hl 0 rfl) ?_
      refine lv_iload hx hb dX5_countAlone_21 (lv_at hl 1 rfl) ?_
      refine lv_icmp_ge (tgt := 55) hx hb dX5_countAlone_23 (by decide) (fun c1516 => ?_) (fun c1516 => ?_)
      · skip
        have k1517 := iv_le (X := (2304)) (Y := v1512.toInt) (by decide) rfl c1516
        refine lv_iload_n hx hb dX5_countAlone_55 rfl (lv_at hl 3 rfl) ?_
        have hpost : True := trivial
        rw [hQ]
        exact W.iret (v := v1514) hx hb hr (fun t ht hW => ⟨⟨v1514, (), rfl, hpost, by rw [ht]; exact hI, hN.warm hW, va_K.moved hW.alike hK⟩, hS.F ht⟩) hS.2.2 dX5_countAlone_56
      · skip
        have k1518 := iv_nle (X := (2304)) (Y := v1512.toInt) (by decide) rfl c1516
        refine lv_aload_n hx hb dX5_countAlone_26 rfl (lv_at hl 2 rfl) ?_
        refine lv_iload hx hb dX5_countAlone_27 (lv_at hl 0 rfl) ?_
        obtain ⟨_, hA1519⟩ := op_0 hI ha1513 List.not_mem_nil
        refine th_iald hx hb hK hA1519 0 rfl (iv_in (X := v1512.toInt) rfl (by omega) (by omega)) dX5_countAlone_29 (fun v1520 _ => ?_)
        refine lv_istore (lv' := [(6, .int v1520), (5, .int v1512), (4, .int 2304), (3, .ref a1513), (2, .int v1514), (0, .ref h0), (1, .int x1)]) hx hb dX5_countAlone_30 hl (by decide) rfl (fun ls hl => ?_)
        refine lv_iload_n hx hb dX5_countAlone_32 rfl (lv_at hl 4 rfl) ?_
        refine lv_iload hx hb dX5_countAlone_33 (lv_at hl 0 rfl) ?_
        refine lv_aload_n hx hb dX5_countAlone_35 rfl (lv_at hl 5 rfl) ?_
        obtain ⟨a1521, a1523, a1525, a1527, w1529, w1530, hO, hq1522, hq1524, hq1526, hq1528⟩ := op_12 hI hG0 List.not_mem_nil
        have hI := th_I.weak (a := h0) hI
        refine th_get hx hb hts inT5 hown hK hO rfl 5 (by decide) (hts _ (tb_c wd_281)) rfl rfl dX5_countAlone_36 ?_
        have k1531 := iv_lo v1520
        have k1532 := iv_hi v1520
        have k1533 := iv_lo w1530
        have k1534 := iv_hi w1530
        refine lv_icmp_ne (tgt := 46) hx hb dX5_countAlone_39 (by decide) (fun c1535 => ?_) (fun c1535 => ?_)
        · skip
          have k1536 := iv_ne (X := v1520.toInt) (Y := w1530.toInt) rfl rfl c1535
          refine lv_iconst (v := 0) hx hb dX5_countAlone_46 (by decide) ?_
          refine lv_iadd hx hb dX5_countAlone_47 ?_
          refine lv_topi (fun v1537 e1538 => ?_)
          have k1539 := iv_lo v1514
          have k1540 := iv_hi v1514
          have tv1537 : v1537.toInt = v1514.toInt + (0) := iv_add rfl (by decide) e1538 (by omega) (by omega)
          refine lv_istore_n (lv' := [(2, .int v1537), (6, .int v1520), (5, .int v1512), (4, .int 2304), (3, .ref a1513), (0, .ref h0), (1, .int x1)]) hx hb dX5_countAlone_48 rfl hl (by decide) rfl (fun ls hl => ?_)
          obtain ⟨v1541, e1542⟩ : ∃ y : Int32, y = v1512 + (1) := ⟨_, rfl⟩
          have tv1541 : v1541.toInt = v1512.toInt + (1) := iv_add rfl (by decide) e1542 (by omega) (by omega)
          refine lv_iinc (v := v1541) (lv' := [(5, .int v1541), (2, .int v1537), (6, .int v1520), (4, .int 2304), (3, .ref a1513), (0, .ref h0), (1, .int x1)]) hx hb dX5_countAlone_49 hl (k := 2) rfl (by rw [e1542]; rfl) (by decide) rfl (fun ls hl => ?_)
          refine lv_goto (tgt := 19) hx hb dX5_countAlone_52 (by decide) ?_
          have hI := th_I.close hI hG0 hO (ok_12 hq1522 hq1524 hq1526 hq1528)
          exact ih_19 _ (by omega) H locs ls v1541 a1513 v1537 rfl (lv_sub hl [0, 3, 4, 1, 5, 6] rfl) ⟨by omega, by omega⟩ ha1513 hI hS
        · skip
          have k1543 := iv_eq (X := v1520.toInt) (Y := w1530.toInt) rfl rfl c1535
          refine lv_iconst (v := 1) hx hb dX5_countAlone_42 (by decide) ?_
          refine lv_goto (tgt := 47) hx hb dX5_countAlone_43 (by decide) ?_
          refine lv_iadd hx hb dX5_countAlone_47 ?_
          refine lv_topi (fun v1544 e1545 => ?_)
          try have tv1544 : v1544.toInt = v1514.toInt + (1) := iv_add rfl (by decide) e1545 (by omega) (by omega)
          refine lv_istore_n (lv' := [(2, .int v1544), (6, .int v1520), (5, .int v1512), (4, .int 2304), (3, .ref a1513), (0, .ref h0), (1, .int x1)]) hx hb dX5_countAlone_48 rfl hl (by decide) rfl (fun ls hl => ?_)
          obtain ⟨v1546, e1547⟩ : ∃ y : Int32, y = v1512 + (1) := ⟨_, rfl⟩
          have tv1546 : v1546.toInt = v1512.toInt + (1) := iv_add rfl (by decide) e1547 (by omega) (by omega)
          refine lv_iinc (v := v1546) (lv' := [(5, .int v1546), (2, .int v1544), (6, .int v1520), (4, .int 2304), (3, .ref a1513), (0, .ref h0), (1, .int x1)]) hx hb dX5_countAlone_49 hl (k := 2) rfl (by rw [e1547]; rfl) (by decide) rfl (fun ls hl => ?_)
          refine lv_goto (tgt := 19) hx hb dX5_countAlone_52 (by decide) ?_
          have hI := th_I.close hI hG0 hO (ok_12 hq1522 hq1524 hq1526 hq1528)
          exact ih_19 _ (by omega) H locs ls v1546 a1513 v1544 rfl (lv_sub hl [0, 3, 4, 1, 5, 6] rfl) ⟨by omega, by omega⟩ ha1513 hI hS
  refine lv_aload_n hx hb dX5_countAlone_0 rfl (lv_at hl 0 rfl) ?_
  refine lv_iload_n hx hb dX5_countAlone_1 rfl (lv_at hl 1 rfl) ?_
  refine th_cVv (As := [.int x1]) (rest := []) (n := 1) (d := 6) ⟨hx, hb, hml, hown, hts⟩ (c_X5_look l E D G h0 hG0 x1) wd_999 wd_1001 wp_28 wd_10 wd_1002 (by decide +kernel) ⟨by rw [hR]; exact Nat.le_of_ble_eq_true rfl, by rw [hR]; exact Nat.le_of_ble_eq_true rfl⟩ hI hN hK hS (rc_12 hI hG0 List.not_mem_nil) rfl rfl hl.1 rfl (Nat.le_of_ble_eq_true rfl) dX5_countAlone_2 ⟨Nat.zero_le _, Nat.zero_le _⟩ (fun H locs hI hS => ?_)
  refine lv_iconst (v := 0) hx hb dX5_countAlone_5 (by decide) ?_
  refine lv_istore_n (lv' := [(2, .int 0), (0, .ref h0), (1, .int x1)]) hx hb dX5_countAlone_6 rfl hl (by decide) rfl (fun ls hl => ?_)
  refine lv_aload_n hx hb dX5_countAlone_7 rfl (lv_at hl 1 rfl) ?_
  obtain ⟨a1549, a1551, a1553, a1555, w1557, w1558, hO, hq1550, hq1552, hq1554, hq1556⟩ := op_12 hI hG0 List.not_mem_nil
  have hI := th_I.weak (a := h0) hI
  refine th_get hx hb hts inT5 hown hK hO rfl 2 (by decide) (hts _ (tb_c wd_278)) rfl rfl dX5_countAlone_8 ?_
  refine lv_astore_n (lv' := [(3, .ref a1553), (2, .int 0), (0, .ref h0), (1, .int x1)]) hx hb dX5_countAlone_11 rfl hl (by decide) rfl (fun ls hl => ?_)
  refine lv_aload_n hx hb dX5_countAlone_12 rfl (lv_at hl 0 rfl) ?_
  obtain ⟨_, hA1559⟩ := op_0 hI hq1554 (th_ne hG0 hq1554 (show (12 : Nat) ≠ 0 by decide))
  refine va_alen hx hb hK (th_one hA1559) 0 0 rfl (v := 2304) rfl (show Int32.ofNat 2304 = (2304 : Int32) from by decide) dX5_countAlone_13 ?_
  refine lv_istore (lv' := [(4, .int 2304), (3, .ref a1553), (2, .int 0), (0, .ref h0), (1, .int x1)]) hx hb dX5_countAlone_14 hl (by decide) rfl (fun ls hl => ?_)
  refine lv_iconst (v := 0) hx hb dX5_countAlone_16 (by decide) ?_
  refine lv_istore (lv' := [(5, .int 0), (4, .int 2304), (3, .ref a1553), (2, .int 0), (0, .ref h0), (1, .int x1)]) hx hb dX5_countAlone_17 hl (by decide) rfl (fun ls hl => ?_)
  have hI := th_I.close hI hG0 hO (ok_12 hq1550 hq1552 hq1554 hq1556)
  have zl : (0 : Int32).toInt = 0 := by decide
  exact J_19 _ H locs ls 0 a1553 0 rfl (lv_sub hl [0, 1, 2, 3, 4, 5] rfl) ⟨by decide, by decide⟩ hq1554 hI hS
theorem dX5_findAlone_0g : (decode cX5_findAlone 0 = .ok (.aload_n 0, 1)) ∧ (decode cX5_findAlone 1 = .ok (.iload_n 1, 1)) ∧ (decode cX5_findAlone 2 = .ok (.invokevirtual 34, 3)) ∧ (decode cX5_findAlone 5 = .ok (.iconst 0, 1)) ∧ (decode cX5_findAlone 6 = .ok (.istore_n 3, 1)) ∧ (decode cX5_findAlone 7 = .ok (.iconst 0, 1)) ∧ (decode cX5_findAlone 8 = .ok (.istore 4, 2)) ∧ (decode cX5_findAlone 10 = .ok (.iload 4, 2)) ∧ (decode cX5_findAlone 12 = .ok (.sipush 2304, 3)) ∧ (decode cX5_findAlone 15 = .ok (.if_icmp .ge 34, 3)) := by decide +kernel
theorem dX5_findAlone_0 : decode cX5_findAlone 0 = .ok (.aload_n 0, 1) := dX5_findAlone_0g.1
theorem dX5_findAlone_1 : decode cX5_findAlone 1 = .ok (.iload_n 1, 1) := dX5_findAlone_0g.2.1
theorem dX5_findAlone_2 : decode cX5_findAlone 2 = .ok (.invokevirtual 34, 3) := dX5_findAlone_0g.2.2.1
theorem dX5_findAlone_5 : decode cX5_findAlone 5 = .ok (.iconst 0, 1) := dX5_findAlone_0g.2.2.2.1
theorem dX5_findAlone_6 : decode cX5_findAlone 6 = .ok (.istore_n 3, 1) := dX5_findAlone_0g.2.2.2.2.1
theorem dX5_findAlone_7 : decode cX5_findAlone 7 = .ok (.iconst 0, 1) := dX5_findAlone_0g.2.2.2.2.2.1
theorem dX5_findAlone_8 : decode cX5_findAlone 8 = .ok (.istore 4, 2) := dX5_findAlone_0g.2.2.2.2.2.2.1
theorem dX5_findAlone_10 : decode cX5_findAlone 10 = .ok (.iload 4, 2) := dX5_findAlone_0g.2.2.2.2.2.2.2.1
theorem dX5_findAlone_12 : decode cX5_findAlone 12 = .ok (.sipush 2304, 3) := dX5_findAlone_0g.2.2.2.2.2.2.2.2.1
theorem dX5_findAlone_15 : decode cX5_findAlone 15 = .ok (.if_icmp .ge 34, 3) := dX5_findAlone_0g.2.2.2.2.2.2.2.2.2
theorem dX5_findAlone_18g : (decode cX5_findAlone 18 = .ok (.aload_n 0, 1)) ∧ (decode cX5_findAlone 19 = .ok (.getfield 11, 3)) ∧ (decode cX5_findAlone 22 = .ok (.iload 4, 2)) ∧ (decode cX5_findAlone 24 = .ok (.iaload, 1)) ∧ (decode cX5_findAlone 25 = .ok (.aload_n 0, 1)) ∧ (decode cX5_findAlone 26 = .ok (.getfield 23, 3)) ∧ (decode cX5_findAlone 29 = .ok (.if_icmp .ne 14, 3)) ∧ (decode cX5_findAlone 32 = .ok (.iload_n 3, 1)) ∧ (decode cX5_findAlone 33 = .ok (.iload_n 2, 1)) ∧ (decode cX5_findAlone 34 = .ok (.if_icmp .ne 6, 3)) := by decide +kernel
theorem dX5_findAlone_18 : decode cX5_findAlone 18 = .ok (.aload_n 0, 1) := dX5_findAlone_18g.1
theorem dX5_findAlone_19 : decode cX5_findAlone 19 = .ok (.getfield 11, 3) := dX5_findAlone_18g.2.1
theorem dX5_findAlone_22 : decode cX5_findAlone 22 = .ok (.iload 4, 2) := dX5_findAlone_18g.2.2.1
theorem dX5_findAlone_24 : decode cX5_findAlone 24 = .ok (.iaload, 1) := dX5_findAlone_18g.2.2.2.1
theorem dX5_findAlone_25 : decode cX5_findAlone 25 = .ok (.aload_n 0, 1) := dX5_findAlone_18g.2.2.2.2.1
theorem dX5_findAlone_26 : decode cX5_findAlone 26 = .ok (.getfield 23, 3) := dX5_findAlone_18g.2.2.2.2.2.1
theorem dX5_findAlone_29 : decode cX5_findAlone 29 = .ok (.if_icmp .ne 14, 3) := dX5_findAlone_18g.2.2.2.2.2.2.1
theorem dX5_findAlone_32 : decode cX5_findAlone 32 = .ok (.iload_n 3, 1) := dX5_findAlone_18g.2.2.2.2.2.2.2.1
theorem dX5_findAlone_33 : decode cX5_findAlone 33 = .ok (.iload_n 2, 1) := dX5_findAlone_18g.2.2.2.2.2.2.2.2.1
theorem dX5_findAlone_34 : decode cX5_findAlone 34 = .ok (.if_icmp .ne 6, 3) := dX5_findAlone_18g.2.2.2.2.2.2.2.2.2
theorem dX5_findAlone_37g : (decode cX5_findAlone 37 = .ok (.iload 4, 2)) ∧ (decode cX5_findAlone 39 = .ok (.ireturn, 1)) ∧ (decode cX5_findAlone 40 = .ok (.iinc 3 1, 3)) ∧ (decode cX5_findAlone 43 = .ok (.iinc 4 1, 3)) ∧ (decode cX5_findAlone 46 = .ok (.goto (-36), 3)) ∧ (decode cX5_findAlone 49 = .ok (.iconst (-1), 1)) ∧ (decode cX5_findAlone 50 = .ok (.ireturn, 1)) := by decide +kernel
theorem dX5_findAlone_37 : decode cX5_findAlone 37 = .ok (.iload 4, 2) := dX5_findAlone_37g.1
theorem dX5_findAlone_39 : decode cX5_findAlone 39 = .ok (.ireturn, 1) := dX5_findAlone_37g.2.1
theorem dX5_findAlone_40 : decode cX5_findAlone 40 = .ok (.iinc 3 1, 3) := dX5_findAlone_37g.2.2.1
theorem dX5_findAlone_43 : decode cX5_findAlone 43 = .ok (.iinc 4 1, 3) := dX5_findAlone_37g.2.2.2.1
theorem dX5_findAlone_46 : decode cX5_findAlone 46 = .ok (.goto (-36), 3) := dX5_findAlone_37g.2.2.2.2.1
theorem dX5_findAlone_49 : decode cX5_findAlone 49 = .ok (.iconst (-1), 1) := dX5_findAlone_37g.2.2.2.2.2.1
theorem dX5_findAlone_50 : decode cX5_findAlone 50 = .ok (.ireturn, 1) := dX5_findAlone_37g.2.2.2.2.2.2
set_option maxHeartbeats 4000000 in
set_option maxRecDepth 100000 in
theorem c_X5_findAlone (l : Launch) (E : Nat → Nat) (D : va_G) (G : th_G) (h0 : Nat) (hG0 : G h0 = some (12, 0)) (x1 x2 : Int32) : Met l yX5_findAlone (tb (.code yX5_findAlone cX5_findAlone 5 (some .int))) (rm 7) (va_Pc [.ref h0, .int x1, .int x2] (th_P E D G)) (QI E D G (fun r => True)) 0 0 (th_A G) := by
  refine Met.ofW (cc := cX5_findAlone) (maxL := 5) (ret := (some .int)) (by decide) rfl ?_
  intro p e s m args below meth c s₁ B hml hv
  obtain ⟨hav, hI, hN, hK⟩ := hv
  have hx := B.exec
  have hb := B.bytes
  have hr := B.returns
  have hts := atoms_spec (ws := tb (.code yX5_findAlone cX5_findAlone 5 (some .int))) B.pre
  have hown : s.vm.findClass RX5 = some m.cls := findClass_of_methodNamed B.named
  have hlocks := B.notSynchronized
  have hS : va_S (th_A G) s.heap s.heap [] := va_S.rf
  have hl := lv_entry ([.ref h0, .int x1, .int x2]) (n := 5) (Nat.le_of_ble_eq_true rfl)
  rw [show entryFrame m args 5 = entryFrame m ([.ref h0, .int x1, .int x2] : List Value).toArray 5 from by rw [hav], lg_entry_eq]
  generalize (lg_sl ([.ref h0, .int x1, .int x2]) ++ List.replicate (5 - (lg_sl ([.ref h0, .int x1, .int x2])).length) Slot.unset).toArray = ls at hl ⊢
  have hl : lv_has ls 5 [(0, .ref h0), (1, .int x1), (2, .int x2)] := hl
  generalize hR : (headSpec (tb (.code yX5_findAlone cX5_findAlone 5 (some .int))) (rm 7)).room = R
  have hR := hR.symm
  generalize hQ : MQ below (QI E D G (fun r => True)) args s 0 0 (th_A G) = QF
  have hQ := hQ.symm
  have J_10 : ∀ (nn : Nat) (H : Heap) (locs : List Loc) (ls : Array Slot) (v1204 : Int32) (v1205 : Int32), (Int.toNat (2304 - v1204.toInt) = nn) → lv_has ls 5 [(4, .int v1204), (3, .int v1205), (0, .ref h0), (1, .int x1), (2, .int x2)] → ((0 : Int) ≤ v1204.toInt ∧ v1204.toInt ≤ 2304) → th_I (okC E) D G [] H → va_S (th_A G) s.heap H locs → W p l e R s m args below meth c H locs 0 0 QF (F0 m 10 ls []) := by
    intro nn
    induction nn using Nat.strongRecOn with
    | ind nn ih_10 =>
      intro H locs ls v1204 v1205 hm hl k1206 hI hS
      refine lv_iload hx hb dX5_findAlone_10 (lv_at hl 0 rfl) ?_
      refine lv_sipush (v := 2304) hx hb dX5_findAlone_12 (by decide) ?_
      refine lv_icmp_ge (tgt := 49) hx hb dX5_findAlone_15 (by decide) (fun c1207 => ?_) (fun c1207 => ?_)
      · skip
        have k1208 := iv_le (X := (2304)) (Y := v1204.toInt) (by decide) rfl c1207
        refine lv_iconst (v := (-1)) hx hb dX5_findAlone_49 (by decide) ?_
        have hpost : True := trivial
        rw [hQ]
        exact W.iret (v := (-1)) hx hb hr (fun t ht hW => ⟨⟨(-1), (), rfl, hpost, by rw [ht]; exact hI, hN.warm hW, va_K.moved hW.alike hK⟩, hS.F ht⟩) hS.2.2 dX5_findAlone_50
      · skip
        have k1209 := iv_nle (X := (2304)) (Y := v1204.toInt) (by decide) rfl c1207
        refine lv_aload_n hx hb dX5_findAlone_18 rfl (lv_at hl 2 rfl) ?_
        obtain ⟨a1210, a1212, a1214, a1216, w1218, w1219, hO, hq1211, hq1213, hq1215, hq1217⟩ := op_12 hI hG0 List.not_mem_nil
        have hI := th_I.weak (a := h0) hI
        refine th_get hx hb hts inT5 hown hK hO rfl 2 (by decide) (hts _ (tb_c wd_278)) rfl rfl dX5_findAlone_19 ?_
        refine lv_iload hx hb dX5_findAlone_22 (lv_at hl 0 rfl) ?_
        obtain ⟨_, hA1220⟩ := op_0 hI hq1215 (th_ne hG0 hq1215 (show (12 : Nat) ≠ 0 by decide))
        refine th_iald hx hb hK hA1220 0 rfl (iv_in (X := v1204.toInt) rfl (by omega) (by omega)) dX5_findAlone_24 (fun v1221 _ => ?_)
        refine lv_aload_n hx hb dX5_findAlone_25 rfl (lv_at hl 2 rfl) ?_
        refine th_get hx hb hts inT5 hown hK hO rfl 5 (by decide) (hts _ (tb_c wd_281)) rfl rfl dX5_findAlone_26 ?_
        have k1222 := iv_lo v1221
        have k1223 := iv_hi v1221
        have k1224 := iv_lo w1219
        have k1225 := iv_hi w1219
        refine lv_icmp_ne (tgt := 43) hx hb dX5_findAlone_29 (by decide) (fun c1226 => ?_) (fun c1226 => ?_)
        · skip
          have k1227 := iv_ne (X := v1221.toInt) (Y := w1219.toInt) rfl rfl c1226
          obtain ⟨v1228, e1229⟩ : ∃ y : Int32, y = v1204 + (1) := ⟨_, rfl⟩
          have tv1228 : v1228.toInt = v1204.toInt + (1) := iv_add rfl (by decide) e1229 (by omega) (by omega)
          refine lv_iinc (v := v1228) (lv' := [(4, .int v1228), (3, .int v1205), (0, .ref h0), (1, .int x1), (2, .int x2)]) hx hb dX5_findAlone_43 hl (k := 0) rfl (by rw [e1229]; rfl) (by decide) rfl (fun ls hl => ?_)
          refine lv_goto (tgt := 10) hx hb dX5_findAlone_46 (by decide) ?_
          have hI := th_I.close hI hG0 hO (ok_12 hq1211 hq1213 hq1215 hq1217)
          exact ih_10 _ (by omega) H locs ls v1228 v1205 rfl (lv_sub hl [0, 1, 2, 3, 4] rfl) ⟨by omega, by omega⟩ hI hS
        · skip
          have k1230 := iv_eq (X := v1221.toInt) (Y := w1219.toInt) rfl rfl c1226
          refine lv_iload_n hx hb dX5_findAlone_32 rfl (lv_at hl 1 rfl) ?_
          refine lv_iload_n hx hb dX5_findAlone_33 rfl (lv_at hl 4 rfl) ?_
          have k1231 := iv_lo v1205
          have k1232 := iv_hi v1205
          have k1233 := iv_lo x2
          have k1234 := iv_hi x2
          refine lv_icmp_ne (tgt := 40) hx hb dX5_findAlone_34 (by decide) (fun c1235 => ?_) (fun c1235 => ?_)
          · skip
            have k1236 := iv_ne (X := v1205.toInt) (Y := x2.toInt) rfl rfl c1235
            obtain ⟨v1237, e1238⟩ : ∃ y : Int32, y = v1205 + (1) := ⟨_, rfl⟩
            refine lv_iinc (v := v1237) (lv' := [(3, .int v1237), (4, .int v1204), (0, .ref h0), (1, .int x1), (2, .int x2)]) hx hb dX5_findAlone_40 hl (k := 1) rfl (by rw [e1238]; rfl) (by decide) rfl (fun ls hl => ?_)
            obtain ⟨v1239, e1240⟩ : ∃ y : Int32, y = v1204 + (1) := ⟨_, rfl⟩
            have tv1239 : v1239.toInt = v1204.toInt + (1) := iv_add rfl (by decide) e1240 (by omega) (by omega)
            refine lv_iinc (v := v1239) (lv' := [(4, .int v1239), (3, .int v1237), (0, .ref h0), (1, .int x1), (2, .int x2)]) hx hb dX5_findAlone_43 hl (k := 1) rfl (by rw [e1240]; rfl) (by decide) rfl (fun ls hl => ?_)
            refine lv_goto (tgt := 10) hx hb dX5_findAlone_46 (by decide) ?_
            have hI := th_I.close hI hG0 hO (ok_12 hq1211 hq1213 hq1215 hq1217)
            exact ih_10 _ (by omega) H locs ls v1239 v1237 rfl (lv_sub hl [0, 1, 2, 3, 4] rfl) ⟨by omega, by omega⟩ hI hS
          · skip
            have k1241 := iv_eq (X := v1205.toInt) (Y := x2.toInt) rfl rfl c1235
            refine lv_iload hx hb dX5_findAlone_37 (lv_at hl 0 rfl) ?_
            have hI := th_I.close hI hG0 hO (ok_12 hq1211 hq1213 hq1215 hq1217)
            have hpost : True := trivial
            rw [hQ]
            exact W.iret (v := v1204) hx hb hr (fun t ht hW => ⟨⟨v1204, (), rfl, hpost, by rw [ht]; exact hI, hN.warm hW, va_K.moved hW.alike hK⟩, hS.F ht⟩) hS.2.2 dX5_findAlone_39
  refine lv_aload_n hx hb dX5_findAlone_0 rfl (lv_at hl 0 rfl) ?_
  refine lv_iload_n hx hb dX5_findAlone_1 rfl (lv_at hl 1 rfl) ?_
  refine th_cVv (As := [.int x1]) (rest := []) (n := 1) (d := 6) ⟨hx, hb, hml, hown, hts⟩ (c_X5_look l E D G h0 hG0 x1) wd_999 wd_1001 wp_28 wd_10 wd_1002 (by decide +kernel) ⟨by rw [hR]; exact Nat.le_of_ble_eq_true rfl, by rw [hR]; exact Nat.le_of_ble_eq_true rfl⟩ hI hN hK hS (rc_12 hI hG0 List.not_mem_nil) rfl rfl hl.1 rfl (Nat.le_of_ble_eq_true rfl) dX5_findAlone_2 ⟨Nat.zero_le _, Nat.zero_le _⟩ (fun H locs hI hS => ?_)
  refine lv_iconst (v := 0) hx hb dX5_findAlone_5 (by decide) ?_
  refine lv_istore_n (lv' := [(3, .int 0), (0, .ref h0), (1, .int x1), (2, .int x2)]) hx hb dX5_findAlone_6 rfl hl (by decide) rfl (fun ls hl => ?_)
  refine lv_iconst (v := 0) hx hb dX5_findAlone_7 (by decide) ?_
  refine lv_istore (lv' := [(4, .int 0), (3, .int 0), (0, .ref h0), (1, .int x1), (2, .int x2)]) hx hb dX5_findAlone_8 hl (by decide) rfl (fun ls hl => ?_)
  have zl : (0 : Int32).toInt = 0 := by decide
  exact J_10 _ H locs ls 0 0 rfl (lv_sub hl [0, 1, 2, 3, 4] rfl) ⟨by decide, by decide⟩ hI hS
